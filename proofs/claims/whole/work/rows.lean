section
-- ===== PART A: goes FIRST, ahead of the names: the tables' words, and 'selects' of the private methods out of them =====
/-- a private method of a class that the tables say can be made, by its rows of tables_1 -/
def lw_okq (q : MethodName × Nat) : Prop := (q.1.cls ≠ "java/lang/invoke/MethodHandle" ∧ q.1.cls ≠ "java/lang/invoke/VarHandle") ∧ Cond.instantiable q.1.cls q.2 ∈ tables_1 ∧ Cond.privateMethod q.1 ∈ tables_1 ∧ Cond.instanceMethod q.1 ∈ tables_1
theorem lw_p0 : lw_okq (⟨"DeskStack", "registerNumbered", "(I)LDeskStack$Shelf;"⟩, 7) := ⟨⟨by decide +kernel, by decide +kernel⟩, List.mem_of_getElem? (i := 18) (by decide +kernel), List.mem_of_getElem? (i := 175) (by decide +kernel), List.mem_of_getElem? (i := 176) (by decide +kernel)⟩
theorem lw_p1 : lw_okq (⟨"java/lang/Throwable", "fillInStackTrace", "(I)Ljava/lang/Throwable;"⟩, 6) := ⟨⟨by decide +kernel, by decide +kernel⟩, List.mem_of_getElem? (i := 243) (by decide +kernel), List.mem_of_getElem? (i := 241) (by decide +kernel), List.mem_of_getElem? (i := 242) (by decide +kernel)⟩
theorem lw_p2 : lw_okq (⟨"DeskStack$Nest", "isUnderWay", "()Z"⟩, 4) := ⟨⟨by decide +kernel, by decide +kernel⟩, List.mem_of_getElem? (i := 54) (by decide +kernel), List.mem_of_getElem? (i := 305) (by decide +kernel), List.mem_of_getElem? (i := 306) (by decide +kernel)⟩
theorem lw_p3 : lw_okq (⟨"DeskStack", "doCommand", "()V"⟩, 7) := ⟨⟨by decide +kernel, by decide +kernel⟩, List.mem_of_getElem? (i := 18) (by decide +kernel), List.mem_of_getElem? (i := 328) (by decide +kernel), List.mem_of_getElem? (i := 329) (by decide +kernel)⟩
theorem lw_p4 : lw_okq (⟨"DeskStack", "putWrittenNumber", "()V"⟩, 7) := ⟨⟨by decide +kernel, by decide +kernel⟩, List.mem_of_getElem? (i := 18) (by decide +kernel), List.mem_of_getElem? (i := 338) (by decide +kernel), List.mem_of_getElem? (i := 339) (by decide +kernel)⟩
theorem lw_p5 : lw_okq (⟨"DeskStack$Shelf", "put", "(JILDeskStack$Row;I)V"⟩, 5) := ⟨⟨by decide +kernel, by decide +kernel⟩, List.mem_of_getElem? (i := 26) (by decide +kernel), List.mem_of_getElem? (i := 349) (by decide +kernel), List.mem_of_getElem? (i := 350) (by decide +kernel)⟩
theorem lw_p6 : lw_okq (⟨"DeskStack$Shelf", "set", "(IJILDeskStack$Row;I)V"⟩, 5) := ⟨⟨by decide +kernel, by decide +kernel⟩, List.mem_of_getElem? (i := 26) (by decide +kernel), List.mem_of_getElem? (i := 360) (by decide +kernel), List.mem_of_getElem? (i := 361) (by decide +kernel)⟩
theorem lw_p7 : lw_okq (⟨"DeskStack", "putWrittenText", "()V"⟩, 7) := ⟨⟨by decide +kernel, by decide +kernel⟩, List.mem_of_getElem? (i := 18) (by decide +kernel), List.mem_of_getElem? (i := 364) (by decide +kernel), List.mem_of_getElem? (i := 365) (by decide +kernel)⟩
theorem lw_p8 : lw_okq (⟨"DeskStack", "calculate", "(I)V"⟩, 7) := ⟨⟨by decide +kernel, by decide +kernel⟩, List.mem_of_getElem? (i := 18) (by decide +kernel), List.mem_of_getElem? (i := 381) (by decide +kernel), List.mem_of_getElem? (i := 382) (by decide +kernel)⟩
theorem lw_p9 : lw_okq (⟨"DeskStack", "needNumbers", "(I)V"⟩, 7) := ⟨⟨by decide +kernel, by decide +kernel⟩, List.mem_of_getElem? (i := 18) (by decide +kernel), List.mem_of_getElem? (i := 385) (by decide +kernel), List.mem_of_getElem? (i := 386) (by decide +kernel)⟩
theorem lw_p10 : lw_okq (⟨"DeskStack", "needItems", "(I)V"⟩, 7) := ⟨⟨by decide +kernel, by decide +kernel⟩, List.mem_of_getElem? (i := 18) (by decide +kernel), List.mem_of_getElem? (i := 389) (by decide +kernel), List.mem_of_getElem? (i := 390) (by decide +kernel)⟩
theorem lw_p11 : lw_okq (⟨"DeskStack", "changeNumber", "(I)V"⟩, 7) := ⟨⟨by decide +kernel, by decide +kernel⟩, List.mem_of_getElem? (i := 18) (by decide +kernel), List.mem_of_getElem? (i := 495) (by decide +kernel), List.mem_of_getElem? (i := 496) (by decide +kernel)⟩
theorem lw_p12 : lw_okq (⟨"DeskStack", "moveToOrFromRegister", "(I)V"⟩, 7) := ⟨⟨by decide +kernel, by decide +kernel⟩, List.mem_of_getElem? (i := 18) (by decide +kernel), List.mem_of_getElem? (i := 511) (by decide +kernel), List.mem_of_getElem? (i := 512) (by decide +kernel)⟩
theorem lw_p13 : lw_okq (⟨"DeskStack", "registerOfLetter", "()LDeskStack$Shelf;"⟩, 7) := ⟨⟨by decide +kernel, by decide +kernel⟩, List.mem_of_getElem? (i := 18) (by decide +kernel), List.mem_of_getElem? (i := 515) (by decide +kernel), List.mem_of_getElem? (i := 516) (by decide +kernel)⟩
theorem lw_p14 : lw_okq (⟨"DeskStack", "runIfOrdered", "(I)V"⟩, 7) := ⟨⟨by decide +kernel, by decide +kernel⟩, List.mem_of_getElem? (i := 18) (by decide +kernel), List.mem_of_getElem? (i := 536) (by decide +kernel), List.mem_of_getElem? (i := 537) (by decide +kernel)⟩
theorem lw_p15 : lw_okq (⟨"DeskStack", "runTop", "()V"⟩, 7) := ⟨⟨by decide +kernel, by decide +kernel⟩, List.mem_of_getElem? (i := 18) (by decide +kernel), List.mem_of_getElem? (i := 555) (by decide +kernel), List.mem_of_getElem? (i := 556) (by decide +kernel)⟩
def lw_privs_1 : List (MethodName × Nat) := [(⟨"DeskStack", "registerNumbered", "(I)LDeskStack$Shelf;"⟩, 7), (⟨"java/lang/Throwable", "fillInStackTrace", "(I)Ljava/lang/Throwable;"⟩, 6), (⟨"DeskStack$Nest", "isUnderWay", "()Z"⟩, 4), (⟨"DeskStack", "doCommand", "()V"⟩, 7), (⟨"DeskStack", "putWrittenNumber", "()V"⟩, 7), (⟨"DeskStack$Shelf", "put", "(JILDeskStack$Row;I)V"⟩, 5), (⟨"DeskStack$Shelf", "set", "(IJILDeskStack$Row;I)V"⟩, 5), (⟨"DeskStack", "putWrittenText", "()V"⟩, 7), (⟨"DeskStack", "calculate", "(I)V"⟩, 7), (⟨"DeskStack", "needNumbers", "(I)V"⟩, 7), (⟨"DeskStack", "needItems", "(I)V"⟩, 7), (⟨"DeskStack", "changeNumber", "(I)V"⟩, 7), (⟨"DeskStack", "moveToOrFromRegister", "(I)V"⟩, 7), (⟨"DeskStack", "registerOfLetter", "()LDeskStack$Shelf;"⟩, 7), (⟨"DeskStack", "runIfOrdered", "(I)V"⟩, 7), (⟨"DeskStack", "runTop", "()V"⟩, 7)]
theorem lw_r1 : ∀ q ∈ lw_privs_1, lw_okq q := List.forall_mem_cons.mpr ⟨lw_p0, List.forall_mem_cons.mpr ⟨lw_p1, List.forall_mem_cons.mpr ⟨lw_p2, List.forall_mem_cons.mpr ⟨lw_p3, List.forall_mem_cons.mpr ⟨lw_p4, List.forall_mem_cons.mpr ⟨lw_p5, List.forall_mem_cons.mpr ⟨lw_p6, List.forall_mem_cons.mpr ⟨lw_p7, List.forall_mem_cons.mpr ⟨lw_p8, List.forall_mem_cons.mpr ⟨lw_p9, List.forall_mem_cons.mpr ⟨lw_p10, List.forall_mem_cons.mpr ⟨lw_p11, List.forall_mem_cons.mpr ⟨lw_p12, List.forall_mem_cons.mpr ⟨lw_p13, List.forall_mem_cons.mpr ⟨lw_p14, List.forall_mem_cons.mpr ⟨lw_p15, fun _ h => absurd h List.not_mem_nil⟩⟩⟩⟩⟩⟩⟩⟩⟩⟩⟩⟩⟩⟩⟩⟩
theorem lw_p16 : lw_okq (⟨"DeskStack", "arrangeStack", "(I)V"⟩, 7) := ⟨⟨by decide +kernel, by decide +kernel⟩, List.mem_of_getElem? (i := 18) (by decide +kernel), List.mem_of_getElem? (i := 559) (by decide +kernel), List.mem_of_getElem? (i := 560) (by decide +kernel)⟩
theorem lw_p17 : lw_okq (⟨"DeskStackModel", "isNothing", "(I)Z"⟩, 21) := ⟨⟨by decide +kernel, by decide +kernel⟩, List.mem_of_getElem? (i := 569) (by decide +kernel), List.mem_of_getElem? (i := 660) (by decide +kernel), List.mem_of_getElem? (i := 661) (by decide +kernel)⟩
theorem lw_p18 : lw_okq (⟨"DeskStackModel", "command", "(I)Z"⟩, 21) := ⟨⟨by decide +kernel, by decide +kernel⟩, List.mem_of_getElem? (i := 569) (by decide +kernel), List.mem_of_getElem? (i := 664) (by decide +kernel), List.mem_of_getElem? (i := 665) (by decide +kernel)⟩
theorem lw_p19 : lw_okq (⟨"DeskStackModel", "charAt", "(II)I"⟩, 21) := ⟨⟨by decide +kernel, by decide +kernel⟩, List.mem_of_getElem? (i := 569) (by decide +kernel), List.mem_of_getElem? (i := 668) (by decide +kernel), List.mem_of_getElem? (i := 669) (by decide +kernel)⟩
theorem lw_p20 : lw_okq (⟨"DeskStackModel", "digits", "(I)Z"⟩, 21) := ⟨⟨by decide +kernel, by decide +kernel⟩, List.mem_of_getElem? (i := 569) (by decide +kernel), List.mem_of_getElem? (i := 674) (by decide +kernel), List.mem_of_getElem? (i := 675) (by decide +kernel)⟩
theorem lw_p21 : lw_okq (⟨"DeskStackModel", "fail", "(I)Z"⟩, 21) := ⟨⟨by decide +kernel, by decide +kernel⟩, List.mem_of_getElem? (i := 569) (by decide +kernel), List.mem_of_getElem? (i := 679) (by decide +kernel), List.mem_of_getElem? (i := 680) (by decide +kernel)⟩
theorem lw_p22 : lw_okq (⟨"DeskStackModel", "room", "()Z"⟩, 21) := ⟨⟨by decide +kernel, by decide +kernel⟩, List.mem_of_getElem? (i := 569) (by decide +kernel), List.mem_of_getElem? (i := 683) (by decide +kernel), List.mem_of_getElem? (i := 684) (by decide +kernel)⟩
theorem lw_p23 : lw_okq (⟨"DeskStackModel", "put", "(IJI)V"⟩, 21) := ⟨⟨by decide +kernel, by decide +kernel⟩, List.mem_of_getElem? (i := 569) (by decide +kernel), List.mem_of_getElem? (i := 687) (by decide +kernel), List.mem_of_getElem? (i := 688) (by decide +kernel)⟩
theorem lw_p24 : lw_okq (⟨"DeskStackModel", "brackets", "(I)Z"⟩, 21) := ⟨⟨by decide +kernel, by decide +kernel⟩, List.mem_of_getElem? (i := 569) (by decide +kernel), List.mem_of_getElem? (i := 691) (by decide +kernel), List.mem_of_getElem? (i := 692) (by decide +kernel)⟩
theorem lw_p25 : lw_okq (⟨"DeskStackModel", "stores", "(II)Z"⟩, 21) := ⟨⟨by decide +kernel, by decide +kernel⟩, List.mem_of_getElem? (i := 569) (by decide +kernel), List.mem_of_getElem? (i := 703) (by decide +kernel), List.mem_of_getElem? (i := 704) (by decide +kernel)⟩
theorem lw_p26 : lw_okq (⟨"DeskStackModel", "have", "(I)Z"⟩, 21) := ⟨⟨by decide +kernel, by decide +kernel⟩, List.mem_of_getElem? (i := 569) (by decide +kernel), List.mem_of_getElem? (i := 707) (by decide +kernel), List.mem_of_getElem? (i := 708) (by decide +kernel)⟩
theorem lw_p27 : lw_okq (⟨"DeskStackModel", "topOf", "(I)I"⟩, 21) := ⟨⟨by decide +kernel, by decide +kernel⟩, List.mem_of_getElem? (i := 569) (by decide +kernel), List.mem_of_getElem? (i := 711) (by decide +kernel), List.mem_of_getElem? (i := 712) (by decide +kernel)⟩
theorem lw_p28 : lw_okq (⟨"DeskStackModel", "copy", "(II)V"⟩, 21) := ⟨⟨by decide +kernel, by decide +kernel⟩, List.mem_of_getElem? (i := 569) (by decide +kernel), List.mem_of_getElem? (i := 715) (by decide +kernel), List.mem_of_getElem? (i := 716) (by decide +kernel)⟩
theorem lw_p29 : lw_okq (⟨"DeskStackModel", "tests", "(III)Z"⟩, 21) := ⟨⟨by decide +kernel, by decide +kernel⟩, List.mem_of_getElem? (i := 569) (by decide +kernel), List.mem_of_getElem? (i := 719) (by decide +kernel), List.mem_of_getElem? (i := 720) (by decide +kernel)⟩
theorem lw_p30 : lw_okq (⟨"DeskStackModel", "numbers", "(I)Z"⟩, 21) := ⟨⟨by decide +kernel, by decide +kernel⟩, List.mem_of_getElem? (i := 569) (by decide +kernel), List.mem_of_getElem? (i := 723) (by decide +kernel), List.mem_of_getElem? (i := 724) (by decide +kernel)⟩
theorem lw_p31 : lw_okq (⟨"DeskStackModel", "compared", "()Z"⟩, 21) := ⟨⟨by decide +kernel, by decide +kernel⟩, List.mem_of_getElem? (i := 569) (by decide +kernel), List.mem_of_getElem? (i := 727) (by decide +kernel), List.mem_of_getElem? (i := 728) (by decide +kernel)⟩
def lw_privs_2 : List (MethodName × Nat) := [(⟨"DeskStack", "arrangeStack", "(I)V"⟩, 7), (⟨"DeskStackModel", "isNothing", "(I)Z"⟩, 21), (⟨"DeskStackModel", "command", "(I)Z"⟩, 21), (⟨"DeskStackModel", "charAt", "(II)I"⟩, 21), (⟨"DeskStackModel", "digits", "(I)Z"⟩, 21), (⟨"DeskStackModel", "fail", "(I)Z"⟩, 21), (⟨"DeskStackModel", "room", "()Z"⟩, 21), (⟨"DeskStackModel", "put", "(IJI)V"⟩, 21), (⟨"DeskStackModel", "brackets", "(I)Z"⟩, 21), (⟨"DeskStackModel", "stores", "(II)Z"⟩, 21), (⟨"DeskStackModel", "have", "(I)Z"⟩, 21), (⟨"DeskStackModel", "topOf", "(I)I"⟩, 21), (⟨"DeskStackModel", "copy", "(II)V"⟩, 21), (⟨"DeskStackModel", "tests", "(III)Z"⟩, 21), (⟨"DeskStackModel", "numbers", "(I)Z"⟩, 21), (⟨"DeskStackModel", "compared", "()Z"⟩, 21)]
theorem lw_r2 : ∀ q ∈ lw_privs_2, lw_okq q := List.forall_mem_cons.mpr ⟨lw_p16, List.forall_mem_cons.mpr ⟨lw_p17, List.forall_mem_cons.mpr ⟨lw_p18, List.forall_mem_cons.mpr ⟨lw_p19, List.forall_mem_cons.mpr ⟨lw_p20, List.forall_mem_cons.mpr ⟨lw_p21, List.forall_mem_cons.mpr ⟨lw_p22, List.forall_mem_cons.mpr ⟨lw_p23, List.forall_mem_cons.mpr ⟨lw_p24, List.forall_mem_cons.mpr ⟨lw_p25, List.forall_mem_cons.mpr ⟨lw_p26, List.forall_mem_cons.mpr ⟨lw_p27, List.forall_mem_cons.mpr ⟨lw_p28, List.forall_mem_cons.mpr ⟨lw_p29, List.forall_mem_cons.mpr ⟨lw_p30, List.forall_mem_cons.mpr ⟨lw_p31, fun _ h => absurd h List.not_mem_nil⟩⟩⟩⟩⟩⟩⟩⟩⟩⟩⟩⟩⟩⟩⟩⟩
theorem lw_p32 : lw_okq (⟨"DeskStackModel", "raised", "(JI)J"⟩, 21) := ⟨⟨by decide +kernel, by decide +kernel⟩, List.mem_of_getElem? (i := 569) (by decide +kernel), List.mem_of_getElem? (i := 734) (by decide +kernel), List.mem_of_getElem? (i := 735) (by decide +kernel)⟩
theorem lw_p33 : lw_okq (⟨"DeskStackModel", "mayRun", "(I)Z"⟩, 21) := ⟨⟨by decide +kernel, by decide +kernel⟩, List.mem_of_getElem? (i := 569) (by decide +kernel), List.mem_of_getElem? (i := 741) (by decide +kernel), List.mem_of_getElem? (i := 742) (by decide +kernel)⟩
theorem lw_p34 : lw_okq (⟨"DeskStackModel", "isDone", "(I)Z"⟩, 21) := ⟨⟨by decide +kernel, by decide +kernel⟩, List.mem_of_getElem? (i := 569) (by decide +kernel), List.mem_of_getElem? (i := 745) (by decide +kernel), List.mem_of_getElem? (i := 746) (by decide +kernel)⟩
theorem lw_p35 : lw_okq (⟨"DeskStackModel", "begin", "(II)V"⟩, 21) := ⟨⟨by decide +kernel, by decide +kernel⟩, List.mem_of_getElem? (i := 569) (by decide +kernel), List.mem_of_getElem? (i := 749) (by decide +kernel), List.mem_of_getElem? (i := 750) (by decide +kernel)⟩
theorem lw_p36 : lw_okq (⟨"DeskStackModel", "runs", "(I)Z"⟩, 21) := ⟨⟨by decide +kernel, by decide +kernel⟩, List.mem_of_getElem? (i := 569) (by decide +kernel), List.mem_of_getElem? (i := 753) (by decide +kernel), List.mem_of_getElem? (i := 754) (by decide +kernel)⟩
theorem lw_p37 : lw_okq (⟨"DeskStackModel", "calculates", "(I)Z"⟩, 21) := ⟨⟨by decide +kernel, by decide +kernel⟩, List.mem_of_getElem? (i := 569) (by decide +kernel), List.mem_of_getElem? (i := 757) (by decide +kernel), List.mem_of_getElem? (i := 758) (by decide +kernel)⟩
theorem lw_p38 : lw_okq (⟨"DeskStackModel", "sum", "(Z)Z"⟩, 21) := ⟨⟨by decide +kernel, by decide +kernel⟩, List.mem_of_getElem? (i := 569) (by decide +kernel), List.mem_of_getElem? (i := 761) (by decide +kernel), List.mem_of_getElem? (i := 762) (by decide +kernel)⟩
theorem lw_p39 : lw_okq (⟨"DeskStackModel", "times", "()Z"⟩, 21) := ⟨⟨by decide +kernel, by decide +kernel⟩, List.mem_of_getElem? (i := 569) (by decide +kernel), List.mem_of_getElem? (i := 770) (by decide +kernel), List.mem_of_getElem? (i := 771) (by decide +kernel)⟩
theorem lw_p40 : lw_okq (⟨"DeskStackModel", "product", "(JJ)J"⟩, 21) := ⟨⟨by decide +kernel, by decide +kernel⟩, List.mem_of_getElem? (i := 569) (by decide +kernel), List.mem_of_getElem? (i := 774) (by decide +kernel), List.mem_of_getElem? (i := 775) (by decide +kernel)⟩
theorem lw_p41 : lw_okq (⟨"DeskStackModel", "quotient", "()Z"⟩, 21) := ⟨⟨by decide +kernel, by decide +kernel⟩, List.mem_of_getElem? (i := 569) (by decide +kernel), List.mem_of_getElem? (i := 781) (by decide +kernel), List.mem_of_getElem? (i := 782) (by decide +kernel)⟩
theorem lw_p42 : lw_okq (⟨"DeskStackModel", "rest", "()Z"⟩, 21) := ⟨⟨by decide +kernel, by decide +kernel⟩, List.mem_of_getElem? (i := 569) (by decide +kernel), List.mem_of_getElem? (i := 785) (by decide +kernel), List.mem_of_getElem? (i := 786) (by decide +kernel)⟩
theorem lw_p43 : lw_okq (⟨"DeskStackModel", "root", "()Z"⟩, 21) := ⟨⟨by decide +kernel, by decide +kernel⟩, List.mem_of_getElem? (i := 569) (by decide +kernel), List.mem_of_getElem? (i := 789) (by decide +kernel), List.mem_of_getElem? (i := 790) (by decide +kernel)⟩
theorem lw_p44 : lw_okq (⟨"DeskStackModel", "moves", "(I)Z"⟩, 21) := ⟨⟨by decide +kernel, by decide +kernel⟩, List.mem_of_getElem? (i := 569) (by decide +kernel), List.mem_of_getElem? (i := 796) (by decide +kernel), List.mem_of_getElem? (i := 797) (by decide +kernel)⟩
def lw_privs_3 : List (MethodName × Nat) := [(⟨"DeskStackModel", "raised", "(JI)J"⟩, 21), (⟨"DeskStackModel", "mayRun", "(I)Z"⟩, 21), (⟨"DeskStackModel", "isDone", "(I)Z"⟩, 21), (⟨"DeskStackModel", "begin", "(II)V"⟩, 21), (⟨"DeskStackModel", "runs", "(I)Z"⟩, 21), (⟨"DeskStackModel", "calculates", "(I)Z"⟩, 21), (⟨"DeskStackModel", "sum", "(Z)Z"⟩, 21), (⟨"DeskStackModel", "times", "()Z"⟩, 21), (⟨"DeskStackModel", "product", "(JJ)J"⟩, 21), (⟨"DeskStackModel", "quotient", "()Z"⟩, 21), (⟨"DeskStackModel", "rest", "()Z"⟩, 21), (⟨"DeskStackModel", "root", "()Z"⟩, 21), (⟨"DeskStackModel", "moves", "(I)Z"⟩, 21)]
theorem lw_r3 : ∀ q ∈ lw_privs_3, lw_okq q := List.forall_mem_cons.mpr ⟨lw_p32, List.forall_mem_cons.mpr ⟨lw_p33, List.forall_mem_cons.mpr ⟨lw_p34, List.forall_mem_cons.mpr ⟨lw_p35, List.forall_mem_cons.mpr ⟨lw_p36, List.forall_mem_cons.mpr ⟨lw_p37, List.forall_mem_cons.mpr ⟨lw_p38, List.forall_mem_cons.mpr ⟨lw_p39, List.forall_mem_cons.mpr ⟨lw_p40, List.forall_mem_cons.mpr ⟨lw_p41, List.forall_mem_cons.mpr ⟨lw_p42, List.forall_mem_cons.mpr ⟨lw_p43, List.forall_mem_cons.mpr ⟨lw_p44, fun _ h => absurd h List.not_mem_nil⟩⟩⟩⟩⟩⟩⟩⟩⟩⟩⟩⟩⟩
def lw_privs : List (MethodName × Nat) := lw_privs_1 ++ (lw_privs_2 ++ (lw_privs_3))
def lw_tbl : List Cond := k2_sels lw_privs ++ tables_1
theorem lw_privs_ok : ∀ q ∈ lw_privs, lw_okq q := by
  show ∀ q ∈ lw_privs_1 ++ (lw_privs_2 ++ (lw_privs_3)), lw_okq q
  exact List.forall_mem_append.mpr ⟨lw_r1, List.forall_mem_append.mpr ⟨lw_r2, lw_r3⟩⟩
end
section
/-! ===== BEGIN words of one list among another's, by their places ===== -/
theorem goodIn_r {big : List Cond} (ws : List Cond) (ps : List Nat) (hp : ws = ps.filterMap (fun i => big[i]?)) (h : ws.all goodWord = true) : GoodIn big ws := by
  intro w hw
  have h1 := List.all_eq_true.mp h w hw
  rw [hp] at hw
  obtain ⟨i, -, hi⟩ := List.mem_filterMap.mp hw
  have hm : w ∈ big := by first | exact List.mem_of_getElem? hi | exact List.getElem?_mem hi
  exact ⟨hm, good_of_word h1⟩
theorem goodIn_app {big a b : List Cond} (ha : GoodIn big a) (hb : GoodIn big b) : GoodIn big (a ++ b) := fun w h => (List.mem_append.mp h).elim (ha w) (hb w)
theorem goodIn_ca {big a b : List Cond} {c : Cond} (ha : GoodIn big (c :: a)) (hb : GoodIn big b) : GoodIn big (c :: (a ++ b)) := fun w h => (List.mem_cons.mp h).elim (fun e => ha w (List.mem_cons.mpr (Or.inl e))) (fun h => (List.mem_append.mp h).elim (fun h => ha w (List.mem_cons.mpr (Or.inr h))) (hb w))
theorem goodIn_sub {big ws : List Cond} (hm : ∀ w ∈ ws, w ∈ big) (h : ws.all goodWord = true) : GoodIn big ws := fun w hw => ⟨hm w hw, good_of_word (List.all_eq_true.mp h w hw)⟩
/-! ===== END ===== -/

/-! ===== BEGIN exceptions that leave a method, and their catching by the caller (launches without stack traces) ===== -/
section VXA
/-! The laws vx_back, vx_callV, vx_callS, vx_callSW, vx_throw0, vx_throwS follow proofs of the library, with one case more: JvmDerived/Free/Laws.lean (Back.of_free), Shelf42/LK1.lean (callV, callS), Shelf/KitTraced.lean (throwNew0V, throwNewS). -/

/-- where a method has thrown q: the class by its name, the cell, what was written, the world -/
def vx_T (XC : String → State → State → Prop) (st : State) (q : Addr) (t : State) (mc ms : Nat) (free : Addr → Prop) : Prop :=
  ∃ (E : String) (ce : Cell) (L : List Loc), XC E st t ∧ t.heap[q]? = some ce ∧ ce.vm = .none ∧ st.vm.findClass E = some ce.cls ∧ st.WarmedH t.vm ∧ st.sameButNew ({ t with vm := st.vm } : State) L mc ms ∧ ∀ z ∈ L, free z.base
def vx_Q (Qc : Array Value → State → Outcome → State → Prop) (XC : String → State → State → Prop) (mc ms : Nat) (free : Addr → Prop) : Array Value → State → Outcome → State → Prop := fun a st o t =>
  (Qc a st o t ∧ ∃ L, FrameEnd st o t L mc ms ∧ ∀ q ∈ L, free q.base) ∨ ∃ q, o = .threw q ∧ vx_T XC st q t mc ms free
/-- a callee that returns or throws -/
def vx_Met (l : Launch) (y : MethodName) (ws : List Cond) (rm : Room) (Pc : Array Value → State → Prop) (Qc : Array Value → State → Outcome → State → Prop) (XC : String → State → State → Prop) (mc ms : Nat) (free : Addr → Prop) : Prop :=
  MetFree l y (headSpec ws rm) Pc (fun _ _ _ _ _ => True) (vx_Q Qc XC mc ms free)
def vx_Post (XC : String → State → State → Prop) (mc ms : Nat) (free : Addr → Prop) : Pt → Array Value → Addr → Pt → Prop := fun A a q B =>
  ∃ (g : JFrame) (mk : MethodId) (t : State) (L : List Loc) (E : String) (ce : Cell), B.U.heap = t.heap ∧ B.U.vm = t.vm ∧ XC E (A.U.calling g mk a) t ∧ t.heap[q]? = some ce ∧ ce.vm = .none ∧ A.U.vm.findClass E = some ce.cls ∧ B.locs = A.locs ++ L ∧ (∀ z ∈ L, free z.base) ∧ B.cells = A.cells + mc ∧ B.slots = A.slots + ms
def vx_Back (l : Launch) (R : Room) (p : Program) (e : Env) (below : List Frame) (s : State) (sargs : Array Value) (y : MethodName) (len W9 : Nat)
    (Pre : Pt → Array Value → Prop) (Post : Pt → Array Value → Option Value → Pt → Prop) (PostX : Pt → Array Value → Addr → Pt → Prop) : Prop :=
  ∀ (m : MethodId) (meth : Method) (c : Code) (A : Pt) (g : JFrame) (ig : Instr) (mk : MethodId) (a : Array Value),
    Stand p l e R s m sargs below meth c A.U A.locs A.cells A.slots → g.method = m → g.locals.size = c.maxLocals → decode c.code g.pc = .ok (ig, len) →
    2 * g.monitorRoom + (g.stack.map fun v => v.category).sum ≤ W9 → A.U.methodNamed? y = some mk → Pre A a →
    (∃ (v : Option Value) (B : Pt), Stand p l e R s m sargs below meth c B.U B.locs B.cells B.slots ∧ Post A a v B ∧
      Steps p.tables e below (doInvoke e (A.U.setTop g) [] mk a).1 (B.U.setTop { g with pc := g.pc + len, stack := v.toList ++ g.stack })) ∨
    (∃ (q : Addr) (B : Pt), Stand p l e R s m sargs below meth c B.U B.locs B.cells B.slots ∧ PostX A a q B ∧
      Steps p.tables e below (doInvoke e (A.U.setTop g) [] mk a).1 ((B.U.setTop g).pushFrame (.throwing q)))
section Payer
variable {l : Launch} {R : Room} {p : Program} {e : Env} {below : List Frame} {s : State} {sargs : Array Value} {y : MethodName} {len W9 : Nat}
theorem vx_back {ws : List Cond} {rm : Room} {Pc : Array Value → State → Prop} {Qc : Array Value → State → Outcome → State → Prop} {XC : String → State → State → Prop} {mc ms : Nat} {free : Addr → Prop} {bytes : ByteArray} {maxL : Nat} {ret : Option FieldType}
    (hM : vx_Met l y ws rm Pc Qc XC mc ms free) (hblind : FrameBlind Pc) (hrc : rm.cells = mc) (hrs : rm.slots = ms)
    (hframes : rm.frames + 1 ≤ R.frames) (hlocals : W9 + (maxL + 11) + rm.locals ≤ R.locals)
    (hws : ∀ w ∈ ws, ∀ a' U, s.WarmedH U.vm → w.before a' U = true) (hcode : Cond.code y bytes maxL ret ∈ ws) (hinit : ∀ a' U, s.WarmedH U.vm → (Cond.initialized y.cls).before a' U = true) :
    vx_Back l R p e below s sargs y len W9 (PreOf R mc ms Pc) (PostOf Qc mc ms free) (vx_Post XC mc ms free) := by
  intro m meth c A g ig mk a X hg hsize hdg hW hn hp
  have h1 : (headSpec ws rm).pre.before a A.U = true := atoms_intro fun w hw => hws w hw _ _ X.warmed
  have h2 : (Cond.code y bytes maxL ret).before a A.U = true := hws _ hcode _ _ X.warmed
  have h3 : (Cond.initialized y.cls).before a A.U = true := hinit _ _ X.warmed
  have h4 : A.cells + (headSpec ws rm).room.cells ≤ R.cells := by rw [show (headSpec ws rm).room.cells = mc from hrc]; exact hp.1
  have h5 : A.slots + (headSpec ws rm).room.slots ≤ R.slots := by rw [show (headSpec ws rm).room.slots = ms from hrs]; exact hp.2.1
  have hPc : Pc a (A.U.calling g mk a) := hblind _ _ _ _ hp.2.2
  obtain ⟨U, Ls, c0, s0⟩ := A
  dsimp only [Pt.U, Pt.locs, Pt.cells, Pt.slots] at h1 h2 h3 h4 h5 X hn hPc ⊢
  obtain ⟨methY, cY, hmY, hcY, -, hlY, -, -, -, -⟩ := Cond.code_spec hn h2
  obtain ⟨kY, hkY, -⟩ := className_of_methodNamed hn
  have hinitY : kY.init = .initialized := Cond.initialized_spec (findClass_of_methodNamed hn) hkY h3
  have h : At U g.method c below := by rw [hg]; exact X.here
  have hlocals9 : W9 + (maxL + 11) + (headSpec ws rm).room.locals ≤ R.locals := hlocals
  have happ : (headSpec ws rm).appliesLoose y e.platform (U.calling g mk a) = true :=
    Spec.appliesLoose_calling (g := g) h hdg hn hkY hinitY
      (X.room_calling (g := g) (R' := (headSpec ws rm).room) hsize hmY hcY hframes (by rw [hlY]; omega) h4 h5) h1
  obtain ⟨mid, hmid⟩ := h.above
  have hfr : (U.setTop g).frames = (.java g :: mid) ++ below := by rw [State.frames_setTop' g h.top, hmid]; rfl
  obtain ⟨o, s₂, hsteps, -, hend, hq⟩ := Steps.callFree hM p X.admits X.cas X.clock (acts := []) hfr happ hPc trivial
  have hq' : vx_Q Qc XC mc ms free a (U.calling g mk a) o s₂ := hq
  rw [State.frames_setTop' g h.top] at hend
  obtain ⟨g₀, hg0⟩ := Option.isSome_iff_exists.mp h.top
  obtain ⟨r, hr⟩ := State.topJava?_eq_some.mp hg0
  have hr' : (({ U with heap := s₂.heap, slotsUsed := s₂.slotsUsed } : State).setVm s₂.vm).frames = .java g₀ :: r := hr
  rcases hq' with ⟨hqc, L, hfe, hL⟩ | ⟨q, rfl, E, ce, L, hx, hce, hcv, hcl, hW₂, hsm, hL⟩
  · obtain ⟨⟨v, rfl⟩, hW₂, e2, q2, q3, q4, q5, q6⟩ := id hfe
    have e3 : s₂ = ({ (U.calling g mk a).setFrames s₂.frames with heap := s₂.heap, slotsUsed := s₂.slotsUsed } : State).setVm s₂.vm := by
      have : s₂ = ({ s₂ with vm := (U.calling g mk a).vm } : State).setVm s₂.vm := rfl
      rw [e2] at this
      exact this
    obtain ⟨c₂, i₂, len₂, hc₂, hd₂, hf₂⟩ := hend
    have hW' : U.WarmedH s₂.vm := hW₂
    have hcc : c₂ = c := by
      have h1 : s₂.code? g.method = U.code? g.method := by
        rw [State.code?_eq, State.code?_eq, hW'.alike.method?]
      exact Option.some.inj (hc₂.symm.trans (h1.trans h.code))
    subst hcc
    have hlen : len₂ = len := by rw [hdg] at hd₂; cases hd₂; rfl
    subst hlen
    have hs₂ : s₂ = (({ U with heap := s₂.heap, slotsUsed := s₂.slotsUsed } : State).setVm s₂.vm).setTop { g with pc := g.pc + len₂, stack := v.toList ++ g.stack } := by
      refine e3.trans ?_
      rw [hf₂, State.calling_eq h.top, State.setFrames_setFrames, State.setTop_of_frames _ hr', hr]
      rfl
    have hsame : U.sameButNew ({ U with heap := s₂.heap, slotsUsed := s₂.slotsUsed } : State) L mc ms := by
      refine ⟨?_, q2, q3, q4, q5, q6⟩
      obtain ⟨t, ht, -⟩ := State.frames_cons hr
      show ({ U with heap := s₂.heap, slotsUsed := s₂.slotsUsed } : State) = { U.setFrames U.frames with heap := s₂.heap, slotsUsed := s₂.slotsUsed }
      rw [State.setFrames_self ht]
    subst hg
    refine Or.inl ⟨v, ⟨(({ U with heap := s₂.heap, slotsUsed := s₂.slotsUsed } : State).setVm s₂.vm), Ls ++ L, c0 + mc, s0 + ms⟩,
      ⟨X.admits, X.cas, X.clock, X.frames, X.room, X.hears, X.method, X.code, (X.here.setHeapUsed s₂.heap s₂.slotsUsed).setVm hW'.alike, X.tail, State.WarmedH.trans X.warmed hW', X.limits, X.bytes, X.same.trans (hsame.setVm s.vm)⟩,
      ⟨g, mk, s₂, L, rfl, rfl, hqc, rfl, hL, rfl, rfl⟩, ?_⟩
    show Steps p.tables e below _ ((({ U with heap := s₂.heap, slotsUsed := s₂.slotsUsed } : State).setVm s₂.vm).setTop { g with pc := g.pc + len₂, stack := v.toList ++ g.stack })
    rw [← hs₂]
    exact hsteps
  · obtain ⟨e2, q2, q3, q4, q5, q6⟩ := id hsm
    have e3 : s₂ = ({ (U.calling g mk a).setFrames s₂.frames with heap := s₂.heap, slotsUsed := s₂.slotsUsed } : State).setVm s₂.vm := by
      have : s₂ = ({ s₂ with vm := (U.calling g mk a).vm } : State).setVm s₂.vm := rfl
      rw [e2] at this
      exact this
    have hf₂ : s₂.frames = .throwing q :: .java g :: U.frames.tail := hend
    have hW' : U.WarmedH s₂.vm := hW₂
    have hs₂ : s₂ = ((({ U with heap := s₂.heap, slotsUsed := s₂.slotsUsed } : State).setVm s₂.vm).setTop g).pushFrame (.throwing q) := by
      refine e3.trans ?_
      rw [hf₂, State.calling_eq h.top, State.setFrames_setFrames, State.pushFrame, State.frames_setTop _ hr', State.setTop_of_frames _ hr', State.setFrames_setFrames, hr]
      rfl
    have hsame : U.sameButNew ({ U with heap := s₂.heap, slotsUsed := s₂.slotsUsed } : State) L mc ms := by
      refine ⟨?_, q2, q3, q4, q5, q6⟩
      obtain ⟨t, ht, -⟩ := State.frames_cons hr
      show ({ U with heap := s₂.heap, slotsUsed := s₂.slotsUsed } : State) = { U.setFrames U.frames with heap := s₂.heap, slotsUsed := s₂.slotsUsed }
      rw [State.setFrames_self ht]
    subst hg
    refine Or.inr ⟨q, ⟨(({ U with heap := s₂.heap, slotsUsed := s₂.slotsUsed } : State).setVm s₂.vm), Ls ++ L, c0 + mc, s0 + ms⟩,
      ⟨X.admits, X.cas, X.clock, X.frames, X.room, X.hears, X.method, X.code, (X.here.setHeapUsed s₂.heap s₂.slotsUsed).setVm hW'.alike, X.tail, State.WarmedH.trans X.warmed hW', X.limits, X.bytes, X.same.trans (hsame.setVm s.vm)⟩,
      ⟨g, mk, s₂, L, E, ce, rfl, rfl, hx, hce, hcv, hcl, rfl, hL, rfl, rfl⟩, ?_⟩
    show Steps p.tables e below _ (((({ U with heap := s₂.heap, slotsUsed := s₂.slotsUsed } : State).setVm s₂.vm).setTop g).pushFrame (.throwing q))
    rw [← hs₂]
    exact hsteps
end Payer
section Calls
variable {p : Program} {l : Launch} {e : Env} {R : Room} {s : State} {m : MethodId} {args : Array Value} {below : List Frame} {meth : Method} {c : Code} {T : State} {locs : List Loc} {cells slots : Nat}
theorem vx_callV (X : Stand p l e R s m args below meth c T locs cells slots) (hexec : p.tables.exec = Jvm.exec) {own C : String} {index : Nat} {y : MethodName} {bytes : ByteArray} {maxL : Nat} {ret : Option FieldType}
    (hown : s.vm.findClass own = some m.cls) (hlink : (Cond.methodLink own index y).before args s = true) (hinst : (Cond.instanceMethod y).before args s = true) (hsel : (Cond.selects C y y).before args s = true)
    (hcode : (Cond.code y bytes maxL ret).before args s = true) (hy : y.cls ≠ "java/lang/invoke/MethodHandle" ∧ y.cls ≠ "java/lang/invoke/VarHandle")
    {W9 : Nat} {Pre : Pt → Array Value → Prop} {Post : Pt → Array Value → Option Value → Pt → Prop} {PostX : Pt → Array Value → Addr → Pt → Prop} (hK : vx_Back l R p e below s args y 3 W9 Pre Post PostX)
    {b : Addr} {cellB : Cell} (hcell : T.heap[b]? = some cellB) (hobj : cellB.vm.isStatics = false) (hcls : s.vm.findClass C = some cellB.cls)
    {g : JFrame} (hg : g.method = m) (hsize : g.locals.size = c.maxLocals) {argsL rest : List Value} (hlen : ∀ sig, parseMethodDescriptor y.desc = some sig → argsL.length = sig.parameters.length)
    (hstack : g.stack = argsL.reverse ++ .ref b :: rest) (hW : 2 * g.monitorRoom + (rest.map fun v => v.category).sum ≤ W9) (hdg : decode c.code g.pc = .ok (.invokevirtual index, 3))
    (hpre : ∀ vm₁, s.WarmedH vm₁ → Pre ⟨T.setVm vm₁, locs, cells, slots⟩ (Value.ref b :: argsL).toArray) :
    (∃ (v : Option Value) (vm₁ : Vm) (B : Pt), s.WarmedH vm₁ ∧ Stand p l e R s m args below meth c B.U B.locs B.cells B.slots ∧ Post ⟨T.setVm vm₁, locs, cells, slots⟩ (Value.ref b :: argsL).toArray v B ∧
      ∀ target, Steps p.tables e below (B.U.setTop { g with pc := g.pc + 3, stack := v.toList ++ rest }) target → Steps p.tables e below (T.setTop g) target) ∨
    (∃ (q : Addr) (vm₁ : Vm) (B : Pt), s.WarmedH vm₁ ∧ Stand p l e R s m args below meth c B.U B.locs B.cells B.slots ∧ PostX ⟨T.setVm vm₁, locs, cells, slots⟩ (Value.ref b :: argsL).toArray q B ∧
      Steps p.tables e below (T.setTop g) ((B.U.setTop { g with stack := rest }).pushFrame (.throwing q))) := by
  obtain ⟨mk, methM, hnamed, hmethM, hstM, habM⟩ := Cond.instanceMethod_spec hinst
  obtain ⟨methM', cM, hmethM', -, -, -, -, -, -, hsigM⟩ := Cond.code_spec hnamed hcode
  cases hmethM.symm.trans hmethM'
  obtain ⟨c2, r2, m2, q1, q2, q3, q4, kP, hkP, hkPi⟩ := Cond.selects_spec hsel
  cases hcls.symm.trans q1
  cases (State.methodFound?_of_named hnamed hy).symm.trans q2
  cases hnamed.symm.trans q3
  have hselP : selectMethod e.platform s.vm cellB.cls mk = .method mk := by rw [Launch.admits_selectMethod X.admits]; exact q4
  obtain ⟨vm₁, X₁, hstep₁⟩ := X.invokevirtual hexec hown hlink hnamed hmethM hstM hkP hkPi hy (a := b) (cell := cellB) hcell
    (fun z h => by rw [h] at hobj; cases hobj) hselP hmethM habM hkP hkPi (g := g) hg (argsL := argsL) (rest := rest) (hlen _ hsigM) hstack hdg
  rcases hK m meth c ⟨T.setVm vm₁, locs, cells, slots⟩ { g with stack := rest } (.invokevirtual index) mk (Value.ref b :: argsL).toArray X₁ hg hsize hdg hW (X₁.named hnamed) (hpre vm₁ X₁.warmed) with ⟨v, B, X', hpost, hsteps⟩ | ⟨q, B, X', hpost, hsteps⟩
  · exact Or.inl ⟨v, vm₁, B, X₁.warmed, X', hpost, fun target h => hstep₁ _ fun acts => by rw [doInvoke_state]; exact hsteps.trans h⟩
  · exact Or.inr ⟨q, vm₁, B, X₁.warmed, X', hpost, hstep₁ _ fun acts => by rw [doInvoke_state]; exact hsteps⟩
theorem vx_callS (X : Stand p l e R s m args below meth c T locs cells slots) (hexec : p.tables.exec = Jvm.exec) {own : String} {index : Nat} {y : MethodName} {bytes : ByteArray} {maxL : Nat} {ret : Option FieldType}
    (hown : s.vm.findClass own = some m.cls) (hlink : (Cond.methodLink own index y).before args s = true) (hstat : (Cond.static y).before args s = true) (hinit : (Cond.initialized y.cls).before args s = true)
    (hcode : (Cond.code y bytes maxL ret).before args s = true) (hy : y.cls ≠ "java/lang/invoke/MethodHandle" ∧ y.cls ≠ "java/lang/invoke/VarHandle")
    {W9 : Nat} {Pre : Pt → Array Value → Prop} {Post : Pt → Array Value → Option Value → Pt → Prop} {PostX : Pt → Array Value → Addr → Pt → Prop} (hK : vx_Back l R p e below s args y 3 W9 Pre Post PostX)
    {g : JFrame} (hg : g.method = m) (hsize : g.locals.size = c.maxLocals) {argsL rest : List Value} (hlen : ∀ sig, parseMethodDescriptor y.desc = some sig → argsL.length = sig.parameters.length)
    (hstack : g.stack = argsL.reverse ++ rest) (hW : 2 * g.monitorRoom + (rest.map fun v => v.category).sum ≤ W9) (hdg : decode c.code g.pc = .ok (.invokestatic index, 3))
    (hpre : ∀ vm₁, s.WarmedH vm₁ → Pre ⟨T.setVm vm₁, locs, cells, slots⟩ argsL.toArray) :
    (∃ (v : Option Value) (vm₁ : Vm) (B : Pt), s.WarmedH vm₁ ∧ Stand p l e R s m args below meth c B.U B.locs B.cells B.slots ∧ Post ⟨T.setVm vm₁, locs, cells, slots⟩ argsL.toArray v B ∧
      ∀ target, Steps p.tables e below (B.U.setTop { g with pc := g.pc + 3, stack := v.toList ++ rest }) target → Steps p.tables e below (T.setTop g) target) ∨
    (∃ (q : Addr) (vm₁ : Vm) (B : Pt), s.WarmedH vm₁ ∧ Stand p l e R s m args below meth c B.U B.locs B.cells B.slots ∧ PostX ⟨T.setVm vm₁, locs, cells, slots⟩ argsL.toArray q B ∧
      Steps p.tables e below (T.setTop g) ((B.U.setTop { g with stack := rest }).pushFrame (.throwing q))) := by
  obtain ⟨mk, hnamed⟩ := Cond.code_named hcode
  obtain ⟨methM, cM, hmethM, -, -, -, -, -, -, hsigM⟩ := Cond.code_spec hnamed hcode
  have hstatic : methM.isStatic = true := Cond.static_spec hnamed hmethM hstat
  obtain ⟨kP, hkP, -⟩ := className_of_methodNamed hnamed
  have hinitP : kP.init = .initialized := Cond.initialized_spec (findClass_of_methodNamed hnamed) hkP hinit
  obtain ⟨vm₁, X₁, hstep₁⟩ := X.invokestatic hexec hown hlink hnamed hmethM hstatic hkP hinitP hy (g := g) hg (argsL := argsL) (rest := rest) (hlen _ hsigM) hstack hdg
  rcases hK m meth c ⟨T.setVm vm₁, locs, cells, slots⟩ { g with stack := rest } (.invokestatic index) mk argsL.toArray X₁ hg hsize hdg hW (X₁.named hnamed) (hpre vm₁ X₁.warmed) with ⟨v, B, X', hpost, hsteps⟩ | ⟨q, B, X', hpost, hsteps⟩
  · exact Or.inl ⟨v, vm₁, B, X₁.warmed, X', hpost, fun target h => hstep₁ _ fun acts => by rw [doInvoke_state]; exact hsteps.trans h⟩
  · exact Or.inr ⟨q, vm₁, B, X₁.warmed, X', hpost, hstep₁ _ fun acts => by rw [doInvoke_state]; exact hsteps⟩
end Calls
theorem vx_cls {s : State} {T : State} {vm₁ : Vm} {E : String} {k : ClassId} (hW : s.WarmedH vm₁) (h : (T.setVm vm₁).vm.findClass E = some k) : s.vm.findClass E = some k := by
  have h1 : vm₁.findClass E = some k := h
  rw [hW.alike.findClass] at h1
  exact h1
/-- the method's frame g, with q thrown over it -/
def vx_W (p : Program) (l : Launch) (e : Env) (R : Room) (s : State) (m : MethodId) (args : Array Value) (below : List Frame) (meth : Method) (c : Code) (H : Heap) (locs : List Loc) (cells slots : Nat) (Q : State → Prop) (g : JFrame) (q : Addr) : Prop :=
  ∀ T : State, T.heap = H → Stand p l e R s m args below meth c T locs cells slots → ∃ t, Steps p.tables e below ((T.setTop g).pushFrame (.throwing q)) t ∧ Q t
def vx_Run (p : Program) (l : Launch) (e : Env) (R : Room) (s : State) (m : MethodId) (args : Array Value) (below : List Frame) (meth : Method) (c : Code) (H : Heap) (locs : List Loc) (cells slots mc ms : Nat) (g : JFrame) (rest : List Value) (Qa : State → Outcome → State → Prop) (XC : String → State → State → Prop) (free : Addr → Prop) : Prop :=
  ∀ T : State, T.heap = H → Stand p l e R s m args below meth c T locs cells slots →
    (∃ (v : Option Value) (st₀ t T' : State) (L : List Loc), st₀.heap = H ∧ Stand p l e R s m args below meth c T' (locs ++ L) (cells + mc) (slots + ms) ∧ (∀ q ∈ L, free q.base) ∧ T'.heap = t.heap ∧ T'.vm = t.vm ∧ Qa st₀ (.returned v) t ∧
      Goes p e below T g T' { g with pc := g.pc + 3, stack := v.toList ++ rest }) ∨
    (∃ (q : Addr) (st₀ t T' : State) (L : List Loc) (E : String) (ce : Cell), st₀.heap = H ∧ Stand p l e R s m args below meth c T' (locs ++ L) (cells + mc) (slots + ms) ∧ (∀ z ∈ L, free z.base) ∧ T'.heap = t.heap ∧ T'.vm = t.vm ∧ XC E st₀ t ∧ t.heap[q]? = some ce ∧ ce.vm = .none ∧ s.vm.findClass E = some ce.cls ∧
      Steps p.tables e below (T.setTop g) ((T'.setTop { g with stack := rest }).pushFrame (.throwing q)))
def vx_X {S : Type} (px : S → Prop) (B : String → S → State → Prop) (A : Nat → Prop) : String → State → State → Prop := fun E st t => ∃ u : S, px u ∧ B E u t ∧ va_F A st t
section Runs
variable {p : Program} {l : Launch} {e : Env} {R : Room} {s : State} {m : MethodId} {args : Array Value} {below : List Frame} {meth : Method} {c : Code} {H : Heap} {locs : List Loc} {cells slots : Nat}
variable {y : MethodName} {bytes cc : ByteArray} {maxL nL mc ms n index : Nat} {ret : Option FieldType} {ws : List Cond} {rm : Room} {Pc : Array Value → State → Prop} {Qc : Array Value → State → Outcome → State → Prop} {XC : String → State → State → Prop} {free : Addr → Prop} {Ts : List Cond} {own C : String} {b : Addr} {As rest : List Value} {g : JFrame}
theorem vx_callBack (cb : CallB R s args own index y bytes maxL ret ws rm mc ms n) (hM : vx_Met l y ws rm Pc Qc XC mc ms free) (hbl : FrameBlind Pc) : vx_Back l R p e below s args y 3 8 (PreOf R mc ms Pc) (PostOf Qc mc ms free) (vx_Post XC mc ms free) := by
  obtain ⟨hrc, hrs, hfr, hlo, hws, hcw, -, hini, -⟩ := cb
  exact vx_back (bytes := bytes) (maxL := maxL) (ret := ret) hM hbl hrc hrs hfr hlo hws hcw (fun a' U hW => word_at hW (Or.inl (by first | rfl | simp [Cond.onTables, Cond.keeps, Cond.steady])) hini)
theorem vx_runV (S : CallFix p m c cc nL s args Ts own) (hM : vx_Met l y ws rm Pc Qc XC mc ms free) (cw : CallW R s args own C index y bytes maxL ret ws rm mc ms n) (hp : PreV s H C b Pc As)
    (hg : g.method = m) (hn : As.length = n) (hsize : g.locals.size = nL) (hstack : g.stack = As.reverse ++ .ref b :: rest) (hW : 2 * g.monitorRoom + (rest.map fun v => v.category).sum ≤ 8) (hdg : decode cc g.pc = .ok (.invokevirtual index, 3)) (hf : cells + mc ≤ R.cells ∧ slots + ms ≤ R.slots) :
    vx_Run p l e R s m args below meth c H locs cells slots mc ms g rest (Qc (Value.ref b :: As).toArray) XC free := by
  have hK : vx_Back l R p e below s args y 3 8 (PreOf R mc ms Pc) (PostOf Qc mc ms free) (vx_Post XC mc ms free) := vx_callBack cw.1 hM hp.1
  obtain ⟨⟨-, -, -, -, -, -, hcode, -, hy, hlen, hl⟩, hin, hse⟩ := cw
  obtain ⟨hx, hb, hml, ho, -⟩ := S
  obtain ⟨-, ⟨cellB, hcB, hoB, hclB⟩, hPc⟩ := hp
  intro T hT X
  rcases vx_callV X hx (C := C) (bytes := bytes) (maxL := maxL) (ret := ret) ho hl hin hse hcode hy hK (by rw [hT]; exact hcB) hoB hclB hg (hsize.trans hml.symm) (argsL := As) (rest := rest) (fun sig h => hn.trans (hlen sig h)) hstack hW (by rw [hb]; exact hdg)
    (fun vm₁ hW₁ => ⟨hf.1, hf.2, hPc (T.setVm vm₁) hT hW₁⟩) with ⟨v, vm₁, ⟨U', l2, c2, s2⟩, hW₁, X', ⟨g', mk, t, L, e1, e2, hq, h1, hL, h2, h3⟩, st⟩ | ⟨q, vm₁, ⟨U', l2, c2, s2⟩, hW₁, X', ⟨g', mk, t, L, E, ce, e1, e2, hq, hce, hcv, hcl, h1, hL, h2, h3⟩, st⟩
  · dsimp only [Pt.U, Pt.locs, Pt.cells, Pt.slots] at X' e1 e2 h1 h2 h3 st
    subst h1; subst h2; subst h3
    exact Or.inl ⟨v, (T.setVm vm₁).calling g' mk (Value.ref b :: As).toArray, t, U', L, hT, X', hL, e1, e2, hq, st⟩
  · dsimp only [Pt.U, Pt.locs, Pt.cells, Pt.slots] at X' e1 e2 h1 h2 h3 st hcl
    subst h1; subst h2; subst h3
    exact Or.inr ⟨q, (T.setVm vm₁).calling g' mk (Value.ref b :: As).toArray, t, U', L, E, ce, hT, X', hL, e1, e2, hq, hce, hcv, vx_cls hW₁ hcl, st⟩
theorem vx_runS (S : CallFix p m c cc nL s args Ts own) (hM : vx_Met l y ws rm Pc Qc XC mc ms free) (cw : CallB R s args own index y bytes maxL ret ws rm mc ms n ∧ (Cond.static y).before args s = true) (hp : PreS s H Pc As)
    (hg : g.method = m) (hn : As.length = n) (hsize : g.locals.size = nL) (hstack : g.stack = As.reverse ++ rest) (hW : 2 * g.monitorRoom + (rest.map fun v => v.category).sum ≤ 8) (hdg : decode cc g.pc = .ok (.invokestatic index, 3)) (hf : cells + mc ≤ R.cells ∧ slots + ms ≤ R.slots) :
    vx_Run p l e R s m args below meth c H locs cells slots mc ms g rest (Qc As.toArray) XC free := by
  have hK : vx_Back l R p e below s args y 3 8 (PreOf R mc ms Pc) (PostOf Qc mc ms free) (vx_Post XC mc ms free) := vx_callBack cw.1 hM hp.1
  obtain ⟨⟨-, -, -, -, -, -, hcode, hini, hy, hlen, hl⟩, hstt⟩ := cw
  obtain ⟨hx, hb, hml, ho, -⟩ := S
  intro T hT X
  rcases vx_callS X hx (bytes := bytes) (maxL := maxL) (ret := ret) ho hl hstt hini hcode hy hK hg (hsize.trans hml.symm) (argsL := As) (rest := rest) (fun sig h => hn.trans (hlen sig h)) hstack hW (by rw [hb]; exact hdg)
    (fun vm₁ hW₁ => ⟨hf.1, hf.2, hp.2 (T.setVm vm₁) hT hW₁⟩) with ⟨v, vm₁, ⟨U', l2, c2, s2⟩, hW₁, X', ⟨g', mk, t, L, e1, e2, hq, h1, hL, h2, h3⟩, st⟩ | ⟨q, vm₁, ⟨U', l2, c2, s2⟩, hW₁, X', ⟨g', mk, t, L, E, ce, e1, e2, hq, hce, hcv, hcl, h1, hL, h2, h3⟩, st⟩
  · dsimp only [Pt.U, Pt.locs, Pt.cells, Pt.slots] at X' e1 e2 h1 h2 h3 st
    subst h1; subst h2; subst h3
    exact Or.inl ⟨v, (T.setVm vm₁).calling g' mk As.toArray, t, U', L, hT, X', hL, e1, e2, hq, st⟩
  · dsimp only [Pt.U, Pt.locs, Pt.cells, Pt.slots] at X' e1 e2 h1 h2 h3 st hcl
    subst h1; subst h2; subst h3
    exact Or.inr ⟨q, (T.setVm vm₁).calling g' mk As.toArray, t, U', L, E, ce, hT, X', hL, e1, e2, hq, hce, hcv, vx_cls hW₁ hcl, st⟩
end Runs
section Rows
variable {p : Program} {l : Launch} {e : Env} {R : Room} {s : State} {m : MethodId} {args : Array Value} {below : List Frame} {meth : Method} {c : Code} {H : Heap} {locs : List Loc} {cells slots : Nat} {Q : State → Prop}
variable {mc ms : Nat} {free : Addr → Prop} {A0 A1 : Nat → Prop} {H0 : Heap} {a : Array Value} {pc : Nat} {ls : Array Slot} {st0 rest : List Value}
theorem vx_keep {st₀ t T' : State} {L : List Loc} (h0 : st₀.heap = H) (e1 : T'.heap = t.heap) (hS : va_S A0 H0 H locs) (hA : ∀ q, q < H.size → A1 q → A0 q) (hf : ∀ q, free q → A0 q) (hL : ∀ q ∈ L, free q.base) (hF : va_F A1 st₀ t) :
    H.size ≤ T'.heap.size ∧ (∀ q : Nat, q < H.size → ¬ A1 q → T'.heap[q]? = H[q]?) ∧ va_S A0 H0 T'.heap (locs ++ L) := by
  obtain ⟨hz, hk⟩ := hF
  rw [h0] at hz hk
  exact ⟨by rw [e1]; exact hz, fun q h1 h2 => by rw [e1]; exact hk q h1 h2,
    ⟨Nat.le_trans hS.1 (by rw [e1]; exact hz), fun q h1 h2 => by rw [e1, hk q (Nat.lt_of_lt_of_le h1 hS.1) (fun z => h2 (hA q (Nat.lt_of_lt_of_le h1 hS.1) z))]; exact hS.2.1 q h1 h2, fun q hq => by
      rcases List.mem_append.mp hq with h | h
      · exact hS.2.2 q h
      · exact hf _ (hL q h)⟩⟩
theorem vx_calli {S SX : Type} {post : Int32 → S → Prop} {px : SX → Prop} {B : S → State → Prop} {BX : String → SX → State → Prop} {AX : Nat → Prop} (hr : vx_Run p l e R s m args below meth c H locs cells slots mc ms (F0 m pc ls st0) rest (va_Qi post B A1 a) (vx_X px BX AX) free) (hS : va_S A0 H0 H locs) (hA : ∀ q, q < H.size → A1 q → A0 q) (hf : ∀ q, free q → A0 q) (hAX : ∀ q, q < H.size → AX q → A0 q)
    (kx : ∀ (E : String) (ce : Cell) (q9 : Addr) (u : SX) (t : State) (H1 : Heap) (locs1 : List Loc), t.heap = H1 → s.vm.Alike t.vm → px u → BX E u t → H.size ≤ H1.size → (∀ q : Nat, q < H.size → ¬ AX q → H1[q]? = H[q]?) → va_S A0 H0 H1 locs1 → H1[q9]? = some ce → ce.vm = .none → s.vm.findClass E = some ce.cls → vx_W p l e R s m args below meth c H1 locs1 (cells + mc) (slots + ms) Q (F0 m pc ls rest) q9)
    (kk : ∀ (r : Int32) (u : S) (t : State) (H1 : Heap) (locs1 : List Loc), t.heap = H1 → s.vm.Alike t.vm → post r u → B u t → H.size ≤ H1.size → (∀ q : Nat, q < H.size → ¬ A1 q → H1[q]? = H[q]?) → va_S A0 H0 H1 locs1 → W p l e R s m args below meth c H1 locs1 (cells + mc) (slots + ms) Q (F0 m (pc + 3) ls (.int r :: rest))) : W p l e R s m args below meth c H locs cells slots Q (F0 m pc ls st0) := by
  intro T hT X
  rcases hr T hT X with ⟨v, st₀, t, T', L, h0, X', hL, e1, e2, ⟨⟨r, u, hv, hp, hb⟩, hF⟩, st⟩ | ⟨q, st₀, t, T', L, E, ce, h0, X', hL, e1, e2, ⟨u, hp, hb, hF⟩, hce, hcv, hcl, st⟩
  · cases hv
    obtain ⟨k1, k2, k3⟩ := vx_keep h0 e1 hS hA hf hL hF
    obtain ⟨t2, a1, b1⟩ := kk r u t T'.heap (locs ++ L) e1.symm (by rw [← e2]; exact X'.warmed.alike) hp hb k1 k2 k3 T' rfl X'
    exact ⟨t2, st t2 a1, b1⟩
  · obtain ⟨k1, k2, k3⟩ := vx_keep h0 e1 hS hAX hf hL hF
    obtain ⟨t2, a1, b1⟩ := kx E ce q u t T'.heap (locs ++ L) e1.symm (by rw [← e2]; exact X'.warmed.alike) hp hb k1 k2 k3 (by rw [e1]; exact hce) hcv hcl T' rfl X'
    exact ⟨t2, st.trans a1, b1⟩
theorem vx_calll {S SX : Type} {post : Int64 → S → Prop} {px : SX → Prop} {B : S → State → Prop} {BX : String → SX → State → Prop} {AX : Nat → Prop} (hr : vx_Run p l e R s m args below meth c H locs cells slots mc ms (F0 m pc ls st0) rest (va_Ql post B A1 a) (vx_X px BX AX) free) (hS : va_S A0 H0 H locs) (hA : ∀ q, q < H.size → A1 q → A0 q) (hf : ∀ q, free q → A0 q) (hAX : ∀ q, q < H.size → AX q → A0 q)
    (kx : ∀ (E : String) (ce : Cell) (q9 : Addr) (u : SX) (t : State) (H1 : Heap) (locs1 : List Loc), t.heap = H1 → s.vm.Alike t.vm → px u → BX E u t → H.size ≤ H1.size → (∀ q : Nat, q < H.size → ¬ AX q → H1[q]? = H[q]?) → va_S A0 H0 H1 locs1 → H1[q9]? = some ce → ce.vm = .none → s.vm.findClass E = some ce.cls → vx_W p l e R s m args below meth c H1 locs1 (cells + mc) (slots + ms) Q (F0 m pc ls rest) q9)
    (kk : ∀ (r : Int64) (u : S) (t : State) (H1 : Heap) (locs1 : List Loc), t.heap = H1 → s.vm.Alike t.vm → post r u → B u t → H.size ≤ H1.size → (∀ q : Nat, q < H.size → ¬ A1 q → H1[q]? = H[q]?) → va_S A0 H0 H1 locs1 → W p l e R s m args below meth c H1 locs1 (cells + mc) (slots + ms) Q (F0 m (pc + 3) ls (.long r :: rest))) : W p l e R s m args below meth c H locs cells slots Q (F0 m pc ls st0) := by
  intro T hT X
  rcases hr T hT X with ⟨v, st₀, t, T', L, h0, X', hL, e1, e2, ⟨⟨r, u, hv, hp, hb⟩, hF⟩, st⟩ | ⟨q, st₀, t, T', L, E, ce, h0, X', hL, e1, e2, ⟨u, hp, hb, hF⟩, hce, hcv, hcl, st⟩
  · cases hv
    obtain ⟨k1, k2, k3⟩ := vx_keep h0 e1 hS hA hf hL hF
    obtain ⟨t2, a1, b1⟩ := kk r u t T'.heap (locs ++ L) e1.symm (by rw [← e2]; exact X'.warmed.alike) hp hb k1 k2 k3 T' rfl X'
    exact ⟨t2, st t2 a1, b1⟩
  · obtain ⟨k1, k2, k3⟩ := vx_keep h0 e1 hS hAX hf hL hF
    obtain ⟨t2, a1, b1⟩ := kx E ce q u t T'.heap (locs ++ L) e1.symm (by rw [← e2]; exact X'.warmed.alike) hp hb k1 k2 k3 (by rw [e1]; exact hce) hcv hcl T' rfl X'
    exact ⟨t2, st.trans a1, b1⟩
theorem vx_callf {S SX : Type} {post : UInt32 → S → Prop} {px : SX → Prop} {B : S → State → Prop} {BX : String → SX → State → Prop} {AX : Nat → Prop} (hr : vx_Run p l e R s m args below meth c H locs cells slots mc ms (F0 m pc ls st0) rest (va_Qf post B A1 a) (vx_X px BX AX) free) (hS : va_S A0 H0 H locs) (hA : ∀ q, q < H.size → A1 q → A0 q) (hf : ∀ q, free q → A0 q) (hAX : ∀ q, q < H.size → AX q → A0 q)
    (kx : ∀ (E : String) (ce : Cell) (q9 : Addr) (u : SX) (t : State) (H1 : Heap) (locs1 : List Loc), t.heap = H1 → s.vm.Alike t.vm → px u → BX E u t → H.size ≤ H1.size → (∀ q : Nat, q < H.size → ¬ AX q → H1[q]? = H[q]?) → va_S A0 H0 H1 locs1 → H1[q9]? = some ce → ce.vm = .none → s.vm.findClass E = some ce.cls → vx_W p l e R s m args below meth c H1 locs1 (cells + mc) (slots + ms) Q (F0 m pc ls rest) q9)
    (kk : ∀ (r : UInt32) (u : S) (t : State) (H1 : Heap) (locs1 : List Loc), t.heap = H1 → s.vm.Alike t.vm → post r u → B u t → H.size ≤ H1.size → (∀ q : Nat, q < H.size → ¬ A1 q → H1[q]? = H[q]?) → va_S A0 H0 H1 locs1 → W p l e R s m args below meth c H1 locs1 (cells + mc) (slots + ms) Q (F0 m (pc + 3) ls (.float r :: rest))) : W p l e R s m args below meth c H locs cells slots Q (F0 m pc ls st0) := by
  intro T hT X
  rcases hr T hT X with ⟨v, st₀, t, T', L, h0, X', hL, e1, e2, ⟨⟨r, u, hv, hp, hb⟩, hF⟩, st⟩ | ⟨q, st₀, t, T', L, E, ce, h0, X', hL, e1, e2, ⟨u, hp, hb, hF⟩, hce, hcv, hcl, st⟩
  · cases hv
    obtain ⟨k1, k2, k3⟩ := vx_keep h0 e1 hS hA hf hL hF
    obtain ⟨t2, a1, b1⟩ := kk r u t T'.heap (locs ++ L) e1.symm (by rw [← e2]; exact X'.warmed.alike) hp hb k1 k2 k3 T' rfl X'
    exact ⟨t2, st t2 a1, b1⟩
  · obtain ⟨k1, k2, k3⟩ := vx_keep h0 e1 hS hAX hf hL hF
    obtain ⟨t2, a1, b1⟩ := kx E ce q u t T'.heap (locs ++ L) e1.symm (by rw [← e2]; exact X'.warmed.alike) hp hb k1 k2 k3 (by rw [e1]; exact hce) hcv hcl T' rfl X'
    exact ⟨t2, st.trans a1, b1⟩
theorem vx_calld {S SX : Type} {post : UInt64 → S → Prop} {px : SX → Prop} {B : S → State → Prop} {BX : String → SX → State → Prop} {AX : Nat → Prop} (hr : vx_Run p l e R s m args below meth c H locs cells slots mc ms (F0 m pc ls st0) rest (va_Qd post B A1 a) (vx_X px BX AX) free) (hS : va_S A0 H0 H locs) (hA : ∀ q, q < H.size → A1 q → A0 q) (hf : ∀ q, free q → A0 q) (hAX : ∀ q, q < H.size → AX q → A0 q)
    (kx : ∀ (E : String) (ce : Cell) (q9 : Addr) (u : SX) (t : State) (H1 : Heap) (locs1 : List Loc), t.heap = H1 → s.vm.Alike t.vm → px u → BX E u t → H.size ≤ H1.size → (∀ q : Nat, q < H.size → ¬ AX q → H1[q]? = H[q]?) → va_S A0 H0 H1 locs1 → H1[q9]? = some ce → ce.vm = .none → s.vm.findClass E = some ce.cls → vx_W p l e R s m args below meth c H1 locs1 (cells + mc) (slots + ms) Q (F0 m pc ls rest) q9)
    (kk : ∀ (r : UInt64) (u : S) (t : State) (H1 : Heap) (locs1 : List Loc), t.heap = H1 → s.vm.Alike t.vm → post r u → B u t → H.size ≤ H1.size → (∀ q : Nat, q < H.size → ¬ A1 q → H1[q]? = H[q]?) → va_S A0 H0 H1 locs1 → W p l e R s m args below meth c H1 locs1 (cells + mc) (slots + ms) Q (F0 m (pc + 3) ls (.double r :: rest))) : W p l e R s m args below meth c H locs cells slots Q (F0 m pc ls st0) := by
  intro T hT X
  rcases hr T hT X with ⟨v, st₀, t, T', L, h0, X', hL, e1, e2, ⟨⟨r, u, hv, hp, hb⟩, hF⟩, st⟩ | ⟨q, st₀, t, T', L, E, ce, h0, X', hL, e1, e2, ⟨u, hp, hb, hF⟩, hce, hcv, hcl, st⟩
  · cases hv
    obtain ⟨k1, k2, k3⟩ := vx_keep h0 e1 hS hA hf hL hF
    obtain ⟨t2, a1, b1⟩ := kk r u t T'.heap (locs ++ L) e1.symm (by rw [← e2]; exact X'.warmed.alike) hp hb k1 k2 k3 T' rfl X'
    exact ⟨t2, st t2 a1, b1⟩
  · obtain ⟨k1, k2, k3⟩ := vx_keep h0 e1 hS hAX hf hL hF
    obtain ⟨t2, a1, b1⟩ := kx E ce q u t T'.heap (locs ++ L) e1.symm (by rw [← e2]; exact X'.warmed.alike) hp hb k1 k2 k3 (by rw [e1]; exact hce) hcv hcl T' rfl X'
    exact ⟨t2, st.trans a1, b1⟩
theorem vx_callv {S SX : Type} {post : S → Prop} {px : SX → Prop} {B : S → State → Prop} {BX : String → SX → State → Prop} {AX : Nat → Prop} (hr : vx_Run p l e R s m args below meth c H locs cells slots mc ms (F0 m pc ls st0) rest (va_Qv post B A1 a) (vx_X px BX AX) free) (hS : va_S A0 H0 H locs) (hA : ∀ q, q < H.size → A1 q → A0 q) (hf : ∀ q, free q → A0 q) (hAX : ∀ q, q < H.size → AX q → A0 q)
    (kx : ∀ (E : String) (ce : Cell) (q9 : Addr) (u : SX) (t : State) (H1 : Heap) (locs1 : List Loc), t.heap = H1 → s.vm.Alike t.vm → px u → BX E u t → H.size ≤ H1.size → (∀ q : Nat, q < H.size → ¬ AX q → H1[q]? = H[q]?) → va_S A0 H0 H1 locs1 → H1[q9]? = some ce → ce.vm = .none → s.vm.findClass E = some ce.cls → vx_W p l e R s m args below meth c H1 locs1 (cells + mc) (slots + ms) Q (F0 m pc ls rest) q9)
    (kk : ∀ (u : S) (t : State) (H1 : Heap) (locs1 : List Loc), t.heap = H1 → s.vm.Alike t.vm → post u → B u t → H.size ≤ H1.size → (∀ q : Nat, q < H.size → ¬ A1 q → H1[q]? = H[q]?) → va_S A0 H0 H1 locs1 → W p l e R s m args below meth c H1 locs1 (cells + mc) (slots + ms) Q (F0 m (pc + 3) ls (rest))) : W p l e R s m args below meth c H locs cells slots Q (F0 m pc ls st0) := by
  intro T hT X
  rcases hr T hT X with ⟨v, st₀, t, T', L, h0, X', hL, e1, e2, ⟨⟨u, hv, hp, hb⟩, hF⟩, st⟩ | ⟨q, st₀, t, T', L, E, ce, h0, X', hL, e1, e2, ⟨u, hp, hb, hF⟩, hce, hcv, hcl, st⟩
  · cases hv
    obtain ⟨k1, k2, k3⟩ := vx_keep h0 e1 hS hA hf hL hF
    obtain ⟨t2, a1, b1⟩ := kk u t T'.heap (locs ++ L) e1.symm (by rw [← e2]; exact X'.warmed.alike) hp hb k1 k2 k3 T' rfl X'
    exact ⟨t2, st t2 a1, b1⟩
  · obtain ⟨k1, k2, k3⟩ := vx_keep h0 e1 hS hAX hf hL hF
    obtain ⟨t2, a1, b1⟩ := kx E ce q u t T'.heap (locs ++ L) e1.symm (by rw [← e2]; exact X'.warmed.alike) hp hb k1 k2 k3 (by rw [e1]; exact hce) hcv hcl T' rfl X'
    exact ⟨t2, st.trans a1, b1⟩
end Rows
section Ends
variable {p : Program} {l : Launch} {e : Env} {R : Room} {s : State} {m : MethodId} {args : Array Value} {below : List Frame} {meth : Method} {c : Code} {H : Heap} {locs : List Loc} {cells slots : Nat} {Q : State → Prop}
variable {mc ms : Nat} {free : Addr → Prop} {A0 A1 : Nat → Prop} {H0 : Heap} {a : Array Value} {ls : Array Slot} {st0 rest : List Value}
variable {Qc : Array Value → State → Outcome → State → Prop} {XC : String → State → State → Prop}
/-- what a body that may throw owes at its end -/
def vx_MQ (below : List Frame) (Qc : Array Value → State → Outcome → State → Prop) (XC : String → State → State → Prop) (a : Array Value) (s : State) (mc ms : Nat) (free : Addr → Prop) : State → Prop := fun t =>
  ∃ o, t.status = .running ∧ Ended t below o ∧ vx_Q Qc XC mc ms free a s o t
theorem vx_ret {g : JFrame} {mc ms : Nat} (k : W p l e R s m args below meth c H locs cells slots (MQ below Qc args s mc ms free) g) : W p l e R s m args below meth c H locs cells slots (vx_MQ below Qc XC args s mc ms free) g := by
  intro T hT X
  obtain ⟨t, a1, o, b1, b2, b3, b4⟩ := k T hT X
  exact ⟨t, a1, o, b1, b2, Or.inl ⟨b3, b4⟩⟩
/-- not caught here: it goes on to the caller -/
theorem vx_widen {g : JFrame} {q : Addr} {k n : Nat} (h1 : cells ≤ k) (h2 : slots ≤ n) (kk : vx_W p l e R s m args below meth c H locs k n Q g q) : vx_W p l e R s m args below meth c H locs cells slots Q g q := fun T hT X => kk T hT (stand_widen X h1 h2)
theorem vx_out {pc : Nat} {E : String} {ce : Cell} {q : Addr} {mc ms : Nat} (hout : ∀ x ∈ c.exceptionTable.toList, covers x pc = false) (hlocks : meth.locks = false) (hcell : H[q]? = some ce) (hv : ce.vm = .none) (hcl : s.vm.findClass E = some ce.cls)
    (hx : ∀ t : State, t.heap = H → s.vm.Alike t.vm → XC E s t) (hf : ∀ z ∈ locs, free z.base) (hc : cells ≤ mc) (hs : slots ≤ ms) :
    vx_W p l e R s m args below meth c H locs cells slots (vx_MQ below Qc XC args s mc ms free) (F0 m pc ls rest) q := by
  intro T hT X
  obtain ⟨st1, hrun, hend, hW, hsm⟩ := X.leaveThrown q (g := F0 m pc ls rest) rfl rfl rfl hout hlocks
  have hcell9 : (T.setFrames (.throwing q :: below)).heap[q]? = some ce := by
    show T.heap[q]? = some ce
    rw [hT]; exact hcell
  exact ⟨_, st1, .threw q, hrun, hend, Or.inr ⟨q, rfl, E, ce, locs, hx _ hT hW.alike, hcell9, hv, hcl, hW, hsm.mono hc hs, hf⟩⟩
theorem vx_frame {U : State} {k n : Nat} (h : s.sameButNew ({ U with vm := s.vm } : State) locs k n) : s.heap.size ≤ U.heap.size ∧ ∀ q : Nat, q < s.heap.size → (∀ z ∈ locs, z.base ≠ q) → U.heap[q]? = s.heap[q]? := by
  obtain ⟨-, h2, -, -, -, h6⟩ := h
  refine ⟨h2, fun q hq hz => ?_⟩
  obtain ⟨c9, e1, e2, e3, e4⟩ := h6 q _ (Array.getElem?_eq_getElem hq)
  have hs : c9.slots = (s.heap[q]).slots := Array.ext_getElem? fun i => e4 i fun hm => hz _ hm rfl
  have h9 : c9 = s.heap[q] := by
    rw [hs] at e2
    exact e2
  have e5 : U.heap[q]? = some c9 := e1
  rw [e5, h9, Array.getElem?_eq_getElem hq]
/-- the words of a throw but the four that speak of the heap -/
def vx_no (w : Cond) : Bool := decide (w ≠ .isRef (.static Bundle.tN "UNASSIGNED_STACK" Bundle.steD)) && decide (w ≠ .isRef (.static Bundle.tN "SUPPRESSED_SENTINEL" Bundle.listD)) && decide (w ≠ .laysStatic Bundle.tN "UNASSIGNED_STACK" Bundle.steD) && decide (w ≠ .laysStatic Bundle.tN "SUPPRESSED_SENTINEL" Bundle.listD)
def vx_at0 (own : String) (ic : Nat) (X : String) (names : List String) : List Cond := (Bundle.ownAtoms0 own ic X names).filter vx_no
def vx_atS (own : String) (ic : Nat) (X : String) (names : List String) : List Cond := (Bundle.ownAtoms own ic X names).filter vx_no
/-- a word that the tables alone decide, or a good one -/
def vx_ot (w : Cond) : Bool := w.onTables || goodWord w
theorem vx_ot_at {args a' : Array Value} {s U : State} {w : Cond} (hW : s.WarmedH U.vm) (hvm : s.vm = U.vm) (hg : vx_ot w = true) (h : w.before args s = true) : w.before a' U = true := by
  simp only [vx_ot, Bool.or_eq_true] at hg
  rcases hg with hg | hg
  · exact va_tabs hg hvm h
  · exact word_at hW (good_of_word hg) h
/-- a list's words: the good ones out of the method's own list, the others by premises of their own -/
theorem vx_hat {args : Array Value} {s : State} {L B : List Cond} (h1 : ∀ w ∈ L.filter goodWord, w.before args s = true) (h2 : ∀ w ∈ L.filter (fun w => !goodWord w), w ∈ B) (h3 : ∀ w ∈ B, w.before args s = true) : ∀ w ∈ L, w.before args s = true := by
  intro w hw
  by_cases g : goodWord w = true
  · exact h1 w (List.mem_filter.mpr ⟨hw, g⟩)
  · refine h3 w (h2 w (List.mem_filter.mpr ⟨hw, ?_⟩))
    show (!goodWord w) = true
    cases hgw : goodWord w
    · rfl
    · exact absurd hgw g
theorem vx_c {args : Array Value} {s : State} {w : Cond} {B : List Cond} (h : w.before args s = true) (t : ∀ w ∈ B, w.before args s = true) : ∀ w' ∈ w :: B, w'.before args s = true := fun w' h' => (List.mem_cons.mp h').elim (fun e => by rw [e]; exact h) (t w')
theorem vx_n {args : Array Value} {s : State} : ∀ w ∈ ([] : List Cond), w.before args s = true := fun _ h => nomatch h
theorem vx_own {args : Array Value} {s : State} {L : List Cond} (h1 : ∀ w ∈ L.filter vx_no, w.before args s = true)
    (hU : (Cond.isRef (.static Bundle.tN "UNASSIGNED_STACK" Bundle.steD)).before args s = true) (hN : (Cond.isRef (.static Bundle.tN "SUPPRESSED_SENTINEL" Bundle.listD)).before args s = true)
    (lU : (Cond.laysStatic Bundle.tN "UNASSIGNED_STACK" Bundle.steD).before args s = true) (lN : (Cond.laysStatic Bundle.tN "SUPPRESSED_SENTINEL" Bundle.listD).before args s = true) : ∀ w ∈ L, w.before args s = true := by
  intro w hw
  by_cases e1 : w = .isRef (.static Bundle.tN "UNASSIGNED_STACK" Bundle.steD)
  · rw [e1]; exact hU
  · by_cases e2 : w = .isRef (.static Bundle.tN "SUPPRESSED_SENTINEL" Bundle.listD)
    · rw [e2]; exact hN
    · by_cases e3 : w = .laysStatic Bundle.tN "UNASSIGNED_STACK" Bundle.steD
      · rw [e3]; exact lU
      · by_cases e4 : w = .laysStatic Bundle.tN "SUPPRESSED_SENTINEL" Bundle.listD
        · rw [e4]; exact lN
        · exact h1 w (List.mem_filter.mpr ⟨hw, by unfold vx_no; rw [decide_eq_true e1, decide_eq_true e2, decide_eq_true e3, decide_eq_true e4]; rfl⟩)
/-- where a static field lies, its class's statics cell in H -/
def vx_L (C n d : String) (A : Nat → Prop) (U : State) (H : Heap) : Prop := ∃ (c : ClassId) (k : Class) (i : Nat) (f : Field) (a : Nat) (cell : Cell), U.vm.findClass C = some c ∧ U.fieldFound? C n d = some (c, k, i, f) ∧ f.isStatic = true ∧ k.statics = some a ∧ H[a]? = some cell ∧ cell.vm.isStatics = true ∧ cell.cls = c ∧ f.slot < cell.slots.size ∧ k.staticTypes[f.slot]? = some f.type ∧ ¬ A a
theorem vx_L.moved {C n d : String} {A : Nat → Prop} {u U : State} {H : Heap} (hvm : u.vm.Alike U.vm) (h : vx_L C n d A u H) : vx_L C n d A U H := by
  obtain ⟨c, k, i, f, a, cell, h1, h2, h3, h4, h5, h6, h7, h8, h9, h10⟩ := h
  obtain ⟨k', hi', he⟩ := State.fieldFound?_setVm hvm h2
  exact ⟨c, k', i, f, a, cell, by rw [hvm.findClass]; exact h1, hi', h3, by rw [he]; exact h4, h5, h6, h7, h8, by rw [he]; exact h9, h10⟩
theorem vx_L.kept {C n d : String} {A : Nat → Prop} {U : State} {H H1 : Heap} (h : vx_L C n d A U H) (hq : ∀ a : Nat, a < H.size → ¬ A a → H1[a]? = H[a]?) : vx_L C n d A U H1 := by
  obtain ⟨c, k, i, f, a, cell, h1, h2, h3, h4, h5, h6, h7, h8, h9, h10⟩ := h
  exact ⟨c, k, i, f, a, cell, h1, h2, h3, h4, by rw [hq a (Array.getElem?_eq_some_iff.mp h5).1 h10]; exact h5, h6, h7, h8, h9, h10⟩
theorem vx_L.narrow {C n d : String} {A B : Nat → Prop} {U : State} {H : Heap} (h : vx_L C n d A U H) (hAB : ∀ q, B q → A q) : vx_L C n d B U H := by
  obtain ⟨c, k, i, f, a, cell, h1, h2, h3, h4, h5, h6, h7, h8, h9, h10⟩ := h
  exact ⟨c, k, i, f, a, cell, h1, h2, h3, h4, h5, h6, h7, h8, h9, fun z => h10 (hAB _ z)⟩
theorem vx_L.word {C n d : String} {A : Nat → Prop} {s : State} {args : Array Value} (h : vx_L C n d A s s.heap) : (Cond.laysStatic C n d).before args s = true := by
  obtain ⟨c, k, i, f, a, cell, h1, h2, h3, h4, h5, h6, h7, h8, h9, -⟩ := h
  show (Cond.laysStatic C n d).holds args s none s [] = true
  exact Cond.laysStatic_of h1 h2 h3 h4 h5 h6 h7 h8 h9
/-- .. and what it holds: null or some reference -/
def vx_Zq (C n d : String) (A : Nat → Prop) (U : State) (H : Heap) : Prop := va_Zq C n d A U H ∧ vx_L C n d A U H
theorem vx_Zq.moved {C n d : String} {A : Nat → Prop} {u U : State} {H : Heap} (hvm : u.vm.Alike U.vm) (h : vx_Zq C n d A u H) : vx_Zq C n d A U H := ⟨va_Zq.moved hvm h.1, vx_L.moved hvm h.2⟩
theorem vx_Zq.kept {C n d : String} {A : Nat → Prop} {U : State} {H H1 : Heap} (h : vx_Zq C n d A U H) (hq : ∀ a : Nat, a < H.size → ¬ A a → H1[a]? = H[a]?) : vx_Zq C n d A U H1 := ⟨va_Zq.kept h.1 hq, vx_L.kept h.2 hq⟩
theorem vx_Zq.narrow {C n d : String} {A B : Nat → Prop} {U : State} {H : Heap} (h : vx_Zq C n d A U H) (hAB : ∀ q, B q → A q) : vx_Zq C n d B U H := ⟨va_Zq.narrow h.1 hAB, vx_L.narrow h.2 hAB⟩
theorem vx_Zqof {args : Array Value} {s : State} {C n d : String} {A : Nat → Prop} (hl : (Cond.laysStatic C n d).before args s = true) (hini : (Cond.initialized C).before args s = true) (h : (Cond.isRef (.static C n d)).before args s = true) (hA : ∀ a : Nat, a < s.heap.size → ¬ A a) : vx_Zq C n d A s s.heap := by
  refine ⟨va_Zqof hl hini h hA, ?_⟩
  obtain ⟨c, k, i, f, a, cell, h1, h2, h3, h4, h5, h6, h7, h8, h9⟩ := Cond.laysStatic_spec hl
  exact ⟨c, k, i, f, a, cell, h1, h2, h3, h4, h5, h6, h7, h8, h9, hA a (Array.getElem?_eq_some_iff.mp h5).1⟩
theorem vx_isRef {C n d : String} {v : Value} {A : Nat → Prop} {s : State} {args : Array Value} (h : va_Z C n d v A s s.heap) (hv : v.isRef = true) : (Cond.isRef (.static C n d)).before args s = true := by
  obtain ⟨cf, kf, fi, f, a, cell, h1, h2, h3, h4, h5, h6, h7, -⟩ := h
  have he : (Term.static C n d).eval args s none [] s = some v := by
    simp [Term.eval, State.fieldNamed?, h1, h2, h4, h5, h6, h7]
  simp only [Cond.before, Cond.holds, Cond.value, he]
  cases v <;> simp_all [Value.isRef]
theorem vx_isRefq {C n d : String} {A : Nat → Prop} {s : State} {args : Array Value} (h : va_Zq C n d A s s.heap) : (Cond.isRef (.static C n d)).before args s = true := by
  rcases h with h | ⟨t, h⟩
  · exact vx_isRef h rfl
  · exact vx_isRef h rfl
/-- the same frame, seen from here: as if the method were called anew in this heap -/
theorem vx_rebase {T : State} (X : Stand p l e R s m args below meth c T locs cells slots) {R' : Room} (hf : R'.frames ≤ R.frames) (hl : R'.locals ≤ R.locals) (hc : cells + R'.cells ≤ R.cells) (hs : slots + R'.slots ≤ R.slots) :
    Stand p l e R' ((T.setVm s.vm).setFrames (.invoking m args :: below)) m args below meth c T [] 0 0 := by
  have htop : (T.setVm s.vm).topJava?.isSome := X.here.top
  have hF : ((T.setVm s.vm).setFrames (.invoking m args :: below)).frames = .invoking m args :: below := State.frames_setFrames _ (State.cur_lt_of_top htop)
  obtain ⟨g₀, hg0⟩ := Option.isSome_iff_exists.mp htop
  obtain ⟨r, hr⟩ := State.topJava?_eq_some.mp hg0
  have hl9 : e.platform.stackLimits (T.setVm s.vm).me = e.platform.stackLimits s.me := X.limits
  have hb9 : (T.setVm s.vm).me.stackBytes = s.me.stackBytes := X.bytes
  refine ⟨X.admits, X.cas, X.clock, hF, ?_, X.hears, X.method, X.code, X.here, X.tail, X.warmed, ?_, ?_, ?_⟩
  · have h := X.room
    have hU : ((T.setVm s.vm).setFrames (.invoking m args :: below)).localsInUse = s.localsInUse := by
      rw [State.localsInUse_invoking hF (meth := meth) (c := c) X.method X.code, State.localsInUse_invoking X.frames X.method X.code]
    simp only [State.hasRoom, Bool.and_eq_true, decide_eq_true_eq] at h ⊢
    obtain ⟨⟨⟨⟨h1, h2, h3, h4, h5, h6⟩, h7⟩, h8⟩, h9⟩ := h
    rw [X.frames, List.length_cons] at h2 h3
    have q1 := X.heapSize
    have q2 := X.used
    simp only [hF, hU, List.length_cons, State.stackLimits_setFrames, State.stackBytes_setFrames, hl9, hb9]
    refine ⟨⟨⟨⟨by omega, by omega, by omega, by omega, by omega, h6⟩, ?_⟩, ?_⟩, X.book⟩
    · show T.heap.size + R'.cells ≤ e.platform.maxCells
      omega
    · show T.slotsUsed + R'.slots ≤ e.platform.maxSlots
      omega
  · rw [State.stackLimits_setFrames]; rfl
  · rw [State.stackBytes_setFrames]; rfl
  · refine ⟨?_, Nat.le_refl _, Nat.le_refl _, ?_, ?_, fun a c9 h9 => ⟨c9, h9, rfl, rfl, fun _ _ => rfl⟩⟩
    · obtain ⟨t, ht, -⟩ := State.frames_cons hr
      show T.setVm s.vm = { ((T.setVm s.vm).setFrames (.invoking m args :: below)).setFrames (T.setVm s.vm).frames with heap := T.heap, slotsUsed := T.slotsUsed }
      rw [State.setFrames_setFrames, State.setFrames_self ht]
      rfl
    · show T.slotsUsed = T.slotsUsed + ((T.heap.toList.drop T.heap.size).map (·.slots.size)).sum
      rw [List.drop_eq_nil_of_le (Nat.le_of_eq Array.length_toList)]
      rfl
    · show ((T.heap.toList.drop T.heap.size).map (·.slots.size)).sum ≤ 0
      rw [List.drop_eq_nil_of_le (Nat.le_of_eq Array.length_toList)]
      exact Nat.le_refl _
/-- 'throw new E()': new; dup; invokespecial; athrow -/
theorem vx_throw0 {cc : ByteArray} {pc : Nat} (hexec : p.tables.exec = Jvm.exec) (hb : c.code = cc) (hl : l.stackTraces = false) {own cls : String} {names : List String} {ik ic mc ms : Nat} {A : Nat → Prop}
    (hown : s.vm.findClass own = some m.cls) (hcls : Bundle.fit cls = true) (hnames : ∀ n ∈ names, Bundle.fit n = true)
    (hk : (Cond.classLink own ik cls).before args s = true) (hini : (Cond.initialized cls).before args s = true) (hat : ∀ w ∈ vx_at0 own ic cls names, w.before args s = true)
    (hgood : ∀ w ∈ Cond.classLink own ik cls :: Cond.initialized cls :: vx_at0 own ic cls names, vx_ot w = true)
    (hU : vx_Zq Bundle.tN "UNASSIGNED_STACK" Bundle.steD A s s.heap) (hN : vx_Zq Bundle.tN "SUPPRESSED_SENTINEL" Bundle.listD A s s.heap) (hS : va_S A s.heap H locs) (hsize : ls.size = c.maxLocals)
    (d0 : decode cc pc = .ok (.new ik, 3)) (d3 : decode cc (pc + 3) = .ok (.dup, 1)) (d4 : decode cc (pc + 4) = .ok (.invokespecial ic, 3)) (d7 : decode cc (pc + 7) = .ok (.athrow, 1))
    (hout : ∀ x ∈ c.exceptionTable.toList, covers x (pc + 7) = false)
    (hRframes : names.length + 3 < R.frames) (hRlocals : (rest.map fun v => v.category).sum + (13 * (names.length + 1) + 42) ≤ R.locals) (hRcells : cells + 1 ≤ R.cells) (hRslots : slots + 6 ≤ R.slots) (hlocks : meth.locks = false)
    (hx : ∀ t : State, s.vm.Alike t.vm → H.size ≤ t.heap.size → (∀ q : Nat, q < H.size → t.heap[q]? = H[q]?) → XC cls s t)
    (hf : ∀ z ∈ locs, free z.base) (hc : cells + 1 ≤ mc) (hs : slots + 6 ≤ ms) :
    W p l e R s m args below meth c H locs cells slots (vx_MQ below Qc XC args s mc ms free) (F0 m pc ls rest) := by
  intro T hT X
  have htr : e.platform.stackTraces = false := (show e.platform.stackTraces = l.stackTraces by rw [X.admits.platform]).trans hl
  have Y := vx_rebase X (R' := { frames := R.frames, locals := R.locals, cells := 1, slots := 6 }) (Nat.le_refl _) (Nat.le_refl _) hRcells hRslots
  obtain ⟨s', hA⟩ : ∃ z, z = (T.setVm s.vm).setFrames (.invoking m args :: below) := ⟨_, rfl⟩
  rw [← hA] at Y
  have hvm : s'.vm = s.vm := by rw [hA]; rfl
  have hhp : s'.heap = H := by rw [hA]; exact hT
  have hW0 : s.WarmedH s'.vm := by rw [hvm]; exact State.WarmedH.refl s
  have hat' : ∀ w ∈ vx_at0 own ic cls names, w.before args s' = true := fun w hw => vx_ot_at hW0 hvm.symm (hgood w (List.mem_cons_of_mem _ (List.mem_cons_of_mem _ hw))) (hat w hw)
  have hk' : (Cond.classLink own ik cls).before args s' = true := vx_ot_at hW0 hvm.symm (hgood _ List.mem_cons_self) hk
  have hini' : (Cond.initialized cls).before args s' = true := vx_ot_at hW0 hvm.symm (hgood _ (List.mem_cons_of_mem _ List.mem_cons_self)) hini
  have hU' : vx_Zq Bundle.tN "UNASSIGNED_STACK" Bundle.steD A s' s'.heap := by rw [hhp]; exact vx_Zq.moved hW0.alike (hU.kept hS.2.1)
  have hN' : vx_Zq Bundle.tN "SUPPRESSED_SENTINEL" Bundle.listD A s' s'.heap := by rw [hhp]; exact vx_Zq.moved hW0.alike (hN.kept hS.2.1)
  have h : ∀ w ∈ Bundle.ownAtoms0 own ic cls names, w.before args s' = true := vx_own hat' (vx_isRefq hU'.1) (vx_isRefq hN'.1) hU'.2.word hN'.2.word
  have hown' : s'.vm.findClass own = some m.cls := by rw [hvm]; exact hown
  have hins : (Cond.instantiable cls 6).before args s' = true := h _ (by simp [Bundle.ownAtoms0])
  obtain ⟨vm₁, cX, kX, hfX, hkX, -, -, X₁, st1⟩ := Y.newCold hexec (own := own) (C := cls) (index := ik) (n := 6) hown' hk' hins hini'
    (g := F0 m pc ls rest) rfl (by rw [hb]; exact d0) (Nat.le_refl _) (Nat.le_refl _)
  generalize hT1 : (T.setVm vm₁).pushCell { cls := cX, slots := kX.instanceTypes.map defaultValue, vm := .none } = T1 at X₁ st1
  have hcat : (Value.ref T.heap.size).category = 1 := rfl
  have hcellA : T1.heap[T.heap.size]? = some (freshCell cX kX) := by rw [← hT1]; exact State.heap_pushCell_size _ _
  have d3' : decode c.code (pc + 3) = .ok (.dup, 1) := by rw [hb]; exact d3
  obtain ⟨U, hsteps, hrun, hend, hW, hsame, ce, hce, hO⟩ := X₁.ctorThrow0 hexec htr (own := own) (cls := cls) (names := names) (ic := ic) hown' hcls hnames h (fun x hx => nomatch hx) hfX hkX hcellA (by rw [hhp, hT]; exact Nat.le_refl _)
    (g := { method := m, pc := pc + 4, locals := ls, stack := .ref T.heap.size :: .ref T.heap.size :: rest, locked := none }) rfl hsize rfl rfl (rest := rest) rfl
    (by rw [hb]; exact d4) (by rw [hb]; exact d7) hout hRframes (by simp only [List.map_cons, List.sum_cons, hcat]; omega) hlocks
  obtain ⟨f1, f2⟩ := vx_frame hsame
  rw [hhp] at f1 f2
  have hWs : s.WarmedH U.vm := State.WarmedH.trans hW0 hW
  have hcl : s.vm.findClass cls = some ce.cls := by
    have h9 := hO.cls
    rw [hvm] at h9
    exact h9
  have hall : s.sameButNew ({ U with vm := s.vm } : State) locs mc ms := by
    subst hA
    obtain ⟨e1, e2⟩ := hsame
    rw [State.setFrames_setFrames] at e1
    have h2 : (T.setVm s.vm).sameButNew ({ U with vm := s.vm } : State) [] (0 + 1) (0 + 6) := ⟨e1, e2⟩
    have h3 := X.same.trans h2
    rw [List.append_nil] at h3
    exact h3.mono hc hs
  refine ⟨U, ?_, .threw T.heap.size, hrun, hend, Or.inr ⟨T.heap.size, rfl, cls, ce, locs, hx U hWs.alike f1 (fun q hq => f2 q hq (fun z hz => nomatch hz)), hce, hO.vm, hcl, hWs, hall, hf⟩⟩
  refine st1 _ ?_
  show Steps p.tables e below (T1.setTop { method := m, pc := pc + 3, locals := ls, stack := .ref T.heap.size :: rest, locked := none }) _
  jvm_step X₁.here [X₁.here.top, hexec, d3', Value.category]
  exact hsteps
/-- 'throw new E("text")': new; dup; ldc; invokespecial; athrow -/
theorem vx_throwS {cc : ByteArray} {pc : Nat} (hexec : p.tables.exec = Jvm.exec) (hb : c.code = cc) (hl : l.stackTraces = false) {own cls text : String} {names : List String} {ik is ic mc ms sa : Nat} {A : Nat → Prop}
    (hown : s.vm.findClass own = some m.cls) (hcls : Bundle.fit cls = true) (hnames : ∀ n ∈ names, Bundle.fit n = true)
    (hk : (Cond.classLink own ik cls).before args s = true) (hini : (Cond.initialized cls).before args s = true) (hstr : vk_R own is text sa s) (hat : ∀ w ∈ vx_atS own ic cls names, w.before args s = true)
    (hgood : ∀ w ∈ Cond.classLink own ik cls :: Cond.initialized cls :: vx_atS own ic cls names, vx_ot w = true)
    (hU : vx_Zq Bundle.tN "UNASSIGNED_STACK" Bundle.steD A s s.heap) (hN : vx_Zq Bundle.tN "SUPPRESSED_SENTINEL" Bundle.listD A s s.heap) (hS : va_S A s.heap H locs) (hsize : ls.size = c.maxLocals)
    (d0 : decode cc pc = .ok (.new ik, 3)) (d3 : decode cc (pc + 3) = .ok (.dup, 1)) (d4 : decode cc (pc + 4) = .ok (.ldc is, 2)) (d6 : decode cc (pc + 6) = .ok (.invokespecial ic, 3)) (d9 : decode cc (pc + 9) = .ok (.athrow, 1))
    (hout : ∀ x ∈ c.exceptionTable.toList, covers x (pc + 9) = false)
    (hRframes : names.length + 3 < R.frames) (hRlocals : (rest.map fun v => v.category).sum + (13 * (names.length + 1) + 43) ≤ R.locals) (hRcells : cells + 1 ≤ R.cells) (hRslots : slots + 6 ≤ R.slots) (hlocks : meth.locks = false)
    (hx : ∀ t : State, s.vm.Alike t.vm → H.size ≤ t.heap.size → (∀ q : Nat, q < H.size → t.heap[q]? = H[q]?) → XC cls s t)
    (hf : ∀ z ∈ locs, free z.base) (hc : cells + 1 ≤ mc) (hs : slots + 6 ≤ ms) :
    W p l e R s m args below meth c H locs cells slots (vx_MQ below Qc XC args s mc ms free) (F0 m pc ls rest) := by
  intro T hT X
  have htr : e.platform.stackTraces = false := (show e.platform.stackTraces = l.stackTraces by rw [X.admits.platform]).trans hl
  have Y := vx_rebase X (R' := { frames := R.frames, locals := R.locals, cells := 1, slots := 6 }) (Nat.le_refl _) (Nat.le_refl _) hRcells hRslots
  obtain ⟨s', hA⟩ : ∃ z, z = (T.setVm s.vm).setFrames (.invoking m args :: below) := ⟨_, rfl⟩
  rw [← hA] at Y
  have hvm : s'.vm = s.vm := by rw [hA]; rfl
  have hhp : s'.heap = H := by rw [hA]; exact hT
  have hW0 : s.WarmedH s'.vm := by rw [hvm]; exact State.WarmedH.refl s
  have hat' : ∀ w ∈ vx_atS own ic cls names, w.before args s' = true := fun w hw => vx_ot_at hW0 hvm.symm (hgood w (List.mem_cons_of_mem _ (List.mem_cons_of_mem _ hw))) (hat w hw)
  have hk' : (Cond.classLink own ik cls).before args s' = true := vx_ot_at hW0 hvm.symm (hgood _ List.mem_cons_self) hk
  have hini' : (Cond.initialized cls).before args s' = true := vx_ot_at hW0 hvm.symm (hgood _ (List.mem_cons_of_mem _ List.mem_cons_self)) hini
  have hU' : vx_Zq Bundle.tN "UNASSIGNED_STACK" Bundle.steD A s' s'.heap := by rw [hhp]; exact vx_Zq.moved hW0.alike (hU.kept hS.2.1)
  have hN' : vx_Zq Bundle.tN "SUPPRESSED_SENTINEL" Bundle.listD A s' s'.heap := by rw [hhp]; exact vx_Zq.moved hW0.alike (hN.kept hS.2.1)
  have h : ∀ w ∈ Bundle.ownAtoms own ic cls names, w.before args s' = true := vx_own hat' (vx_isRefq hU'.1) (vx_isRefq hN'.1) hU'.2.word hN'.2.word
  have hown' : s'.vm.findClass own = some m.cls := by rw [hvm]; exact hown
  have hins : (Cond.instantiable cls 6).before args s' = true := h _ (by simp [Bundle.ownAtoms])
  obtain ⟨vm₁, cX, kX, hfX, hkX, -, -, X₁, st1⟩ := Y.newCold hexec (own := own) (C := cls) (index := ik) (n := 6) hown' hk' hins hini'
    (g := F0 m pc ls rest) rfl (by rw [hb]; exact d0) (Nat.le_refl _) (Nat.le_refl _)
  generalize hT1 : (T.setVm vm₁).pushCell { cls := cX, slots := kX.instanceTypes.map defaultValue, vm := .none } = T1 at X₁ st1
  have hcat : (Value.ref T.heap.size).category = 1 := rfl
  have hcellA : T1.heap[T.heap.size]? = some (freshCell cX kX) := by rw [← hT1]; exact State.heap_pushCell_size _ _
  have d3' : decode c.code (pc + 3) = .ok (.dup, 1) := by rw [hb]; exact d3
  have d4' : decode c.code (pc + 4) = .ok (.ldc is, 2) := by rw [hb]; exact d4
  have hstr' : vk_R own is text sa s' := vk_R.warm hW0 hstr
  obtain ⟨U, hsteps, hrun, hend, hW, hsame, ce, hce, hO⟩ := X₁.ctorThrowS hexec htr (own := own) (cls := cls) (names := names) (ic := ic) hown' hcls hnames h (fun x hx => nomatch hx) hfX hkX hcellA (by rw [hhp, hT]; exact Nat.le_refl _) (msg := .ref sa) rfl
    (g := { method := m, pc := pc + 6, locals := ls, stack := .ref sa :: .ref T.heap.size :: .ref T.heap.size :: rest, locked := none }) rfl hsize rfl rfl (rest := rest) rfl
    (by rw [hb]; exact d6) (by rw [hb]; exact d9) hout hRframes (by simp only [List.map_cons, List.sum_cons, hcat]; omega) hlocks
  obtain ⟨f1, f2⟩ := vx_frame hsame
  rw [hhp] at f1 f2
  have hWs : s.WarmedH U.vm := State.WarmedH.trans hW0 hW
  have hcl : s.vm.findClass cls = some ce.cls := by
    have h9 := hO.cls
    rw [hvm] at h9
    exact h9
  have hall : s.sameButNew ({ U with vm := s.vm } : State) locs mc ms := by
    subst hA
    obtain ⟨e1, e2⟩ := hsame
    rw [State.setFrames_setFrames] at e1
    have h2 : (T.setVm s.vm).sameButNew ({ U with vm := s.vm } : State) [] (0 + 1) (0 + 6) := ⟨e1, e2⟩
    have h3 := X.same.trans h2
    rw [List.append_nil] at h3
    exact h3.mono hc hs
  refine ⟨U, ?_, .threw T.heap.size, hrun, hend, Or.inr ⟨T.heap.size, rfl, cls, ce, locs, hx U hWs.alike f1 (fun q hq => f2 q hq (fun z hz => nomatch hz)), hce, hO.vm, hcl, hWs, hall, hf⟩⟩
  refine st1 _ ?_
  show Steps p.tables e below (T1.setTop { method := m, pc := pc + 3, locals := ls, stack := .ref T.heap.size :: rest, locked := none }) _
  jvm_step X₁.here [X₁.here.top, hexec, d3', Value.category]
  exact X₁.ldcString hexec (own := own) (text := text) (index := is) (a := sa) hown' hstr'.1 hstr'.2
    (g := { method := m, pc := pc + 4, locals := ls, stack := .ref T.heap.size :: .ref T.heap.size :: rest, locked := none }) rfl d4' _ hsteps
/-- 'throw new E("text")', the text by a wide index -/
theorem vx_throwSW {cc : ByteArray} {pc : Nat} (hexec : p.tables.exec = Jvm.exec) (hb : c.code = cc) (hl : l.stackTraces = false) {own cls text : String} {names : List String} {ik is ic mc ms sa : Nat} {A : Nat → Prop}
    (hown : s.vm.findClass own = some m.cls) (hcls : Bundle.fit cls = true) (hnames : ∀ n ∈ names, Bundle.fit n = true)
    (hk : (Cond.classLink own ik cls).before args s = true) (hini : (Cond.initialized cls).before args s = true) (hstr : vk_R own is text sa s) (hat : ∀ w ∈ vx_atS own ic cls names, w.before args s = true)
    (hgood : ∀ w ∈ Cond.classLink own ik cls :: Cond.initialized cls :: vx_atS own ic cls names, vx_ot w = true)
    (hU : vx_Zq Bundle.tN "UNASSIGNED_STACK" Bundle.steD A s s.heap) (hN : vx_Zq Bundle.tN "SUPPRESSED_SENTINEL" Bundle.listD A s s.heap) (hS : va_S A s.heap H locs) (hsize : ls.size = c.maxLocals)
    (d0 : decode cc pc = .ok (.new ik, 3)) (d3 : decode cc (pc + 3) = .ok (.dup, 1)) (d4 : decode cc (pc + 4) = .ok (.ldc_w is, 3)) (d7 : decode cc (pc + 7) = .ok (.invokespecial ic, 3)) (d10 : decode cc (pc + 10) = .ok (.athrow, 1))
    (hout : ∀ x ∈ c.exceptionTable.toList, covers x (pc + 10) = false)
    (hRframes : names.length + 3 < R.frames) (hRlocals : (rest.map fun v => v.category).sum + (13 * (names.length + 1) + 43) ≤ R.locals) (hRcells : cells + 1 ≤ R.cells) (hRslots : slots + 6 ≤ R.slots) (hlocks : meth.locks = false)
    (hx : ∀ t : State, s.vm.Alike t.vm → H.size ≤ t.heap.size → (∀ q : Nat, q < H.size → t.heap[q]? = H[q]?) → XC cls s t)
    (hf : ∀ z ∈ locs, free z.base) (hc : cells + 1 ≤ mc) (hs : slots + 6 ≤ ms) :
    W p l e R s m args below meth c H locs cells slots (vx_MQ below Qc XC args s mc ms free) (F0 m pc ls rest) := by
  intro T hT X
  have htr : e.platform.stackTraces = false := (show e.platform.stackTraces = l.stackTraces by rw [X.admits.platform]).trans hl
  have Y := vx_rebase X (R' := { frames := R.frames, locals := R.locals, cells := 1, slots := 6 }) (Nat.le_refl _) (Nat.le_refl _) hRcells hRslots
  obtain ⟨s', hA⟩ : ∃ z, z = (T.setVm s.vm).setFrames (.invoking m args :: below) := ⟨_, rfl⟩
  rw [← hA] at Y
  have hvm : s'.vm = s.vm := by rw [hA]; rfl
  have hhp : s'.heap = H := by rw [hA]; exact hT
  have hW0 : s.WarmedH s'.vm := by rw [hvm]; exact State.WarmedH.refl s
  have hat' : ∀ w ∈ vx_atS own ic cls names, w.before args s' = true := fun w hw => vx_ot_at hW0 hvm.symm (hgood w (List.mem_cons_of_mem _ (List.mem_cons_of_mem _ hw))) (hat w hw)
  have hk' : (Cond.classLink own ik cls).before args s' = true := vx_ot_at hW0 hvm.symm (hgood _ List.mem_cons_self) hk
  have hini' : (Cond.initialized cls).before args s' = true := vx_ot_at hW0 hvm.symm (hgood _ (List.mem_cons_of_mem _ List.mem_cons_self)) hini
  have hU' : vx_Zq Bundle.tN "UNASSIGNED_STACK" Bundle.steD A s' s'.heap := by rw [hhp]; exact vx_Zq.moved hW0.alike (hU.kept hS.2.1)
  have hN' : vx_Zq Bundle.tN "SUPPRESSED_SENTINEL" Bundle.listD A s' s'.heap := by rw [hhp]; exact vx_Zq.moved hW0.alike (hN.kept hS.2.1)
  have h : ∀ w ∈ Bundle.ownAtoms own ic cls names, w.before args s' = true := vx_own hat' (vx_isRefq hU'.1) (vx_isRefq hN'.1) hU'.2.word hN'.2.word
  have hown' : s'.vm.findClass own = some m.cls := by rw [hvm]; exact hown
  have hins : (Cond.instantiable cls 6).before args s' = true := h _ (by simp [Bundle.ownAtoms])
  obtain ⟨vm₁, cX, kX, hfX, hkX, -, -, X₁, st1⟩ := Y.newCold hexec (own := own) (C := cls) (index := ik) (n := 6) hown' hk' hins hini'
    (g := F0 m pc ls rest) rfl (by rw [hb]; exact d0) (Nat.le_refl _) (Nat.le_refl _)
  generalize hT1 : (T.setVm vm₁).pushCell { cls := cX, slots := kX.instanceTypes.map defaultValue, vm := .none } = T1 at X₁ st1
  have hcat : (Value.ref T.heap.size).category = 1 := rfl
  have hcellA : T1.heap[T.heap.size]? = some (freshCell cX kX) := by rw [← hT1]; exact State.heap_pushCell_size _ _
  have d3' : decode c.code (pc + 3) = .ok (.dup, 1) := by rw [hb]; exact d3
  have d4' : decode c.code (pc + 4) = .ok (.ldc_w is, 3) := by rw [hb]; exact d4
  have hstr' : vk_R own is text sa s' := vk_R.warm hW0 hstr
  obtain ⟨U, hsteps, hrun, hend, hW, hsame, ce, hce, hO⟩ := X₁.ctorThrowS hexec htr (own := own) (cls := cls) (names := names) (ic := ic) hown' hcls hnames h (fun x hx => nomatch hx) hfX hkX hcellA (by rw [hhp, hT]; exact Nat.le_refl _) (msg := .ref sa) rfl
    (g := { method := m, pc := pc + 7, locals := ls, stack := .ref sa :: .ref T.heap.size :: .ref T.heap.size :: rest, locked := none }) rfl hsize rfl rfl (rest := rest) rfl
    (by rw [hb]; exact d7) (by rw [hb]; exact d10) hout hRframes (by simp only [List.map_cons, List.sum_cons, hcat]; omega) hlocks
  obtain ⟨f1, f2⟩ := vx_frame hsame
  rw [hhp] at f1 f2
  have hWs : s.WarmedH U.vm := State.WarmedH.trans hW0 hW
  have hcl : s.vm.findClass cls = some ce.cls := by
    have h9 := hO.cls
    rw [hvm] at h9
    exact h9
  have hall : s.sameButNew ({ U with vm := s.vm } : State) locs mc ms := by
    subst hA
    obtain ⟨e1, e2⟩ := hsame
    rw [State.setFrames_setFrames] at e1
    have h2 : (T.setVm s.vm).sameButNew ({ U with vm := s.vm } : State) [] (0 + 1) (0 + 6) := ⟨e1, e2⟩
    have h3 := X.same.trans h2
    rw [List.append_nil] at h3
    exact h3.mono hc hs
  refine ⟨U, ?_, .threw T.heap.size, hrun, hend, Or.inr ⟨T.heap.size, rfl, cls, ce, locs, hx U hWs.alike f1 (fun q hq => f2 q hq (fun z hz => nomatch hz)), hce, hO.vm, hcl, hWs, hall, hf⟩⟩
  refine st1 _ ?_
  show Steps p.tables e below (T1.setTop { method := m, pc := pc + 3, locals := ls, stack := .ref T.heap.size :: rest, locked := none }) _
  jvm_step X₁.here [X₁.here.top, hexec, d3', Value.category]
  exact X₁.ldcStringW hexec (own := own) (text := text) (index := is) (a := sa) hown' hstr'.1 hstr'.2
    (g := { method := m, pc := pc + 4, locals := ls, stack := .ref T.heap.size :: .ref T.heap.size :: rest, locked := none }) rfl d4' _ hsteps
end Ends
section Bodies
variable {l : Launch}
theorem vx_ofW {y : MethodName} {ws ws' : List Cond} {rm : Room} {Pc : Array Value → State → Prop} {Qc : Array Value → State → Outcome → State → Prop} {XC : String → State → State → Prop} {mc ms : Nat} {free : Addr → Prop} {cc : ByteArray} {maxL : Nat} {ret : Option FieldType}
    (hy : plainName y.cls = true) (hw : ws = Cond.code y cc maxL ret :: ws')
    (body : ∀ p e s m args below meth c s₁, BodyLoose p l y (headSpec ws rm) cc maxL ret e s m args below meth c s₁ → c.maxLocals = maxL → (∀ x ∈ c.exceptionTable.toList, False) → Pc args s →
      W p l e (headSpec ws rm).room s m args below meth c s.heap [] 0 0 (vx_MQ below Qc XC args s mc ms free) (entryFrame m args maxL)) : vx_Met l y ws rm Pc Qc XC mc ms free := by
  refine MetFree.of_bodyS (code := cc) (maxLocals := maxL) (ret := ret) hy ?_ ?_
  · intro args s m h hn
    obtain ⟨meth, c, h1, h2, h3, h4, h5, h6, -, -⟩ := Cond.code_spec hn (atoms_spec (ws := ws) h _ (by rw [hw]; exact List.mem_cons_self))
    exact ⟨meth, c, h1, h2, h3, h4, h5, h6⟩
  · intro p e s m args below meth c s₁ B hml hP _
    have hh0 : s₁.heap = s.heap := by rw [B.state]; rfl
    have ht : ∀ x ∈ c.exceptionTable.toList, False := by
      obtain ⟨meth9, c9, h1, h2, -, -, -, -, h7, -⟩ := Cond.code_spec B.named (atoms_spec (ws := ws) B.pre _ (by rw [hw]; exact List.mem_cons_self))
      cases Option.some.inj (h1.symm.trans B.method)
      cases Option.some.inj (h2.symm.trans (Stand.of_body B).code)
      intro x hx
      rw [Array.isEmpty_iff.mp h7] at hx
      cases hx
    obtain ⟨t, a1, o, b1, b2, b3⟩ := body p e s m args below meth c s₁ B hml ht hP s₁ hh0 (Stand.of_body B)
    exact ⟨t, o, a1, b1, b2, b3⟩
/-- the table of a body with handlers -/
theorem vx_table {p : Program} {x y : MethodName} {S : Spec} {cc bytes : ByteArray} {maxL maxL' : Nat} {ret ret' : Option FieldType} {e : Env} {s s₁ : State} {m : MethodId} {args : Array Value} {below : List Frame} {meth : Method} {c : Code} {hh : List (Nat × Nat × Nat × Nat)}
    (B : BodyLoose p l y S cc maxL ret e s m args below meth c s₁) (h : (Cond.codeWith y bytes maxL' ret' hh).before args s = true) : c.exceptionTable.toList = tableOf hh := by
  obtain ⟨m9, meth9, c9, hn9, h1, h2, -, -, h6, -⟩ := Cond.codeWith_spec h
  cases Option.some.inj (hn9.symm.trans B.named)
  cases Option.some.inj (h1.symm.trans B.method)
  cases Option.some.inj (h2.symm.trans (Stand.of_body B).code)
  rw [← h6, table_eq]
end Bodies
end VXA
/-! ===== END ===== -/
/-! ===== BEGIN a static call of a method with an exception table ===== -/
section VXS
variable {p : Program} {l : Launch} {e : Env} {R : Room} {s : State} {m : MethodId} {args : Array Value} {below : List Frame} {meth : Method} {c : Code} {T : State} {H : Heap} {locs : List Loc} {cells slots : Nat}
abbrev vx_CSW (R : Room) (s : State) (args : Array Value) (own : String) (index : Nat) (y : MethodName) (bytes : ByteArray) (maxL : Nat) (ret : Option FieldType) (hh : List (Nat × Nat × Nat × Nat)) (ws : List Cond) (rm : Room) (mc ms n : Nat) : Prop :=
  (rm.cells = mc ∧ rm.slots = ms ∧ rm.frames + 1 ≤ R.frames ∧ 8 + (maxL + 11) + rm.locals ≤ R.locals ∧ (∀ w ∈ ws, ∀ (a' : Array Value) (U : State), s.WarmedH U.vm → w.before a' U = true) ∧ Cond.codeWith y bytes maxL ret hh ∈ ws) ∧
  (Cond.codeWith y bytes maxL ret hh).before args s = true ∧ (Cond.initialized y.cls).before args s = true ∧ (y.cls ≠ "java/lang/invoke/MethodHandle" ∧ y.cls ≠ "java/lang/invoke/VarHandle") ∧
  (∀ sig, parseMethodDescriptor y.desc = some sig → n = sig.parameters.length) ∧ (Cond.methodLink own index y).before args s = true ∧ (Cond.static y).before args s = true
theorem vx_cwSW {own : String} {index maxL mc ms : Nat} {y : MethodName} {bytes : ByteArray} {ret : Option FieldType} {hh : List (Nat × Nat × Nat × Nat)} {Ts ws ws' : List Cond} {rm : Room} (n : Nat) (ht : ∀ w ∈ Ts, w.before args s = true) (hT : GoodIn Ts (va_wsS own index y ws)) (hw : ws = Cond.codeWith y bytes maxL ret hh :: ws') (hrc : rm.cells = mc) (hrs : rm.slots = ms)
    (hd : y.cls ≠ "java/lang/invoke/MethodHandle" ∧ y.cls ≠ "java/lang/invoke/VarHandle" ∧ (parseMethodDescriptor y.desc).map (fun d => d.parameters.length) = some n) (hR : rm.frames + 1 ≤ R.frames ∧ 8 + (maxL + 11) + rm.locals ≤ R.locals) :
    vx_CSW R s args own index y bytes maxL ret hh ws rm mc ms n := by
  have ok : ∀ w ∈ va_wsS own index y ws, w.before args s = true := fun w h => ht w (hT w h).1
  have hG : GoodIn Ts ws := fun w h => hT w (by unfold va_wsS; exact List.mem_append_right _ h)
  have hc : Cond.codeWith y bytes maxL ret hh ∈ ws := by rw [hw]; exact List.mem_cons_self
  refine ⟨⟨hrc, hrs, hR.1, hR.2, pay_in ht hG, hc⟩, ht _ (hG _ hc).1, ok _ (by simp [va_wsS]), ⟨hd.1, hd.2.1⟩, fun sig h => ?_, ok _ (by simp [va_wsS]), ok _ (by simp [va_wsS])⟩
  have h2 := hd.2.2
  rw [h] at h2
  exact (Option.some.inj h2).symm
theorem vx_callSW (X : Stand p l e R s m args below meth c T locs cells slots) (hexec : p.tables.exec = Jvm.exec) {own : String} {index : Nat} {y : MethodName} {bytes : ByteArray} {maxL : Nat} {ret : Option FieldType} {hh : List (Nat × Nat × Nat × Nat)}
    (hown : s.vm.findClass own = some m.cls) (hlink : (Cond.methodLink own index y).before args s = true) (hstat : (Cond.static y).before args s = true) (hinit : (Cond.initialized y.cls).before args s = true)
    (hcode : (Cond.codeWith y bytes maxL ret hh).before args s = true) (hy : y.cls ≠ "java/lang/invoke/MethodHandle" ∧ y.cls ≠ "java/lang/invoke/VarHandle")
    {W9 : Nat} {Pre : Pt → Array Value → Prop} {Post : Pt → Array Value → Option Value → Pt → Prop} (hK : Back l R p e below s args y 3 W9 Pre Post)
    {g : JFrame} (hg : g.method = m) (hsize : g.locals.size = c.maxLocals) {argsL rest : List Value} (hlen : ∀ sig, parseMethodDescriptor y.desc = some sig → argsL.length = sig.parameters.length)
    (hstack : g.stack = argsL.reverse ++ rest) (hW : 2 * g.monitorRoom + (rest.map fun v => v.category).sum ≤ W9) (hdg : decode c.code g.pc = .ok (.invokestatic index, 3))
    (hpre : ∀ vm₁, s.WarmedH vm₁ → Pre ⟨T.setVm vm₁, locs, cells, slots⟩ argsL.toArray) :
    ∃ (v : Option Value) (vm₁ : Vm) (B : Pt), s.WarmedH vm₁ ∧ Stand p l e R s m args below meth c B.U B.locs B.cells B.slots ∧ Post ⟨T.setVm vm₁, locs, cells, slots⟩ argsL.toArray v B ∧
      ∀ target, Steps p.tables e below (B.U.setTop { g with pc := g.pc + 3, stack := v.toList ++ rest }) target → Steps p.tables e below (T.setTop g) target := by
  obtain ⟨mk, methM, cM, hnamed, hmethM, -, -, -, -, -, -, hsigM⟩ := Cond.codeWith_spec hcode
  have hstatic : methM.isStatic = true := Cond.static_spec hnamed hmethM hstat
  obtain ⟨kP, hkP, -⟩ := className_of_methodNamed hnamed
  have hinitP : kP.init = .initialized := Cond.initialized_spec (findClass_of_methodNamed hnamed) hkP hinit
  obtain ⟨vm₁, X₁, hstep₁⟩ := X.invokestatic hexec hown hlink hnamed hmethM hstatic hkP hinitP hy (g := g) hg (argsL := argsL) (rest := rest) (hlen _ hsigM) hstack hdg
  obtain ⟨v, B, X', hpost, hsteps⟩ := hK m meth c ⟨T.setVm vm₁, locs, cells, slots⟩ { g with stack := rest } (.invokestatic index) mk argsL.toArray X₁ hg hsize hdg hW (X₁.named hnamed) (hpre vm₁ X₁.warmed)
  exact ⟨v, vm₁, B, X₁.warmed, X', hpost, fun target h => hstep₁ _ fun acts => by rw [doInvoke_state]; exact hsteps.trans h⟩
theorem vx_runSW {y : MethodName} {bytes cc : ByteArray} {maxL nL mc ms n index : Nat} {ret : Option FieldType} {hh : List (Nat × Nat × Nat × Nat)} {ws : List Cond} {rm : Room} {Pc : Array Value → State → Prop} {Qc : Array Value → State → Outcome → State → Prop} {free : Addr → Prop} {Ts : List Cond} {own : String} {As rest : List Value} {g : JFrame}
    (S : CallFix p m c cc nL s args Ts own) (hM : Met l y ws rm Pc Qc mc ms free) (cw : vx_CSW R s args own index y bytes maxL ret hh ws rm mc ms n) (hp : PreS s H Pc As)
    (hg : g.method = m) (hn : As.length = n) (hsize : g.locals.size = nL) (hstack : g.stack = As.reverse ++ rest) (hW : 2 * g.monitorRoom + (rest.map fun v => v.category).sum ≤ 8) (hdg : decode cc g.pc = .ok (.invokestatic index, 3)) (hf : cells + mc ≤ R.cells ∧ slots + ms ≤ R.slots) :
    va_Run p l e R s m args below meth c H locs cells slots mc ms g rest (Qc As.toArray) (free) := by
  obtain ⟨⟨hrc, hrs, hfr, hlo, hws, hcw⟩, hcode, hini, hy, hlen, hl, hstt⟩ := cw
  have hK : Back l R p e below s args y 3 8 (PreOf R mc ms Pc) (PostOf Qc mc ms free) := va_backW (hh := hh) (bytes := bytes) (maxL := maxL) (ret := ret) hM hp.1 hrc hrs hfr hlo hws hcw (fun a' U hW => word_at hW (Or.inl (by first | rfl | simp [Cond.onTables, Cond.keeps, Cond.steady])) hini)
  obtain ⟨hx, hb, hml, ho, -⟩ := S
  intro T hT X
  obtain ⟨v, vm₁, ⟨U', l2, c2, s2⟩, hW₁, X', ⟨g', mk, t, L, e1, e2, hq, h1, hL, h2, h3⟩, st⟩ := vx_callSW X hx (hh := hh) (bytes := bytes) (maxL := maxL) (ret := ret) ho hl hstt hini hcode hy hK hg (hsize.trans hml.symm) (argsL := As) (rest := rest) (fun sig h => hn.trans (hlen sig h)) hstack hW (by rw [hb]; exact hdg)
    (fun vm₁ hW₁ => ⟨hf.1, hf.2, hp.2 (T.setVm vm₁) hT hW₁⟩)
  dsimp only [Pt.U, Pt.locs, Pt.cells, Pt.slots] at X' e1 e2 h1 h2 h3 st
  subst h1; subst h2; subst h3
  exact ⟨v, (T.setVm vm₁).calling g' mk As.toArray, t, U', L, hT, X', hL, e1, e2, hq, st⟩
/-- a thing of a world lies in the heap -/
theorem vx_lt {D : va_G} {cl : List vw_C} {ws : va_W} {H1 : Heap} (h : va_P D cl ws H1) {k : Nat} {q : Nat × va_E} (hk : ws[k]? = some q) : q.1 < H1.size := (h k q hk).lt
end VXS
/-! ===== END ===== -/
/-! ===== BEGIN methods with a table of their own: called by a name, returning or throwing ===== -/
section VXH
/-! vx_backW, vx_callVX, vx_callSX, vx_callVW, vx_runVW, vx_runVX, vx_runSX, vx_ofWH follow the same proofs as their sisters above (Free/Laws.lean, Shelf42/LK1.lean); vx_outP calls Shelf42/NT130.lean (outThrough). -/
section
variable {l : Launch} {R : Room} {p : Program} {e : Env} {below : List Frame} {s : State} {sargs : Array Value} {y : MethodName} {len W9 : Nat}
theorem vx_backW {ws : List Cond} {rm : Room} {Pc : Array Value → State → Prop} {Qc : Array Value → State → Outcome → State → Prop} {XC : String → State → State → Prop} {mc ms : Nat} {free : Addr → Prop} {bytes : ByteArray} {maxL : Nat} {ret : Option FieldType} {hh : List (Nat × Nat × Nat × Nat)}
    (hM : vx_Met l y ws rm Pc Qc XC mc ms free) (hblind : FrameBlind Pc) (hrc : rm.cells = mc) (hrs : rm.slots = ms)
    (hframes : rm.frames + 1 ≤ R.frames) (hlocals : W9 + (maxL + 11) + rm.locals ≤ R.locals)
    (hws : ∀ w ∈ ws, ∀ a' U, s.WarmedH U.vm → w.before a' U = true) (hcode : Cond.codeWith y bytes maxL ret hh ∈ ws) (hinit : ∀ a' U, s.WarmedH U.vm → (Cond.initialized y.cls).before a' U = true) :
    vx_Back l R p e below s sargs y len W9 (PreOf R mc ms Pc) (PostOf Qc mc ms free) (vx_Post XC mc ms free) := by
  intro m meth c A g ig mk a X hg hsize hdg hW hn hp
  have h1 : (headSpec ws rm).pre.before a A.U = true := atoms_intro fun w hw => hws w hw _ _ X.warmed
  have h2 : (Cond.codeWith y bytes maxL ret hh).before a A.U = true := hws _ hcode _ _ X.warmed
  have h3 : (Cond.initialized y.cls).before a A.U = true := hinit _ _ X.warmed
  have h4 : A.cells + (headSpec ws rm).room.cells ≤ R.cells := by rw [show (headSpec ws rm).room.cells = mc from hrc]; exact hp.1
  have h5 : A.slots + (headSpec ws rm).room.slots ≤ R.slots := by rw [show (headSpec ws rm).room.slots = ms from hrs]; exact hp.2.1
  have hPc : Pc a (A.U.calling g mk a) := hblind _ _ _ _ hp.2.2
  obtain ⟨U, Ls, c0, s0⟩ := A
  dsimp only [Pt.U, Pt.locs, Pt.cells, Pt.slots] at h1 h2 h3 h4 h5 X hn hPc ⊢
  obtain ⟨m9, methY, cY, hn9, hmY, hcY, -, hlY, -⟩ := Cond.codeWith_spec h2
  cases Option.some.inj (hn9.symm.trans hn)
  obtain ⟨kY, hkY, -⟩ := className_of_methodNamed hn
  have hinitY : kY.init = .initialized := Cond.initialized_spec (findClass_of_methodNamed hn) hkY h3
  have h : At U g.method c below := by rw [hg]; exact X.here
  have hlocals9 : W9 + (maxL + 11) + (headSpec ws rm).room.locals ≤ R.locals := hlocals
  have happ : (headSpec ws rm).appliesLoose y e.platform (U.calling g mk a) = true :=
    Spec.appliesLoose_calling (g := g) h hdg hn hkY hinitY
      (X.room_calling (g := g) (R' := (headSpec ws rm).room) hsize hmY hcY hframes (by rw [hlY]; omega) h4 h5) h1
  obtain ⟨mid, hmid⟩ := h.above
  have hfr : (U.setTop g).frames = (.java g :: mid) ++ below := by rw [State.frames_setTop' g h.top, hmid]; rfl
  obtain ⟨o, s₂, hsteps, -, hend, hq⟩ := Steps.callFree hM p X.admits X.cas X.clock (acts := []) hfr happ hPc trivial
  have hq' : vx_Q Qc XC mc ms free a (U.calling g mk a) o s₂ := hq
  rw [State.frames_setTop' g h.top] at hend
  obtain ⟨g₀, hg0⟩ := Option.isSome_iff_exists.mp h.top
  obtain ⟨r, hr⟩ := State.topJava?_eq_some.mp hg0
  have hr' : (({ U with heap := s₂.heap, slotsUsed := s₂.slotsUsed } : State).setVm s₂.vm).frames = .java g₀ :: r := hr
  rcases hq' with ⟨hqc, L, hfe, hL⟩ | ⟨q, rfl, E, ce, L, hx, hce, hcv, hcl, hW₂, hsm, hL⟩
  · obtain ⟨⟨v, rfl⟩, hW₂, e2, q2, q3, q4, q5, q6⟩ := id hfe
    have e3 : s₂ = ({ (U.calling g mk a).setFrames s₂.frames with heap := s₂.heap, slotsUsed := s₂.slotsUsed } : State).setVm s₂.vm := by
      have : s₂ = ({ s₂ with vm := (U.calling g mk a).vm } : State).setVm s₂.vm := rfl
      rw [e2] at this
      exact this
    obtain ⟨c₂, i₂, len₂, hc₂, hd₂, hf₂⟩ := hend
    have hW' : U.WarmedH s₂.vm := hW₂
    have hcc : c₂ = c := by
      have h1 : s₂.code? g.method = U.code? g.method := by
        rw [State.code?_eq, State.code?_eq, hW'.alike.method?]
      exact Option.some.inj (hc₂.symm.trans (h1.trans h.code))
    subst hcc
    have hlen : len₂ = len := by rw [hdg] at hd₂; cases hd₂; rfl
    subst hlen
    have hs₂ : s₂ = (({ U with heap := s₂.heap, slotsUsed := s₂.slotsUsed } : State).setVm s₂.vm).setTop { g with pc := g.pc + len₂, stack := v.toList ++ g.stack } := by
      refine e3.trans ?_
      rw [hf₂, State.calling_eq h.top, State.setFrames_setFrames, State.setTop_of_frames _ hr', hr]
      rfl
    have hsame : U.sameButNew ({ U with heap := s₂.heap, slotsUsed := s₂.slotsUsed } : State) L mc ms := by
      refine ⟨?_, q2, q3, q4, q5, q6⟩
      obtain ⟨t, ht, -⟩ := State.frames_cons hr
      show ({ U with heap := s₂.heap, slotsUsed := s₂.slotsUsed } : State) = { U.setFrames U.frames with heap := s₂.heap, slotsUsed := s₂.slotsUsed }
      rw [State.setFrames_self ht]
    subst hg
    refine Or.inl ⟨v, ⟨(({ U with heap := s₂.heap, slotsUsed := s₂.slotsUsed } : State).setVm s₂.vm), Ls ++ L, c0 + mc, s0 + ms⟩,
      ⟨X.admits, X.cas, X.clock, X.frames, X.room, X.hears, X.method, X.code, (X.here.setHeapUsed s₂.heap s₂.slotsUsed).setVm hW'.alike, X.tail, State.WarmedH.trans X.warmed hW', X.limits, X.bytes, X.same.trans (hsame.setVm s.vm)⟩,
      ⟨g, mk, s₂, L, rfl, rfl, hqc, rfl, hL, rfl, rfl⟩, ?_⟩
    show Steps p.tables e below _ ((({ U with heap := s₂.heap, slotsUsed := s₂.slotsUsed } : State).setVm s₂.vm).setTop { g with pc := g.pc + len₂, stack := v.toList ++ g.stack })
    rw [← hs₂]
    exact hsteps
  · obtain ⟨e2, q2, q3, q4, q5, q6⟩ := id hsm
    have e3 : s₂ = ({ (U.calling g mk a).setFrames s₂.frames with heap := s₂.heap, slotsUsed := s₂.slotsUsed } : State).setVm s₂.vm := by
      have : s₂ = ({ s₂ with vm := (U.calling g mk a).vm } : State).setVm s₂.vm := rfl
      rw [e2] at this
      exact this
    have hf₂ : s₂.frames = .throwing q :: .java g :: U.frames.tail := hend
    have hW' : U.WarmedH s₂.vm := hW₂
    have hs₂ : s₂ = ((({ U with heap := s₂.heap, slotsUsed := s₂.slotsUsed } : State).setVm s₂.vm).setTop g).pushFrame (.throwing q) := by
      refine e3.trans ?_
      rw [hf₂, State.calling_eq h.top, State.setFrames_setFrames, State.pushFrame, State.frames_setTop _ hr', State.setTop_of_frames _ hr', State.setFrames_setFrames, hr]
      rfl
    have hsame : U.sameButNew ({ U with heap := s₂.heap, slotsUsed := s₂.slotsUsed } : State) L mc ms := by
      refine ⟨?_, q2, q3, q4, q5, q6⟩
      obtain ⟨t, ht, -⟩ := State.frames_cons hr
      show ({ U with heap := s₂.heap, slotsUsed := s₂.slotsUsed } : State) = { U.setFrames U.frames with heap := s₂.heap, slotsUsed := s₂.slotsUsed }
      rw [State.setFrames_self ht]
    subst hg
    refine Or.inr ⟨q, ⟨(({ U with heap := s₂.heap, slotsUsed := s₂.slotsUsed } : State).setVm s₂.vm), Ls ++ L, c0 + mc, s0 + ms⟩,
      ⟨X.admits, X.cas, X.clock, X.frames, X.room, X.hears, X.method, X.code, (X.here.setHeapUsed s₂.heap s₂.slotsUsed).setVm hW'.alike, X.tail, State.WarmedH.trans X.warmed hW', X.limits, X.bytes, X.same.trans (hsame.setVm s.vm)⟩,
      ⟨g, mk, s₂, L, E, ce, rfl, rfl, hx, hce, hcv, hcl, rfl, hL, rfl, rfl⟩, ?_⟩
    show Steps p.tables e below _ (((({ U with heap := s₂.heap, slotsUsed := s₂.slotsUsed } : State).setVm s₂.vm).setTop g).pushFrame (.throwing q))
    rw [← hs₂]
    exact hsteps
end
variable {p : Program} {l : Launch} {e : Env} {R : Room} {s : State} {m : MethodId} {args : Array Value} {below : List Frame} {meth : Method} {c : Code} {T : State} {H : Heap} {locs : List Loc} {cells slots : Nat}
theorem vx_callVX (X : Stand p l e R s m args below meth c T locs cells slots) (hexec : p.tables.exec = Jvm.exec) {own C : String} {index : Nat} {y : MethodName} {bytes : ByteArray} {maxL : Nat} {ret : Option FieldType} {hh : List (Nat × Nat × Nat × Nat)}
    (hown : s.vm.findClass own = some m.cls) (hlink : (Cond.methodLink own index y).before args s = true) (hinst : (Cond.instanceMethod y).before args s = true) (hsel : (Cond.selects C y y).before args s = true)
    (hcode : (Cond.codeWith y bytes maxL ret hh).before args s = true) (hy : y.cls ≠ "java/lang/invoke/MethodHandle" ∧ y.cls ≠ "java/lang/invoke/VarHandle")
    {W9 : Nat} {Pre : Pt → Array Value → Prop} {Post : Pt → Array Value → Option Value → Pt → Prop} {PostX : Pt → Array Value → Addr → Pt → Prop} (hK : vx_Back l R p e below s args y 3 W9 Pre Post PostX)
    {b : Addr} {cellB : Cell} (hcell : T.heap[b]? = some cellB) (hobj : cellB.vm.isStatics = false) (hcls : s.vm.findClass C = some cellB.cls)
    {g : JFrame} (hg : g.method = m) (hsize : g.locals.size = c.maxLocals) {argsL rest : List Value} (hlen : ∀ sig, parseMethodDescriptor y.desc = some sig → argsL.length = sig.parameters.length)
    (hstack : g.stack = argsL.reverse ++ .ref b :: rest) (hW : 2 * g.monitorRoom + (rest.map fun v => v.category).sum ≤ W9) (hdg : decode c.code g.pc = .ok (.invokevirtual index, 3))
    (hpre : ∀ vm₁, s.WarmedH vm₁ → Pre ⟨T.setVm vm₁, locs, cells, slots⟩ (Value.ref b :: argsL).toArray) :
    (∃ (v : Option Value) (vm₁ : Vm) (B : Pt), s.WarmedH vm₁ ∧ Stand p l e R s m args below meth c B.U B.locs B.cells B.slots ∧ Post ⟨T.setVm vm₁, locs, cells, slots⟩ (Value.ref b :: argsL).toArray v B ∧
      ∀ target, Steps p.tables e below (B.U.setTop { g with pc := g.pc + 3, stack := v.toList ++ rest }) target → Steps p.tables e below (T.setTop g) target) ∨
    (∃ (q : Addr) (vm₁ : Vm) (B : Pt), s.WarmedH vm₁ ∧ Stand p l e R s m args below meth c B.U B.locs B.cells B.slots ∧ PostX ⟨T.setVm vm₁, locs, cells, slots⟩ (Value.ref b :: argsL).toArray q B ∧
      Steps p.tables e below (T.setTop g) ((B.U.setTop { g with stack := rest }).pushFrame (.throwing q))) := by
  obtain ⟨mk, methM, hnamed, hmethM, hstM, habM⟩ := Cond.instanceMethod_spec hinst
  obtain ⟨m8, methM', cM, hn8, hmethM', -, -, -, -, -, -, hsigM⟩ := Cond.codeWith_spec hcode
  cases Option.some.inj (hn8.symm.trans hnamed)
  cases hmethM.symm.trans hmethM'
  obtain ⟨c2, r2, m2, q1, q2, q3, q4, kP, hkP, hkPi⟩ := Cond.selects_spec hsel
  cases hcls.symm.trans q1
  cases (State.methodFound?_of_named hnamed hy).symm.trans q2
  cases hnamed.symm.trans q3
  have hselP : selectMethod e.platform s.vm cellB.cls mk = .method mk := by rw [Launch.admits_selectMethod X.admits]; exact q4
  obtain ⟨vm₁, X₁, hstep₁⟩ := X.invokevirtual hexec hown hlink hnamed hmethM hstM hkP hkPi hy (a := b) (cell := cellB) hcell
    (fun z h => by rw [h] at hobj; cases hobj) hselP hmethM habM hkP hkPi (g := g) hg (argsL := argsL) (rest := rest) (hlen _ hsigM) hstack hdg
  rcases hK m meth c ⟨T.setVm vm₁, locs, cells, slots⟩ { g with stack := rest } (.invokevirtual index) mk (Value.ref b :: argsL).toArray X₁ hg hsize hdg hW (X₁.named hnamed) (hpre vm₁ X₁.warmed) with ⟨v, B, X', hpost, hsteps⟩ | ⟨q, B, X', hpost, hsteps⟩
  · exact Or.inl ⟨v, vm₁, B, X₁.warmed, X', hpost, fun target h => hstep₁ _ fun acts => by rw [doInvoke_state]; exact hsteps.trans h⟩
  · exact Or.inr ⟨q, vm₁, B, X₁.warmed, X', hpost, hstep₁ _ fun acts => by rw [doInvoke_state]; exact hsteps⟩
theorem vx_callSX (X : Stand p l e R s m args below meth c T locs cells slots) (hexec : p.tables.exec = Jvm.exec) {own : String} {index : Nat} {y : MethodName} {bytes : ByteArray} {maxL : Nat} {ret : Option FieldType} {hh : List (Nat × Nat × Nat × Nat)}
    (hown : s.vm.findClass own = some m.cls) (hlink : (Cond.methodLink own index y).before args s = true) (hstat : (Cond.static y).before args s = true) (hinit : (Cond.initialized y.cls).before args s = true)
    (hcode : (Cond.codeWith y bytes maxL ret hh).before args s = true) (hy : y.cls ≠ "java/lang/invoke/MethodHandle" ∧ y.cls ≠ "java/lang/invoke/VarHandle")
    {W9 : Nat} {Pre : Pt → Array Value → Prop} {Post : Pt → Array Value → Option Value → Pt → Prop} {PostX : Pt → Array Value → Addr → Pt → Prop} (hK : vx_Back l R p e below s args y 3 W9 Pre Post PostX)
    {g : JFrame} (hg : g.method = m) (hsize : g.locals.size = c.maxLocals) {argsL rest : List Value} (hlen : ∀ sig, parseMethodDescriptor y.desc = some sig → argsL.length = sig.parameters.length)
    (hstack : g.stack = argsL.reverse ++ rest) (hW : 2 * g.monitorRoom + (rest.map fun v => v.category).sum ≤ W9) (hdg : decode c.code g.pc = .ok (.invokestatic index, 3))
    (hpre : ∀ vm₁, s.WarmedH vm₁ → Pre ⟨T.setVm vm₁, locs, cells, slots⟩ argsL.toArray) :
    (∃ (v : Option Value) (vm₁ : Vm) (B : Pt), s.WarmedH vm₁ ∧ Stand p l e R s m args below meth c B.U B.locs B.cells B.slots ∧ Post ⟨T.setVm vm₁, locs, cells, slots⟩ argsL.toArray v B ∧
      ∀ target, Steps p.tables e below (B.U.setTop { g with pc := g.pc + 3, stack := v.toList ++ rest }) target → Steps p.tables e below (T.setTop g) target) ∨
    (∃ (q : Addr) (vm₁ : Vm) (B : Pt), s.WarmedH vm₁ ∧ Stand p l e R s m args below meth c B.U B.locs B.cells B.slots ∧ PostX ⟨T.setVm vm₁, locs, cells, slots⟩ argsL.toArray q B ∧
      Steps p.tables e below (T.setTop g) ((B.U.setTop { g with stack := rest }).pushFrame (.throwing q))) := by
  obtain ⟨mk, methM, cM, hnamed, hmethM, -, -, -, -, -, -, hsigM⟩ := Cond.codeWith_spec hcode
  have hstatic : methM.isStatic = true := Cond.static_spec hnamed hmethM hstat
  obtain ⟨kP, hkP, -⟩ := className_of_methodNamed hnamed
  have hinitP : kP.init = .initialized := Cond.initialized_spec (findClass_of_methodNamed hnamed) hkP hinit
  obtain ⟨vm₁, X₁, hstep₁⟩ := X.invokestatic hexec hown hlink hnamed hmethM hstatic hkP hinitP hy (g := g) hg (argsL := argsL) (rest := rest) (hlen _ hsigM) hstack hdg
  rcases hK m meth c ⟨T.setVm vm₁, locs, cells, slots⟩ { g with stack := rest } (.invokestatic index) mk argsL.toArray X₁ hg hsize hdg hW (X₁.named hnamed) (hpre vm₁ X₁.warmed) with ⟨v, B, X', hpost, hsteps⟩ | ⟨q, B, X', hpost, hsteps⟩
  · exact Or.inl ⟨v, vm₁, B, X₁.warmed, X', hpost, fun target h => hstep₁ _ fun acts => by rw [doInvoke_state]; exact hsteps.trans h⟩
  · exact Or.inr ⟨q, vm₁, B, X₁.warmed, X', hpost, hstep₁ _ fun acts => by rw [doInvoke_state]; exact hsteps⟩
theorem vx_callVW (X : Stand p l e R s m args below meth c T locs cells slots) (hexec : p.tables.exec = Jvm.exec) {own C : String} {index : Nat} {y : MethodName} {bytes : ByteArray} {maxL : Nat} {ret : Option FieldType} {hh : List (Nat × Nat × Nat × Nat)}
    (hown : s.vm.findClass own = some m.cls) (hlink : (Cond.methodLink own index y).before args s = true) (hinst : (Cond.instanceMethod y).before args s = true) (hsel : (Cond.selects C y y).before args s = true)
    (hcode : (Cond.codeWith y bytes maxL ret hh).before args s = true) (hy : y.cls ≠ "java/lang/invoke/MethodHandle" ∧ y.cls ≠ "java/lang/invoke/VarHandle")
    {W9 : Nat} {Pre : Pt → Array Value → Prop} {Post : Pt → Array Value → Option Value → Pt → Prop} (hK : Back l R p e below s args y 3 W9 Pre Post)
    {b : Addr} {cellB : Cell} (hcell : T.heap[b]? = some cellB) (hobj : cellB.vm.isStatics = false) (hcls : s.vm.findClass C = some cellB.cls)
    {g : JFrame} (hg : g.method = m) (hsize : g.locals.size = c.maxLocals) {argsL rest : List Value} (hlen : ∀ sig, parseMethodDescriptor y.desc = some sig → argsL.length = sig.parameters.length)
    (hstack : g.stack = argsL.reverse ++ .ref b :: rest) (hW : 2 * g.monitorRoom + (rest.map fun v => v.category).sum ≤ W9) (hdg : decode c.code g.pc = .ok (.invokevirtual index, 3))
    (hpre : ∀ vm₁, s.WarmedH vm₁ → Pre ⟨T.setVm vm₁, locs, cells, slots⟩ (Value.ref b :: argsL).toArray) :
    ∃ (v : Option Value) (vm₁ : Vm) (B : Pt), s.WarmedH vm₁ ∧ Stand p l e R s m args below meth c B.U B.locs B.cells B.slots ∧ Post ⟨T.setVm vm₁, locs, cells, slots⟩ (Value.ref b :: argsL).toArray v B ∧
      ∀ target, Steps p.tables e below (B.U.setTop { g with pc := g.pc + 3, stack := v.toList ++ rest }) target → Steps p.tables e below (T.setTop g) target := by
  obtain ⟨mk, methM, hnamed, hmethM, hstM, habM⟩ := Cond.instanceMethod_spec hinst
  obtain ⟨m8, methM', cM, hn8, hmethM', -, -, -, -, -, -, hsigM⟩ := Cond.codeWith_spec hcode
  cases Option.some.inj (hn8.symm.trans hnamed)
  cases hmethM.symm.trans hmethM'
  obtain ⟨c2, r2, m2, q1, q2, q3, q4, kP, hkP, hkPi⟩ := Cond.selects_spec hsel
  cases hcls.symm.trans q1
  cases (State.methodFound?_of_named hnamed hy).symm.trans q2
  cases hnamed.symm.trans q3
  have hselP : selectMethod e.platform s.vm cellB.cls mk = .method mk := by rw [Launch.admits_selectMethod X.admits]; exact q4
  obtain ⟨vm₁, X₁, hstep₁⟩ := X.invokevirtual hexec hown hlink hnamed hmethM hstM hkP hkPi hy (a := b) (cell := cellB) hcell
    (fun z h => by rw [h] at hobj; cases hobj) hselP hmethM habM hkP hkPi (g := g) hg (argsL := argsL) (rest := rest) (hlen _ hsigM) hstack hdg
  obtain ⟨v, B, X', hpost, hsteps⟩ := hK m meth c ⟨T.setVm vm₁, locs, cells, slots⟩ { g with stack := rest } (.invokevirtual index) mk (Value.ref b :: argsL).toArray X₁ hg hsize hdg hW (X₁.named hnamed) (hpre vm₁ X₁.warmed)
  exact ⟨v, vm₁, B, X₁.warmed, X', hpost, fun target h => hstep₁ _ fun acts => by rw [doInvoke_state]; exact hsteps.trans h⟩
abbrev vx_CVW (R : Room) (s : State) (args : Array Value) (own C : String) (index : Nat) (y : MethodName) (bytes : ByteArray) (maxL : Nat) (ret : Option FieldType) (hh : List (Nat × Nat × Nat × Nat)) (ws : List Cond) (rm : Room) (mc ms n : Nat) : Prop :=
  (rm.cells = mc ∧ rm.slots = ms ∧ rm.frames + 1 ≤ R.frames ∧ 8 + (maxL + 11) + rm.locals ≤ R.locals ∧ (∀ w ∈ ws, ∀ (a' : Array Value) (U : State), s.WarmedH U.vm → w.before a' U = true) ∧ Cond.codeWith y bytes maxL ret hh ∈ ws) ∧
  (Cond.codeWith y bytes maxL ret hh).before args s = true ∧ (Cond.initialized y.cls).before args s = true ∧ (y.cls ≠ "java/lang/invoke/MethodHandle" ∧ y.cls ≠ "java/lang/invoke/VarHandle") ∧
  (∀ sig, parseMethodDescriptor y.desc = some sig → n = sig.parameters.length) ∧ (Cond.methodLink own index y).before args s = true ∧ (Cond.instanceMethod y).before args s = true ∧ (Cond.selects C y y).before args s = true
theorem vx_cwVW {own C : String} {index maxL mc ms : Nat} {y : MethodName} {bytes : ByteArray} {ret : Option FieldType} {hh : List (Nat × Nat × Nat × Nat)} {Ts ws ws' : List Cond} {rm : Room} (n : Nat) (ht : ∀ w ∈ Ts, w.before args s = true) (hT : GoodIn Ts (wsV own index C y ws)) (hw : ws = Cond.codeWith y bytes maxL ret hh :: ws') (hrc : rm.cells = mc) (hrs : rm.slots = ms)
    (hd : y.cls = C ∧ y.cls ≠ "java/lang/invoke/MethodHandle" ∧ y.cls ≠ "java/lang/invoke/VarHandle" ∧ (parseMethodDescriptor y.desc).map (fun d => d.parameters.length) = some n) (hR : rm.frames + 1 ≤ R.frames ∧ 8 + (maxL + 11) + rm.locals ≤ R.locals) :
    vx_CVW R s args own C index y bytes maxL ret hh ws rm mc ms n := by
  obtain ⟨hC, hd⟩ := hd
  subst hC
  have ok : ∀ w ∈ wsV own index y.cls y ws, w.before args s = true := fun w h => ht w (hT w h).1
  have hG : GoodIn Ts ws := fun w h => hT w (by unfold wsV; exact List.mem_append_right _ h)
  have hc : Cond.codeWith y bytes maxL ret hh ∈ ws := by rw [hw]; exact List.mem_cons_self
  refine ⟨⟨hrc, hrs, hR.1, hR.2, pay_in ht hG, hc⟩, ht _ (hG _ hc).1, ok _ (by simp [wsV]), ⟨hd.1, hd.2.1⟩, fun sig h => ?_, ok _ (by simp [wsV]), ok _ (by simp [wsV]), ok _ (by simp [wsV])⟩
  have h2 := hd.2.2
  rw [h] at h2
  exact (Option.some.inj h2).symm
theorem vx_runVW {y : MethodName} {bytes cc : ByteArray} {maxL nL mc ms n index : Nat} {ret : Option FieldType} {hh : List (Nat × Nat × Nat × Nat)} {ws : List Cond} {rm : Room} {Pc : Array Value → State → Prop} {Qc : Array Value → State → Outcome → State → Prop} {free : Addr → Prop} {Ts : List Cond} {own C : String} {b : Addr} {As rest : List Value} {g : JFrame}
    (S : CallFix p m c cc nL s args Ts own) (hM : Met l y ws rm Pc Qc mc ms free) (cw : vx_CVW R s args own C index y bytes maxL ret hh ws rm mc ms n) (hp : PreV s H C b Pc As)
    (hg : g.method = m) (hn : As.length = n) (hsize : g.locals.size = nL) (hstack : g.stack = As.reverse ++ .ref b :: rest) (hW : 2 * g.monitorRoom + (rest.map fun v => v.category).sum ≤ 8) (hdg : decode cc g.pc = .ok (.invokevirtual index, 3)) (hf : cells + mc ≤ R.cells ∧ slots + ms ≤ R.slots) :
    va_Run p l e R s m args below meth c H locs cells slots mc ms g rest (Qc (Value.ref b :: As).toArray) free := by
  obtain ⟨⟨hrc, hrs, hfr, hlo, hws, hcw⟩, hcode, hini, hy, hlen, hl, hin, hse⟩ := cw
  have hK : Back l R p e below s args y 3 8 (PreOf R mc ms Pc) (PostOf Qc mc ms free) := va_backW (hh := hh) (bytes := bytes) (maxL := maxL) (ret := ret) hM hp.1 hrc hrs hfr hlo hws hcw (fun a' U hW => word_at hW (Or.inl (by first | rfl | simp [Cond.onTables, Cond.keeps, Cond.steady])) hini)
  obtain ⟨hx, hb, hml, ho, -⟩ := S
  obtain ⟨-, ⟨cellB, hcB, hoB, hclB⟩, hPc⟩ := hp
  intro T hT X
  obtain ⟨v, vm₁, ⟨U', l2, c2, s2⟩, hW₁, X', ⟨g', mk, t, L, e1, e2, hq, h1, hL, h2, h3⟩, st⟩ := vx_callVW X hx (C := C) (hh := hh) (bytes := bytes) (maxL := maxL) (ret := ret) ho hl hin hse hcode hy hK (by rw [hT]; exact hcB) hoB hclB hg (hsize.trans hml.symm) (argsL := As) (rest := rest) (fun sig h => hn.trans (hlen sig h)) hstack hW (by rw [hb]; exact hdg)
    (fun vm₁ hW₁ => ⟨hf.1, hf.2, hPc (T.setVm vm₁) hT hW₁⟩)
  dsimp only [Pt.U, Pt.locs, Pt.cells, Pt.slots] at X' e1 e2 h1 h2 h3 st
  subst h1; subst h2; subst h3
  exact ⟨v, (T.setVm vm₁).calling g' mk (Value.ref b :: As).toArray, t, U', L, hT, X', hL, e1, e2, hq, st⟩
section
variable {y : MethodName} {bytes cc : ByteArray} {maxL nL mc ms n index : Nat} {ret : Option FieldType} {ws : List Cond} {rm : Room} {Pc : Array Value → State → Prop} {Qc : Array Value → State → Outcome → State → Prop} {XC : String → State → State → Prop} {free : Addr → Prop} {Ts : List Cond} {own C : String} {b : Addr} {As rest : List Value} {g : JFrame}
theorem vx_runVX {hh : List (Nat × Nat × Nat × Nat)} (S : CallFix p m c cc nL s args Ts own) (hM : vx_Met l y ws rm Pc Qc XC mc ms free) (cw : vx_CVW R s args own C index y bytes maxL ret hh ws rm mc ms n) (hp : PreV s H C b Pc As)
    (hg : g.method = m) (hn : As.length = n) (hsize : g.locals.size = nL) (hstack : g.stack = As.reverse ++ .ref b :: rest) (hW : 2 * g.monitorRoom + (rest.map fun v => v.category).sum ≤ 8) (hdg : decode cc g.pc = .ok (.invokevirtual index, 3)) (hf : cells + mc ≤ R.cells ∧ slots + ms ≤ R.slots) :
    vx_Run p l e R s m args below meth c H locs cells slots mc ms g rest (Qc (Value.ref b :: As).toArray) XC free := by
  obtain ⟨⟨hrc, hrs, hfr, hlo, hws, hcw⟩, hcode, hini, hy, hlen, hl, hin, hse⟩ := cw
  have hK : vx_Back l R p e below s args y 3 8 (PreOf R mc ms Pc) (PostOf Qc mc ms free) (vx_Post XC mc ms free) := vx_backW (hh := hh) (bytes := bytes) (maxL := maxL) (ret := ret) hM hp.1 hrc hrs hfr hlo hws hcw (fun a' U hW => word_at hW (Or.inl (by first | rfl | simp [Cond.onTables, Cond.keeps, Cond.steady])) hini)
  obtain ⟨hx, hb, hml, ho, -⟩ := S
  obtain ⟨-, ⟨cellB, hcB, hoB, hclB⟩, hPc⟩ := hp
  intro T hT X
  rcases vx_callVX X hx (C := C) (hh := hh) (bytes := bytes) (maxL := maxL) (ret := ret) ho hl hin hse hcode hy hK (by rw [hT]; exact hcB) hoB hclB hg (hsize.trans hml.symm) (argsL := As) (rest := rest) (fun sig h => hn.trans (hlen sig h)) hstack hW (by rw [hb]; exact hdg)
    (fun vm₁ hW₁ => ⟨hf.1, hf.2, hPc (T.setVm vm₁) hT hW₁⟩) with ⟨v, vm₁, ⟨U', l2, c2, s2⟩, hW₁, X', ⟨g', mk, t, L, e1, e2, hq, h1, hL, h2, h3⟩, st⟩ | ⟨q, vm₁, ⟨U', l2, c2, s2⟩, hW₁, X', ⟨g', mk, t, L, E, ce, e1, e2, hq, hce, hcv, hcl, h1, hL, h2, h3⟩, st⟩
  · dsimp only [Pt.U, Pt.locs, Pt.cells, Pt.slots] at X' e1 e2 h1 h2 h3 st
    subst h1; subst h2; subst h3
    exact Or.inl ⟨v, (T.setVm vm₁).calling g' mk (Value.ref b :: As).toArray, t, U', L, hT, X', hL, e1, e2, hq, st⟩
  · dsimp only [Pt.U, Pt.locs, Pt.cells, Pt.slots] at X' e1 e2 h1 h2 h3 st hcl
    subst h1; subst h2; subst h3
    exact Or.inr ⟨q, (T.setVm vm₁).calling g' mk (Value.ref b :: As).toArray, t, U', L, E, ce, hT, X', hL, e1, e2, hq, hce, hcv, vx_cls hW₁ hcl, st⟩
theorem vx_runSX {hh : List (Nat × Nat × Nat × Nat)} (S : CallFix p m c cc nL s args Ts own) (hM : vx_Met l y ws rm Pc Qc XC mc ms free) (cw : vx_CSW R s args own index y bytes maxL ret hh ws rm mc ms n) (hp : PreS s H Pc As)
    (hg : g.method = m) (hn : As.length = n) (hsize : g.locals.size = nL) (hstack : g.stack = As.reverse ++ rest) (hW : 2 * g.monitorRoom + (rest.map fun v => v.category).sum ≤ 8) (hdg : decode cc g.pc = .ok (.invokestatic index, 3)) (hf : cells + mc ≤ R.cells ∧ slots + ms ≤ R.slots) :
    vx_Run p l e R s m args below meth c H locs cells slots mc ms g rest (Qc As.toArray) XC free := by
  obtain ⟨⟨hrc, hrs, hfr, hlo, hws, hcw⟩, hcode, hini, hy, hlen, hl, hstt⟩ := cw
  have hK : vx_Back l R p e below s args y 3 8 (PreOf R mc ms Pc) (PostOf Qc mc ms free) (vx_Post XC mc ms free) := vx_backW (hh := hh) (bytes := bytes) (maxL := maxL) (ret := ret) hM hp.1 hrc hrs hfr hlo hws hcw (fun a' U hW => word_at hW (Or.inl (by first | rfl | simp [Cond.onTables, Cond.keeps, Cond.steady])) hini)
  obtain ⟨hx, hb, hml, ho, -⟩ := S
  intro T hT X
  rcases vx_callSX X hx (hh := hh) (bytes := bytes) (maxL := maxL) (ret := ret) ho hl hstt hini hcode hy hK hg (hsize.trans hml.symm) (argsL := As) (rest := rest) (fun sig h => hn.trans (hlen sig h)) hstack hW (by rw [hb]; exact hdg)
    (fun vm₁ hW₁ => ⟨hf.1, hf.2, hp.2 (T.setVm vm₁) hT hW₁⟩) with ⟨v, vm₁, ⟨U', l2, c2, s2⟩, hW₁, X', ⟨g', mk, t, L, e1, e2, hq, h1, hL, h2, h3⟩, st⟩ | ⟨q, vm₁, ⟨U', l2, c2, s2⟩, hW₁, X', ⟨g', mk, t, L, E, ce, e1, e2, hq, hce, hcv, hcl, h1, hL, h2, h3⟩, st⟩
  · dsimp only [Pt.U, Pt.locs, Pt.cells, Pt.slots] at X' e1 e2 h1 h2 h3 st
    subst h1; subst h2; subst h3
    exact Or.inl ⟨v, (T.setVm vm₁).calling g' mk As.toArray, t, U', L, hT, X', hL, e1, e2, hq, st⟩
  · dsimp only [Pt.U, Pt.locs, Pt.cells, Pt.slots] at X' e1 e2 h1 h2 h3 st hcl
    subst h1; subst h2; subst h3
    exact Or.inr ⟨q, (T.setVm vm₁).calling g' mk As.toArray, t, U', L, E, ce, hT, X', hL, e1, e2, hq, hce, hcv, vx_cls hW₁ hcl, st⟩
end
end VXH
theorem vx_ofWH {l : Launch} {y : MethodName} {ws ws' : List Cond} {rm : Room} {Pc : Array Value → State → Prop} {Qc : Array Value → State → Outcome → State → Prop} {XC : String → State → State → Prop} {mc ms : Nat} {free : Addr → Prop} {cc : ByteArray} {maxL : Nat} {ret : Option FieldType} {hh : List (Nat × Nat × Nat × Nat)}
    (hy : plainName y.cls = true) (hw : ws = Cond.codeWith y cc maxL ret hh :: ws')
    (body : ∀ p e s m args below meth c s₁, BodyLoose p l y (headSpec ws rm) cc maxL ret e s m args below meth c s₁ → c.maxLocals = maxL → Pc args s →
      W p l e (headSpec ws rm).room s m args below meth c s.heap [] 0 0 (vx_MQ below Qc XC args s mc ms free) (entryFrame m args maxL)) : vx_Met l y ws rm Pc Qc XC mc ms free := by
  refine MetFree.of_bodyS (code := cc) (maxLocals := maxL) (ret := ret) hy ?_ ?_
  · intro args s m h hn
    obtain ⟨m9, meth, c, hn9, h1, h2, h3, h4, -, h5, h6, -⟩ := Cond.codeWith_spec (atoms_spec (ws := ws) h _ (by rw [hw]; exact List.mem_cons_self))
    cases hn.symm.trans hn9
    exact ⟨meth, c, h1, h2, h3, h4, h5, h6⟩
  · intro p e s m args below meth c s₁ B hml hP _
    have hh0 : s₁.heap = s.heap := by rw [B.state]; rfl
    obtain ⟨t, a1, o, b1, b2, b3⟩ := body p e s m args below meth c s₁ B hml hP s₁ hh0 (Stand.of_body B)
    exact ⟨t, o, a1, b1, b2, b3⟩
/-! ===== END ===== -/

/-! ===== BEGIN printed: names, fields, word lists, decode rows ===== -/
end
section
def RX0 : String := "DeskStack$Decimal"
def TX0 : u_T := fun k => match k with
  | _ => ("", "", "", false)
def tyX0 : Nat → FieldType := fun k => match k with
  | _ => .int
abbrev wsX00 : List Cond := u_ws RX0 TX0 0
theorem nmX0 : ∀ a, a < 0 → ∀ b, b < 0 → a ≠ b → (TX0 a).2.1 ≠ (TX0 b).2.1 := by decide +kernel
theorem tyX0_ok : ∀ k, k < 0 → parseFieldDescriptor (TX0 k).2.2.1 = some (tyX0 k) := by decide +kernel
abbrev cX0_sum : ByteArray := prog_2_method_2_code
def yX0_sum : MethodName := ⟨RX0, "sum", "(JIJI)J"⟩
abbrev cX0_order : ByteArray := prog_2_method_3_code
def yX0_order : MethodName := ⟨RX0, "order", "(JIJI)I"⟩
abbrev cX0_times : ByteArray := prog_2_method_4_code
def yX0_times : MethodName := ⟨RX0, "times", "(JJ)J"⟩
abbrev cX0_quotient : ByteArray := prog_2_method_5_code
def yX0_quotient : MethodName := ⟨RX0, "quotient", "(JIJII)J"⟩
abbrev cX0_remainder : ByteArray := prog_2_method_6_code
def yX0_remainder : MethodName := ⟨RX0, "remainder", "(JIJII)J"⟩
abbrev cX0_root : ByteArray := prog_2_method_7_code
def yX0_root : MethodName := ⟨RX0, "root", "(JII)J"⟩
abbrev cX0_asPlaces : ByteArray := prog_2_method_8_code
def yX0_asPlaces : MethodName := ⟨RX0, "asPlaces", "(JI)I"⟩
abbrev cX0_cutOff : ByteArray := prog_2_method_9_code
def yX0_cutOff : MethodName := ⟨RX0, "cutOff", "(JI)J"⟩
abbrev cX0_raise : ByteArray := prog_2_method_10_code
def yX0_raise : MethodName := ⟨RX0, "raise", "(JI)J"⟩
abbrev cX0_powerOfTen : ByteArray := prog_2_method_11_code
def yX0_powerOfTen : MethodName := ⟨RX0, "powerOfTen", "(I)J"⟩
abbrev cX0_divide : ByteArray := prog_2_method_12_code
def yX0_divide : MethodName := ⟨RX0, "divide", "(JJ)J"⟩
abbrev cX0_fitting : ByteArray := prog_2_method_13_code
def yX0_fitting : MethodName := ⟨RX0, "fitting", "(J)J"⟩
def RX1 : String := "DeskStack$Nest"
def TX1 : u_T := fun k => match k with
  | 0 => ("DeskStack$Nest", "rows", "[LDeskStack$Row;", true)
  | 1 => ("DeskStack$Nest", "positions", "[I", true)
  | 2 => ("DeskStack$Nest", "ends", "[I", true)
  | _ => ("DeskStack$Nest", "count", "I", false)
def tyX1 : Nat → FieldType := fun k => match k with
  | 0 => .array (.object "DeskStack$Row")
  | 1 => .array .int
  | 2 => .array .int
  | _ => .int
abbrev wsX10 : List Cond := u_ws RX1 TX1 4
theorem nmX1 : ∀ a, a < 4 → ∀ b, b < 4 → a ≠ b → (TX1 a).2.1 ≠ (TX1 b).2.1 := by decide +kernel
theorem tyX1_ok : ∀ k, k < 4 → parseFieldDescriptor (TX1 k).2.2.1 = some (tyX1 k) := by decide +kernel
abbrev cX1_init : ByteArray := prog_3_method_1_code
def yX1_init : MethodName := ⟨RX1, "<init>", "()V"⟩
abbrev cX1_isUnderWay : ByteArray := prog_3_method_2_code
def yX1_isUnderWay : MethodName := ⟨RX1, "isUnderWay", "()Z"⟩
abbrev cX1_enter : ByteArray := prog_3_method_3_code
def yX1_enter : MethodName := ⟨RX1, "enter", "(LDeskStack$Row;II)V"⟩
abbrev cX1_enterMacro : ByteArray := prog_3_method_4_code
def yX1_enterMacro : MethodName := ⟨RX1, "enterMacro", "(LDeskStack$Row;II)V"⟩
abbrev cX1_leave : ByteArray := prog_3_method_5_code
def yX1_leave : MethodName := ⟨RX1, "leave", "()V"⟩
abbrev cX1_leaveAll : ByteArray := prog_3_method_6_code
def yX1_leaveAll : MethodName := ⟨RX1, "leaveAll", "()V"⟩
abbrev cX1_innermostRow : ByteArray := prog_3_method_7_code
def yX1_innermostRow : MethodName := ⟨RX1, "innermostRow", "()LDeskStack$Row;"⟩
abbrev cX1_position : ByteArray := prog_3_method_8_code
def yX1_position : MethodName := ⟨RX1, "position", "()I"⟩
abbrev cX1_look : ByteArray := prog_3_method_9_code
def yX1_look : MethodName := ⟨RX1, "look", "()I"⟩
abbrev cX1_pass : ByteArray := prog_3_method_10_code
def yX1_pass : MethodName := ⟨RX1, "pass", "()V"⟩
abbrev cX1_skipBlanks : ByteArray := prog_3_method_11_code
def yX1_skipBlanks : MethodName := ⟨RX1, "skipBlanks", "()V"⟩
def RX2 : String := "DeskStack$Row"
def TX2 : u_T := fun k => match k with
  | 0 => ("DeskStack$Row", "chars", "[B", true)
  | _ => ("DeskStack$Row", "size", "I", false)
def tyX2 : Nat → FieldType := fun k => match k with
  | 0 => .array .byte
  | _ => .int
abbrev wsX20 : List Cond := u_ws RX2 TX2 2
theorem nmX2 : ∀ a, a < 2 → ∀ b, b < 2 → a ≠ b → (TX2 a).2.1 ≠ (TX2 b).2.1 := by decide +kernel
theorem tyX2_ok : ∀ k, k < 2 → parseFieldDescriptor (TX2 k).2.2.1 = some (tyX2 k) := by decide +kernel
abbrev cX2_init : ByteArray := prog_4_method_1_code
def yX2_init : MethodName := ⟨RX2, "<init>", "()V"⟩
abbrev cX2_append : ByteArray := prog_4_method_2_code
def yX2_append : MethodName := ⟨RX2, "append", "(I)V"⟩
abbrev cX2_charAt : ByteArray := prog_4_method_3_code
def yX2_charAt : MethodName := ⟨RX2, "charAt", "(I)I"⟩
def RX3 : String := "DeskStack$Shelf"
def TX3 : u_T := fun k => match k with
  | 0 => ("DeskStack$Shelf", "values", "[J", true)
  | 1 => ("DeskStack$Shelf", "places", "[I", true)
  | 2 => ("DeskStack$Shelf", "rows", "[LDeskStack$Row;", true)
  | 3 => ("DeskStack$Shelf", "starts", "[I", true)
  | _ => ("DeskStack$Shelf", "count", "I", false)
def tyX3 : Nat → FieldType := fun k => match k with
  | 0 => .array .long
  | 1 => .array .int
  | 2 => .array (.object "DeskStack$Row")
  | 3 => .array .int
  | _ => .int
abbrev wsX30 : List Cond := u_ws RX3 TX3 5
theorem nmX3 : ∀ a, a < 5 → ∀ b, b < 5 → a ≠ b → (TX3 a).2.1 ≠ (TX3 b).2.1 := by decide +kernel
theorem tyX3_ok : ∀ k, k < 5 → parseFieldDescriptor (TX3 k).2.2.1 = some (tyX3 k) := by decide +kernel
abbrev cX3_init : ByteArray := prog_5_method_1_code
def yX3_init : MethodName := ⟨RX3, "<init>", "(I)V"⟩
abbrev cX3_isFull : ByteArray := prog_5_method_2_code
def yX3_isFull : MethodName := ⟨RX3, "isFull", "()Z"⟩
abbrev cX3_has : ByteArray := prog_5_method_3_code
def yX3_has : MethodName := ⟨RX3, "has", "(I)Z"⟩
abbrev cX3_slotBelowTop : ByteArray := prog_5_method_4_code
def yX3_slotBelowTop : MethodName := ⟨RX3, "slotBelowTop", "(I)I"⟩
abbrev cX3_valueAt : ByteArray := prog_5_method_5_code
def yX3_valueAt : MethodName := ⟨RX3, "valueAt", "(I)J"⟩
abbrev cX3_placesAt : ByteArray := prog_5_method_6_code
def yX3_placesAt : MethodName := ⟨RX3, "placesAt", "(I)I"⟩
abbrev cX3_rowAt : ByteArray := prog_5_method_7_code
def yX3_rowAt : MethodName := ⟨RX3, "rowAt", "(I)LDeskStack$Row;"⟩
abbrev cX3_startAt : ByteArray := prog_5_method_8_code
def yX3_startAt : MethodName := ⟨RX3, "startAt", "(I)I"⟩
abbrev cX3_putNumber : ByteArray := prog_5_method_9_code
def yX3_putNumber : MethodName := ⟨RX3, "putNumber", "(JI)V"⟩
abbrev cX3_putText : ByteArray := prog_5_method_10_code
def yX3_putText : MethodName := ⟨RX3, "putText", "(LDeskStack$Row;II)V"⟩
abbrev cX3_putTopOf : ByteArray := prog_5_method_11_code
def yX3_putTopOf : MethodName := ⟨RX3, "putTopOf", "(LDeskStack$Shelf;)V"⟩
abbrev cX3_put : ByteArray := prog_5_method_12_code
def yX3_put : MethodName := ⟨RX3, "put", "(JILDeskStack$Row;I)V"⟩
abbrev cX3_set : ByteArray := prog_5_method_13_code
def yX3_set : MethodName := ⟨RX3, "set", "(IJILDeskStack$Row;I)V"⟩
abbrev cX3_swapTopTwo : ByteArray := prog_5_method_14_code
def yX3_swapTopTwo : MethodName := ⟨RX3, "swapTopTwo", "()V"⟩
abbrev cX3_drop : ByteArray := prog_5_method_15_code
def yX3_drop : MethodName := ⟨RX3, "drop", "(I)V"⟩
abbrev cX3_clear : ByteArray := prog_5_method_16_code
def yX3_clear : MethodName := ⟨RX3, "clear", "()V"⟩
def RX4 : String := "DeskStack"
def TX4 : u_T := fun k => match k with
  | 0 => ("DeskStack", "stack", "LDeskStack$Shelf;", true)
  | 1 => ("DeskStack", "registers", "[LDeskStack$Shelf;", true)
  | 2 => ("DeskStack", "printer", "LDeskStack$Shelf;", true)
  | 3 => ("DeskStack", "texts", "LDeskStack$Nest;", true)
  | 4 => ("DeskStack", "program", "LDeskStack$Row;", false)
  | 5 => ("DeskStack", "keptPlaces", "I", false)
  | _ => ("DeskStack", "commandsDone", "I", false)
def tyX4 : Nat → FieldType := fun k => match k with
  | 0 => .object "DeskStack$Shelf"
  | 1 => .array (.object "DeskStack$Shelf")
  | 2 => .object "DeskStack$Shelf"
  | 3 => .object "DeskStack$Nest"
  | 4 => .object "DeskStack$Row"
  | 5 => .int
  | _ => .int
abbrev wsX40 : List Cond := u_ws RX4 TX4 7
theorem nmX4 : ∀ a, a < 7 → ∀ b, b < 7 → a ≠ b → (TX4 a).2.1 ≠ (TX4 b).2.1 := by decide +kernel
theorem tyX4_ok : ∀ k, k < 7 → parseFieldDescriptor (TX4 k).2.2.1 = some (tyX4 k) := by decide +kernel
abbrev cX4_init : ByteArray := prog_1_method_1_code
def yX4_init : MethodName := ⟨RX4, "<init>", "()V"⟩
abbrev cX4_write : ByteArray := prog_1_method_2_code
def yX4_write : MethodName := ⟨RX4, "write", "(J)I"⟩
abbrev cX4_erase : ByteArray := prog_1_method_3_code
def yX4_erase : MethodName := ⟨RX4, "erase", "()I"⟩
abbrev cX4_run : ByteArray := prog_1_method_4_code
def yX4_run : MethodName := ⟨RX4, "run", "(I)I"⟩
abbrev cX4_cost : ByteArray := prog_1_method_5_code
def yX4_cost : MethodName := ⟨RX4, "cost", "()I"⟩
abbrev cX4_prints : ByteArray := prog_1_method_6_code
def yX4_prints : MethodName := ⟨RX4, "prints", "()I"⟩
abbrev cX4_printed : ByteArray := prog_1_method_7_code
def yX4_printed : MethodName := ⟨RX4, "printed", "(I)J"⟩
abbrev cX4_places : ByteArray := prog_1_method_8_code
def yX4_places : MethodName := ⟨RX4, "places", "(I)I"⟩
abbrev cX4_depth : ByteArray := prog_1_method_9_code
def yX4_depth : MethodName := ⟨RX4, "depth", "()I"⟩
abbrev cX4_item : ByteArray := prog_1_method_10_code
def yX4_item : MethodName := ⟨RX4, "item", "(I)J"⟩
abbrev cX4_scale : ByteArray := prog_1_method_11_code
def yX4_scale : MethodName := ⟨RX4, "scale", "(I)I"⟩
abbrev cX4_held : ByteArray := prog_1_method_12_code
def yX4_held : MethodName := ⟨RX4, "held", "(I)I"⟩
abbrev cX4_precision : ByteArray := prog_1_method_13_code
def yX4_precision : MethodName := ⟨RX4, "precision", "()I"⟩
abbrev cX4_reset : ByteArray := prog_1_method_14_code
def yX4_reset : MethodName := ⟨RX4, "reset", "()V"⟩
abbrev cX4_charOf : ByteArray := prog_1_method_15_code
def yX4_charOf : MethodName := ⟨RX4, "charOf", "(JI)I"⟩
abbrev cX4_registerNumbered : ByteArray := prog_1_method_16_code
def yX4_registerNumbered : MethodName := ⟨RX4, "registerNumbered", "(I)LDeskStack$Shelf;"⟩
abbrev cX4_doCommand : ByteArray := prog_1_method_17_code
def yX4_doCommand : MethodName := ⟨RX4, "doCommand", "()V"⟩
abbrev cX4_isDigit : ByteArray := prog_1_method_18_code
def yX4_isDigit : MethodName := ⟨RX4, "isDigit", "(I)Z"⟩
abbrev cX4_beginsNumber : ByteArray := prog_1_method_19_code
def yX4_beginsNumber : MethodName := ⟨RX4, "beginsNumber", "(I)Z"⟩
abbrev cX4_putWrittenNumber : ByteArray := prog_1_method_20_code
def yX4_putWrittenNumber : MethodName := ⟨RX4, "putWrittenNumber", "()V"⟩
abbrev cX4_putWrittenText : ByteArray := prog_1_method_21_code
def yX4_putWrittenText : MethodName := ⟨RX4, "putWrittenText", "()V"⟩
abbrev cX4_needItems : ByteArray := prog_1_method_22_code
def yX4_needItems : MethodName := ⟨RX4, "needItems", "(I)V"⟩
abbrev cX4_needNumbers : ByteArray := prog_1_method_23_code
def yX4_needNumbers : MethodName := ⟨RX4, "needNumbers", "(I)V"⟩
abbrev cX4_calculate : ByteArray := prog_1_method_24_code
def yX4_calculate : MethodName := ⟨RX4, "calculate", "(I)V"⟩
abbrev cX4_changeNumber : ByteArray := prog_1_method_25_code
def yX4_changeNumber : MethodName := ⟨RX4, "changeNumber", "(I)V"⟩
abbrev cX4_arrangeStack : ByteArray := prog_1_method_26_code
def yX4_arrangeStack : MethodName := ⟨RX4, "arrangeStack", "(I)V"⟩
abbrev cX4_registerOfLetter : ByteArray := prog_1_method_27_code
def yX4_registerOfLetter : MethodName := ⟨RX4, "registerOfLetter", "()LDeskStack$Shelf;"⟩
abbrev cX4_needHeld : ByteArray := prog_1_method_28_code
def yX4_needHeld : MethodName := ⟨RX4, "needHeld", "(LDeskStack$Shelf;)V"⟩
abbrev cX4_moveToOrFromRegister : ByteArray := prog_1_method_29_code
def yX4_moveToOrFromRegister : MethodName := ⟨RX4, "moveToOrFromRegister", "(I)V"⟩
abbrev cX4_runTop : ByteArray := prog_1_method_30_code
def yX4_runTop : MethodName := ⟨RX4, "runTop", "()V"⟩
abbrev cX4_runIfOrdered : ByteArray := prog_1_method_31_code
def yX4_runIfOrdered : MethodName := ⟨RX4, "runIfOrdered", "(I)V"⟩
def RX5 : String := "DeskStackModel"
def TX5 : u_T := fun k => match k with
  | 0 => ("DeskStackModel", "program", "[I", true)
  | 1 => ("DeskStackModel", "length", "I", false)
  | 2 => ("DeskStackModel", "value", "[J", true)
  | 3 => ("DeskStackModel", "places", "[I", true)
  | 4 => ("DeskStackModel", "letters", "[I", true)
  | 5 => ("DeskStackModel", "depth", "I", false)
  | 6 => ("DeskStackModel", "precision", "I", false)
  | 7 => ("DeskStackModel", "held", "[I", true)
  | 8 => ("DeskStackModel", "text", "[I", true)
  | 9 => ("DeskStackModel", "size", "[I", true)
  | 10 => ("DeskStackModel", "at", "[I", true)
  | 11 => ("DeskStackModel", "levels", "I", false)
  | 12 => ("DeskStackModel", "shown", "[J", true)
  | 13 => ("DeskStackModel", "shownPlaces", "[I", true)
  | 14 => ("DeskStackModel", "prints", "I", false)
  | 15 => ("DeskStackModel", "cost", "I", false)
  | 16 => ("DeskStackModel", "fault", "I", false)
  | 17 => ("DeskStackModel", "thrown", "I", false)
  | 18 => ("DeskStackModel", "over", "Z", false)
  | 19 => ("DeskStackModel", "m", "J", false)
  | _ => ("DeskStackModel", "s", "I", false)
def tyX5 : Nat → FieldType := fun k => match k with
  | 0 => .array .int
  | 1 => .int
  | 2 => .array .long
  | 3 => .array .int
  | 4 => .array .int
  | 5 => .int
  | 6 => .int
  | 7 => .array .int
  | 8 => .array .int
  | 9 => .array .int
  | 10 => .array .int
  | 11 => .int
  | 12 => .array .long
  | 13 => .array .int
  | 14 => .int
  | 15 => .int
  | 16 => .int
  | 17 => .int
  | 18 => .boolean
  | 19 => .long
  | _ => .int
abbrev wsX50 : List Cond := u_ws RX5 TX5 21
theorem nmX5 : ∀ a, a < 21 → ∀ b, b < 21 → a ≠ b → (TX5 a).2.1 ≠ (TX5 b).2.1 := by decide +kernel
theorem tyX5_ok : ∀ k, k < 21 → parseFieldDescriptor (TX5 k).2.2.1 = some (tyX5 k) := by decide +kernel
abbrev cX5_init : ByteArray := prog_7_method_1_code
def yX5_init : MethodName := ⟨RX5, "<init>", "()V"⟩
abbrev cX5_thrown : ByteArray := prog_7_method_2_code
def yX5_thrown : MethodName := ⟨RX5, "thrown", "()I"⟩
abbrev cX5_within : ByteArray := prog_7_method_3_code
def yX5_within : MethodName := ⟨RX5, "within", "(JJJ)Z"⟩
abbrev cX5_write : ByteArray := prog_7_method_4_code
def yX5_write : MethodName := ⟨RX5, "write", "(J)I"⟩
abbrev cX5_erase : ByteArray := prog_7_method_5_code
def yX5_erase : MethodName := ⟨RX5, "erase", "()I"⟩
abbrev cX5_copy : ByteArray := prog_7_method_6_code
def yX5_copy : MethodName := ⟨RX5, "copy", "(II)V"⟩
abbrev cX5_fail : ByteArray := prog_7_method_7_code
def yX5_fail : MethodName := ⟨RX5, "fail", "(I)Z"⟩
abbrev cX5_have : ByteArray := prog_7_method_8_code
def yX5_have : MethodName := ⟨RX5, "have", "(I)Z"⟩
abbrev cX5_numbers : ByteArray := prog_7_method_9_code
def yX5_numbers : MethodName := ⟨RX5, "numbers", "(I)Z"⟩
abbrev cX5_room : ByteArray := prog_7_method_10_code
def yX5_room : MethodName := ⟨RX5, "room", "()Z"⟩
abbrev cX5_put : ByteArray := prog_7_method_11_code
def yX5_put : MethodName := ⟨RX5, "put", "(IJI)V"⟩
abbrev cX5_register : ByteArray := prog_7_method_12_code
def yX5_register : MethodName := ⟨RX5, "register", "(I)I"⟩
abbrev cX5_topOf : ByteArray := prog_7_method_13_code
def yX5_topOf : MethodName := ⟨RX5, "topOf", "(I)I"⟩
abbrev cX5_isBig : ByteArray := prog_7_method_14_code
def yX5_isBig : MethodName := ⟨RX5, "isBig", "(J)Z"⟩
abbrev cX5_raised : ByteArray := prog_7_method_15_code
def yX5_raised : MethodName := ⟨RX5, "raised", "(JI)J"⟩
abbrev cX5_cut : ByteArray := prog_7_method_16_code
def yX5_cut : MethodName := ⟨RX5, "cut", "(JI)J"⟩
abbrev cX5_product : ByteArray := prog_7_method_17_code
def yX5_product : MethodName := ⟨RX5, "product", "(JJ)J"⟩
abbrev cX5_greater : ByteArray := prog_7_method_18_code
def yX5_greater : MethodName := ⟨RX5, "greater", "(II)I"⟩
abbrev cX5_sum : ByteArray := prog_7_method_19_code
def yX5_sum : MethodName := ⟨RX5, "sum", "(Z)Z"⟩
abbrev cX5_times : ByteArray := prog_7_method_20_code
def yX5_times : MethodName := ⟨RX5, "times", "()Z"⟩
abbrev cX5_quotient : ByteArray := prog_7_method_21_code
def yX5_quotient : MethodName := ⟨RX5, "quotient", "()Z"⟩
abbrev cX5_rest : ByteArray := prog_7_method_22_code
def yX5_rest : MethodName := ⟨RX5, "rest", "()Z"⟩
abbrev cX5_root : ByteArray := prog_7_method_23_code
def yX5_root : MethodName := ⟨RX5, "root", "()Z"⟩
abbrev cX5_charAt : ByteArray := prog_7_method_24_code
def yX5_charAt : MethodName := ⟨RX5, "charAt", "(II)I"⟩
abbrev cX5_isNothing : ByteArray := prog_7_method_25_code
def yX5_isNothing : MethodName := ⟨RX5, "isNothing", "(I)Z"⟩
abbrev cX5_isDone : ByteArray := prog_7_method_26_code
def yX5_isDone : MethodName := ⟨RX5, "isDone", "(I)Z"⟩
abbrev cX5_mayRun : ByteArray := prog_7_method_27_code
def yX5_mayRun : MethodName := ⟨RX5, "mayRun", "(I)Z"⟩
abbrev cX5_begin : ByteArray := prog_7_method_28_code
def yX5_begin : MethodName := ⟨RX5, "begin", "(II)V"⟩
abbrev cX5_digits : ByteArray := prog_7_method_29_code
def yX5_digits : MethodName := ⟨RX5, "digits", "(I)Z"⟩
abbrev cX5_brackets : ByteArray := prog_7_method_30_code
def yX5_brackets : MethodName := ⟨RX5, "brackets", "(I)Z"⟩
abbrev cX5_calculates : ByteArray := prog_7_method_31_code
def yX5_calculates : MethodName := ⟨RX5, "calculates", "(I)Z"⟩
abbrev cX5_moves : ByteArray := prog_7_method_32_code
def yX5_moves : MethodName := ⟨RX5, "moves", "(I)Z"⟩
abbrev cX5_stores : ByteArray := prog_7_method_33_code
def yX5_stores : MethodName := ⟨RX5, "stores", "(II)Z"⟩
abbrev cX5_tests : ByteArray := prog_7_method_34_code
def yX5_tests : MethodName := ⟨RX5, "tests", "(III)Z"⟩
abbrev cX5_compared : ByteArray := prog_7_method_35_code
def yX5_compared : MethodName := ⟨RX5, "compared", "()Z"⟩
abbrev cX5_runs : ByteArray := prog_7_method_36_code
def yX5_runs : MethodName := ⟨RX5, "runs", "(I)Z"⟩
abbrev cX5_isOne : ByteArray := prog_7_method_37_code
def yX5_isOne : MethodName := ⟨RX5, "isOne", "(IIIII)Z"⟩
abbrev cX5_command : ByteArray := prog_7_method_38_code
def yX5_command : MethodName := ⟨RX5, "command", "(I)Z"⟩
abbrev cX5_run : ByteArray := prog_7_method_39_code
def yX5_run : MethodName := ⟨RX5, "run", "(I)I"⟩
abbrev cX5_cost : ByteArray := prog_7_method_40_code
def yX5_cost : MethodName := ⟨RX5, "cost", "()I"⟩
abbrev cX5_prints : ByteArray := prog_7_method_41_code
def yX5_prints : MethodName := ⟨RX5, "prints", "()I"⟩
abbrev cX5_printed : ByteArray := prog_7_method_42_code
def yX5_printed : MethodName := ⟨RX5, "printed", "(I)J"⟩
abbrev cX5_places : ByteArray := prog_7_method_43_code
def yX5_places : MethodName := ⟨RX5, "places", "(I)I"⟩
abbrev cX5_depth : ByteArray := prog_7_method_44_code
def yX5_depth : MethodName := ⟨RX5, "depth", "()I"⟩
abbrev cX5_item : ByteArray := prog_7_method_45_code
def yX5_item : MethodName := ⟨RX5, "item", "(I)J"⟩
abbrev cX5_scale : ByteArray := prog_7_method_46_code
def yX5_scale : MethodName := ⟨RX5, "scale", "(I)I"⟩
abbrev cX5_held : ByteArray := prog_7_method_47_code
def yX5_held : MethodName := ⟨RX5, "held", "(I)I"⟩
abbrev cX5_precision : ByteArray := prog_7_method_48_code
def yX5_precision : MethodName := ⟨RX5, "precision", "()I"⟩
abbrev cX5_reset : ByteArray := prog_7_method_49_code
def yX5_reset : MethodName := ⟨RX5, "reset", "()V"⟩
def RJ13 : String := "java/lang/Long"
def TJ13 : u_T := fun k => match k with
  | _ => ("", "", "", false)
def tyJ13 : Nat → FieldType := fun k => match k with
  | _ => .int
abbrev wsJ130 : List Cond := u_ws RJ13 TJ13 0
theorem nmJ13 : ∀ a, a < 0 → ∀ b, b < 0 → a ≠ b → (TJ13 a).2.1 ≠ (TJ13 b).2.1 := by decide +kernel
theorem tyJ13_ok : ∀ k, k < 0 → parseFieldDescriptor (TJ13 k).2.2.1 = some (tyJ13 k) := by decide +kernel
abbrev cJ13_compare_74951 : ByteArray := prog_13_method_42_code
def yJ13_compare_74951 : MethodName := ⟨RJ13, "compare", "(JJ)I"⟩
def RJ9 : String := "java/lang/Math"
def TJ9 : u_T := fun k => match k with
  | _ => ("", "", "", false)
def tyJ9 : Nat → FieldType := fun k => match k with
  | _ => .int
abbrev wsJ90 : List Cond := u_ws RJ9 TJ9 0
theorem nmJ9 : ∀ a, a < 0 → ∀ b, b < 0 → a ≠ b → (TJ9 a).2.1 ≠ (TJ9 b).2.1 := by decide +kernel
theorem tyJ9_ok : ∀ k, k < 0 → parseFieldDescriptor (TJ9 k).2.2.1 = some (tyJ9 k) := by decide +kernel
abbrev cJ9_abs_067f4 : ByteArray := prog_14_method_61_code
def yJ9_abs_067f4 : MethodName := ⟨RJ9, "abs", "(J)J"⟩
abbrev cJ9_max_7cf53 : ByteArray := prog_14_method_65_code
def yJ9_max_7cf53 : MethodName := ⟨RJ9, "max", "(II)I"⟩
abbrev cJ9_min_7cf53 : ByteArray := prog_14_method_69_code
def yJ9_min_7cf53 : MethodName := ⟨RJ9, "min", "(II)I"⟩
def RJ0 : String := "java/lang/String"
def TJ0 : u_T := fun k => match k with
  | _ => ("", "", "", false)
def tyJ0 : Nat → FieldType := fun k => match k with
  | _ => .int
abbrev wsJ00 : List Cond := u_ws RJ0 TJ0 0
theorem nmJ0 : ∀ a, a < 0 → ∀ b, b < 0 → a ≠ b → (TJ0 a).2.1 ≠ (TJ0 b).2.1 := by decide +kernel
theorem tyJ0_ok : ∀ k, k < 0 → parseFieldDescriptor (TJ0 k).2.2.1 = some (tyJ0 k) := by decide +kernel
def RL : String := "DeskStackLaw"
abbrev cL_run : ByteArray := method_3_code
def yL_run : MethodName := ⟨RL, "run", "(LDeskStack;I[J)I"⟩
abbrev cL_law : ByteArray := code
def yL_law : MethodName := ⟨RL, "law", "([I)Z"⟩
def wsX0_powerOfTen : List Cond := .code yX0_powerOfTen cX0_powerOfTen 1 (some .long) :: ([.fieldLink RX0 78 "DeskStack$Decimal" "POWERS" "[J", .methodLink RX0 9 Lib.Math.max.name, .static Lib.Math.max.name, .initialized "java/lang/Math", .code Lib.Math.max.name Lib.Math.max.code 2 (some .int), .methodLink RX0 82 Lib.Math.min.name, .static Lib.Math.min.name, .code Lib.Math.min.name Lib.Math.min.code 2 (some .int)])
def wsX0_times : List Cond := .code yX0_times cX0_times 4 (some .long) :: ([.classLink RX0 36 "java/lang/UnsupportedOperationException", .initialized "java/lang/UnsupportedOperationException", .methodLink RX0 31 Lib.MathLoose.abs_long.x, .static Lib.MathLoose.abs_long.x, .initialized "java/lang/Math", .code Lib.MathLoose.abs_long.x Lib.MathLoose.abs_long.code 2 (some .long), .constantLong RX0 34 (999999999999999999)] ++ (vx_atS RX0 40 "java/lang/UnsupportedOperationException" ["java/lang/RuntimeException", "java/lang/Exception"]).filter goodWord)
def wsX0_raise : List Cond := .code yX0_raise cX0_raise 3 (some .long) :: ([.methodLink RX0 74 yX0_powerOfTen, .static yX0_powerOfTen, .initialized RX0, .code yX0_powerOfTen cX0_powerOfTen 1 (some .long), .fieldLink RX0 78 "DeskStack$Decimal" "POWERS" "[J", .methodLink RX0 9 Lib.Math.max.name, .static Lib.Math.max.name, .initialized "java/lang/Math", .code Lib.Math.max.name Lib.Math.max.code 2 (some .int), .methodLink RX0 82 Lib.Math.min.name, .static Lib.Math.min.name, .code Lib.Math.min.name Lib.Math.min.code 2 (some .int), .methodLink RX0 58 yX0_times, .static yX0_times, .code yX0_times cX0_times 4 (some .long), .classLink RX0 36 "java/lang/UnsupportedOperationException", .initialized "java/lang/UnsupportedOperationException", .methodLink RX0 31 Lib.MathLoose.abs_long.x, .static Lib.MathLoose.abs_long.x, .code Lib.MathLoose.abs_long.x Lib.MathLoose.abs_long.code 2 (some .long), .constantLong RX0 34 (999999999999999999)] ++ (vx_atS RX0 40 "java/lang/UnsupportedOperationException" ["java/lang/RuntimeException", "java/lang/Exception"]).filter goodWord)
def wsX0_fitting : List Cond := .code yX0_fitting cX0_fitting 2 (some .long) :: ([.classLink RX0 36 "java/lang/UnsupportedOperationException", .initialized "java/lang/UnsupportedOperationException", .methodLink RX0 31 Lib.MathLoose.abs_long.x, .static Lib.MathLoose.abs_long.x, .initialized "java/lang/Math", .code Lib.MathLoose.abs_long.x Lib.MathLoose.abs_long.code 2 (some .long), .constantLong RX0 34 (999999999999999999)] ++ (vx_atS RX0 40 "java/lang/UnsupportedOperationException" ["java/lang/RuntimeException", "java/lang/Exception"]).filter goodWord)
def wsX0_sum_r1 : List Cond := [Cond.methodLink RX0 9 Lib.Math.max.name, Cond.static Lib.Math.max.name, Cond.initialized "java/lang/Math", Cond.code Lib.Math.max.name Lib.Math.max.code 2 (some .int), Cond.methodLink RX0 15 yX0_raise, Cond.static yX0_raise, Cond.initialized RX0, Cond.code yX0_raise cX0_raise 3 (some .long), Cond.methodLink RX0 74 yX0_powerOfTen, Cond.static yX0_powerOfTen, Cond.code yX0_powerOfTen cX0_powerOfTen 1 (some .long), Cond.fieldLink RX0 78 "DeskStack$Decimal" "POWERS" "[J", Cond.methodLink RX0 82 Lib.Math.min.name, Cond.static Lib.Math.min.name, Cond.code Lib.Math.min.name Lib.Math.min.code 2 (some .int), Cond.methodLink RX0 58 yX0_times, Cond.static yX0_times, Cond.code yX0_times cX0_times 4 (some .long), Cond.classLink RX0 36 "java/lang/UnsupportedOperationException", Cond.initialized "java/lang/UnsupportedOperationException", Cond.methodLink RX0 31 Lib.MathLoose.abs_long.x, Cond.static Lib.MathLoose.abs_long.x, Cond.code Lib.MathLoose.abs_long.x Lib.MathLoose.abs_long.code 2 (some .long), Cond.constantLong RX0 34 (999999999999999999)]
def wsX0_sum_r2 : List Cond := [Cond.methodLink RX0 21 yX0_fitting, Cond.static yX0_fitting, Cond.code yX0_fitting cX0_fitting 2 (some .long)]
def wsX0_sum : List Cond := .code yX0_sum cX0_sum 7 (some .long) :: ((wsX0_sum_r1 ++ wsX0_sum_r2) ++ (vx_atS RX0 40 "java/lang/UnsupportedOperationException" ["java/lang/RuntimeException", "java/lang/Exception"]).filter goodWord)
def wsJ13_compare_74951 : List Cond := .code yJ13_compare_74951 cJ13_compare_74951 4 (some .int) :: ([])
def wsX0_order_r1 : List Cond := [Cond.methodLink RX0 9 Lib.Math.max.name, Cond.static Lib.Math.max.name, Cond.initialized "java/lang/Math", Cond.code Lib.Math.max.name Lib.Math.max.code 2 (some .int), Cond.methodLink RX0 15 yX0_raise, Cond.static yX0_raise, Cond.initialized RX0, Cond.code yX0_raise cX0_raise 3 (some .long), Cond.methodLink RX0 74 yX0_powerOfTen, Cond.static yX0_powerOfTen, Cond.code yX0_powerOfTen cX0_powerOfTen 1 (some .long), Cond.fieldLink RX0 78 "DeskStack$Decimal" "POWERS" "[J", Cond.methodLink RX0 82 Lib.Math.min.name, Cond.static Lib.Math.min.name, Cond.code Lib.Math.min.name Lib.Math.min.code 2 (some .int), Cond.methodLink RX0 58 yX0_times, Cond.static yX0_times, Cond.code yX0_times cX0_times 4 (some .long), Cond.classLink RX0 36 "java/lang/UnsupportedOperationException", Cond.initialized "java/lang/UnsupportedOperationException", Cond.methodLink RX0 31 Lib.MathLoose.abs_long.x, Cond.static Lib.MathLoose.abs_long.x, Cond.code Lib.MathLoose.abs_long.x Lib.MathLoose.abs_long.code 2 (some .long), Cond.constantLong RX0 34 (999999999999999999)]
def wsX0_order_r2 : List Cond := [Cond.methodLink RX0 25 yJ13_compare_74951, Cond.static yJ13_compare_74951, Cond.initialized RJ13, Cond.code yJ13_compare_74951 cJ13_compare_74951 4 (some .int)]
def wsX0_order : List Cond := .code yX0_order cX0_order 7 (some .int) :: ((wsX0_order_r1 ++ wsX0_order_r2) ++ (vx_atS RX0 40 "java/lang/UnsupportedOperationException" ["java/lang/RuntimeException", "java/lang/Exception"]).filter goodWord)
def wsX0_divide : List Cond := .code yX0_divide cX0_divide 4 (some .long) :: ([])
def wsX0_quotient_r1 : List Cond := [Cond.classLink RX0 43 "java/lang/ArithmeticException", Cond.initialized "java/lang/ArithmeticException", Cond.methodLink RX0 15 yX0_raise, Cond.static yX0_raise, Cond.initialized RX0, Cond.code yX0_raise cX0_raise 3 (some .long), Cond.methodLink RX0 74 yX0_powerOfTen, Cond.static yX0_powerOfTen, Cond.code yX0_powerOfTen cX0_powerOfTen 1 (some .long), Cond.fieldLink RX0 78 "DeskStack$Decimal" "POWERS" "[J", Cond.methodLink RX0 9 Lib.Math.max.name, Cond.static Lib.Math.max.name, Cond.initialized "java/lang/Math", Cond.code Lib.Math.max.name Lib.Math.max.code 2 (some .int), Cond.methodLink RX0 82 Lib.Math.min.name, Cond.static Lib.Math.min.name, Cond.code Lib.Math.min.name Lib.Math.min.code 2 (some .int), Cond.methodLink RX0 58 yX0_times, Cond.static yX0_times, Cond.code yX0_times cX0_times 4 (some .long), Cond.classLink RX0 36 "java/lang/UnsupportedOperationException", Cond.initialized "java/lang/UnsupportedOperationException", Cond.methodLink RX0 31 Lib.MathLoose.abs_long.x, Cond.static Lib.MathLoose.abs_long.x]
def wsX0_quotient_r2 : List Cond := [Cond.code Lib.MathLoose.abs_long.x Lib.MathLoose.abs_long.code 2 (some .long), Cond.constantLong RX0 34 (999999999999999999), Cond.methodLink RX0 48 yX0_divide, Cond.static yX0_divide, Cond.code yX0_divide cX0_divide 4 (some .long)]
def wsX0_quotient : List Cond := .code yX0_quotient cX0_quotient 8 (some .long) :: ((wsX0_quotient_r1 ++ wsX0_quotient_r2) ++ (vx_atS RX0 47 "java/lang/ArithmeticException" ["java/lang/RuntimeException", "java/lang/Exception"]).filter goodWord ++ (vx_atS RX0 40 "java/lang/UnsupportedOperationException" ["java/lang/RuntimeException", "java/lang/Exception"]).filter goodWord)
def wsX0_remainder_r1 : List Cond := [Cond.classLink RX0 36 "java/lang/UnsupportedOperationException", Cond.initialized "java/lang/UnsupportedOperationException", Cond.methodLink RX0 9 Lib.Math.max.name, Cond.static Lib.Math.max.name, Cond.initialized "java/lang/Math", Cond.code Lib.Math.max.name Lib.Math.max.code 2 (some .int), Cond.methodLink RX0 52 yX0_quotient, Cond.static yX0_quotient, Cond.initialized RX0, Cond.code yX0_quotient cX0_quotient 8 (some .long), Cond.classLink RX0 43 "java/lang/ArithmeticException", Cond.initialized "java/lang/ArithmeticException", Cond.methodLink RX0 15 yX0_raise, Cond.static yX0_raise, Cond.code yX0_raise cX0_raise 3 (some .long), Cond.methodLink RX0 74 yX0_powerOfTen, Cond.static yX0_powerOfTen, Cond.code yX0_powerOfTen cX0_powerOfTen 1 (some .long), Cond.fieldLink RX0 78 "DeskStack$Decimal" "POWERS" "[J", Cond.methodLink RX0 82 Lib.Math.min.name, Cond.static Lib.Math.min.name, Cond.code Lib.Math.min.name Lib.Math.min.code 2 (some .int), Cond.methodLink RX0 58 yX0_times, Cond.static yX0_times]
def wsX0_remainder_r2 : List Cond := [Cond.code yX0_times cX0_times 4 (some .long), Cond.methodLink RX0 31 Lib.MathLoose.abs_long.x, Cond.static Lib.MathLoose.abs_long.x, Cond.code Lib.MathLoose.abs_long.x Lib.MathLoose.abs_long.code 2 (some .long), Cond.constantLong RX0 34 (999999999999999999), Cond.methodLink RX0 48 yX0_divide, Cond.static yX0_divide, Cond.code yX0_divide cX0_divide 4 (some .long), Cond.methodLink RX0 21 yX0_fitting, Cond.static yX0_fitting, Cond.code yX0_fitting cX0_fitting 2 (some .long)]
def wsX0_remainder : List Cond := .code yX0_remainder cX0_remainder 13 (some .long) :: ((wsX0_remainder_r1 ++ wsX0_remainder_r2) ++ (vx_atS RX0 40 "java/lang/UnsupportedOperationException" ["java/lang/RuntimeException", "java/lang/Exception"]).filter goodWord ++ (vx_atS RX0 47 "java/lang/ArithmeticException" ["java/lang/RuntimeException", "java/lang/Exception"]).filter goodWord)
def wsX0_root_r1 : List Cond := [Cond.classLink RX0 43 "java/lang/ArithmeticException", Cond.initialized "java/lang/ArithmeticException", Cond.constantLong RX0 63 (999999999), Cond.constantLong RX0 65 (2), Cond.methodLink RX0 15 yX0_raise, Cond.static yX0_raise, Cond.initialized RX0, Cond.code yX0_raise cX0_raise 3 (some .long), Cond.methodLink RX0 74 yX0_powerOfTen, Cond.static yX0_powerOfTen, Cond.code yX0_powerOfTen cX0_powerOfTen 1 (some .long), Cond.fieldLink RX0 78 "DeskStack$Decimal" "POWERS" "[J", Cond.methodLink RX0 9 Lib.Math.max.name, Cond.static Lib.Math.max.name, Cond.initialized "java/lang/Math", Cond.code Lib.Math.max.name Lib.Math.max.code 2 (some .int), Cond.methodLink RX0 82 Lib.Math.min.name, Cond.static Lib.Math.min.name, Cond.code Lib.Math.min.name Lib.Math.min.code 2 (some .int), Cond.methodLink RX0 58 yX0_times, Cond.static yX0_times, Cond.code yX0_times cX0_times 4 (some .long), Cond.classLink RX0 36 "java/lang/UnsupportedOperationException", Cond.initialized "java/lang/UnsupportedOperationException"]
def wsX0_root_r2 : List Cond := [Cond.methodLink RX0 31 Lib.MathLoose.abs_long.x, Cond.static Lib.MathLoose.abs_long.x, Cond.code Lib.MathLoose.abs_long.x Lib.MathLoose.abs_long.code 2 (some .long), Cond.constantLong RX0 34 (999999999999999999)]
def wsX0_root : List Cond := .code yX0_root cX0_root 13 (some .long) :: ((wsX0_root_r1 ++ wsX0_root_r2) ++ (vx_atS RX0 47 "java/lang/ArithmeticException" ["java/lang/RuntimeException", "java/lang/Exception"]).filter goodWord ++ (vx_atS RX0 40 "java/lang/UnsupportedOperationException" ["java/lang/RuntimeException", "java/lang/Exception"]).filter goodWord)
def wsX0_cutOff : List Cond := .code yX0_cutOff cX0_cutOff 3 (some .long) :: ([.methodLink RX0 74 yX0_powerOfTen, .static yX0_powerOfTen, .initialized RX0, .code yX0_powerOfTen cX0_powerOfTen 1 (some .long), .fieldLink RX0 78 "DeskStack$Decimal" "POWERS" "[J", .methodLink RX0 9 Lib.Math.max.name, .static Lib.Math.max.name, .initialized "java/lang/Math", .code Lib.Math.max.name Lib.Math.max.code 2 (some .int), .methodLink RX0 82 Lib.Math.min.name, .static Lib.Math.min.name, .code Lib.Math.min.name Lib.Math.min.code 2 (some .int), .methodLink RX0 48 yX0_divide, .static yX0_divide, .code yX0_divide cX0_divide 4 (some .long)])
def wsX0_asPlaces_r1 : List Cond := [Cond.classLink RX0 43 "java/lang/ArithmeticException", Cond.initialized "java/lang/ArithmeticException", Cond.constantLong RX0 70 (9), Cond.methodLink RX0 67 yX0_cutOff, Cond.static yX0_cutOff, Cond.initialized RX0, Cond.code yX0_cutOff cX0_cutOff 3 (some .long), Cond.methodLink RX0 74 yX0_powerOfTen, Cond.static yX0_powerOfTen, Cond.code yX0_powerOfTen cX0_powerOfTen 1 (some .long), Cond.fieldLink RX0 78 "DeskStack$Decimal" "POWERS" "[J", Cond.methodLink RX0 9 Lib.Math.max.name, Cond.static Lib.Math.max.name, Cond.initialized "java/lang/Math", Cond.code Lib.Math.max.name Lib.Math.max.code 2 (some .int), Cond.methodLink RX0 82 Lib.Math.min.name, Cond.static Lib.Math.min.name, Cond.code Lib.Math.min.name Lib.Math.min.code 2 (some .int), Cond.methodLink RX0 48 yX0_divide, Cond.static yX0_divide, Cond.code yX0_divide cX0_divide 4 (some .long), Cond.methodLink RX0 15 yX0_raise, Cond.static yX0_raise, Cond.code yX0_raise cX0_raise 3 (some .long)]
def wsX0_asPlaces_r2 : List Cond := [Cond.methodLink RX0 58 yX0_times, Cond.static yX0_times, Cond.code yX0_times cX0_times 4 (some .long), Cond.classLink RX0 36 "java/lang/UnsupportedOperationException", Cond.initialized "java/lang/UnsupportedOperationException", Cond.methodLink RX0 31 Lib.MathLoose.abs_long.x, Cond.static Lib.MathLoose.abs_long.x, Cond.code Lib.MathLoose.abs_long.x Lib.MathLoose.abs_long.code 2 (some .long), Cond.constantLong RX0 34 (999999999999999999)]
def wsX0_asPlaces : List Cond := .code yX0_asPlaces cX0_asPlaces 5 (some .int) :: ((wsX0_asPlaces_r1 ++ wsX0_asPlaces_r2) ++ (vx_atS RX0 47 "java/lang/ArithmeticException" ["java/lang/RuntimeException", "java/lang/Exception"]).filter goodWord ++ (vx_atS RX0 40 "java/lang/UnsupportedOperationException" ["java/lang/RuntimeException", "java/lang/Exception"]).filter goodWord)
def wsX1_init : List Cond := .code yX1_init cX1_init 1 none :: ([.methodLink RX1 3 objectInit, .instanceMethod objectInit, .code objectInit ⟨#[0xb1]⟩ 1 none, .classLink RX1 9 RX2, .fieldLink RX1 11 "DeskStack$Nest" "rows" "[LDeskStack$Row;", .arrayClass .int, .fieldLink RX1 17 "DeskStack$Nest" "positions" "[I", .fieldLink RX1 21 "DeskStack$Nest" "ends" "[I", .fieldLink RX1 24 "DeskStack$Nest" "count" "I"] ++ wsX10)
def wsX1_isUnderWay : List Cond := .code yX1_isUnderWay cX1_isUnderWay 1 (some .boolean) :: ([.fieldLink RX1 24 "DeskStack$Nest" "count" "I", .fieldLink RX1 11 "DeskStack$Nest" "rows" "[LDeskStack$Row;"] ++ wsX10)
def wsX1_enter : List Cond := .code yX1_enter cX1_enter 4 none :: ([.classLink RX1 28 "java/lang/UnsupportedOperationException", .initialized "java/lang/UnsupportedOperationException", .fieldLink RX1 24 "DeskStack$Nest" "count" "I", .fieldLink RX1 11 "DeskStack$Nest" "rows" "[LDeskStack$Row;", .fieldLink RX1 17 "DeskStack$Nest" "positions" "[I", .fieldLink RX1 21 "DeskStack$Nest" "ends" "[I"] ++ wsX10 ++ (vx_atS RX1 32 "java/lang/UnsupportedOperationException" ["java/lang/RuntimeException", "java/lang/Exception"]).filter goodWord)
def wsX2_charAt : List Cond := .code yX2_charAt cX2_charAt 2 (some .int) :: ([.fieldLink RX2 15 "DeskStack$Row" "size" "I", .fieldLink RX2 9 "DeskStack$Row" "chars" "[B"] ++ wsX20)
def wsX1_look : List Cond := .code yX1_look cX1_look 2 (some .int) :: ([.fieldLink RX1 17 "DeskStack$Nest" "positions" "[I", .fieldLink RX1 24 "DeskStack$Nest" "count" "I", .fieldLink RX1 21 "DeskStack$Nest" "ends" "[I", .fieldLink RX1 11 "DeskStack$Nest" "rows" "[LDeskStack$Row;", .methodLink RX1 55 yX1_isUnderWay, .instanceMethod yX1_isUnderWay, .selects RX1 yX1_isUnderWay yX1_isUnderWay, .initialized RX1, .code yX1_isUnderWay cX1_isUnderWay 1 (some .boolean), .methodLink RX1 59 yX2_charAt, .instanceMethod yX2_charAt, .selects RX2 yX2_charAt yX2_charAt, .initialized RX2, .code yX2_charAt cX2_charAt 2 (some .int), .fieldLink RX2 15 "DeskStack$Row" "size" "I", .fieldLink RX2 9 "DeskStack$Row" "chars" "[B"] ++ wsX10 ++ wsX20)
def wsX1_pass : List Cond := .code yX1_pass cX1_pass 1 none :: ([.fieldLink RX1 17 "DeskStack$Nest" "positions" "[I", .fieldLink RX1 24 "DeskStack$Nest" "count" "I", .methodLink RX1 55 yX1_isUnderWay, .instanceMethod yX1_isUnderWay, .selects RX1 yX1_isUnderWay yX1_isUnderWay, .initialized RX1, .code yX1_isUnderWay cX1_isUnderWay 1 (some .boolean), .fieldLink RX1 11 "DeskStack$Nest" "rows" "[LDeskStack$Row;"] ++ wsX10)
def wsX1_skipBlanks : List Cond := .code yX1_skipBlanks cX1_skipBlanks 2 none :: ([.methodLink RX1 38 yX1_look, .instanceMethod yX1_look, .selects RX1 yX1_look yX1_look, .initialized RX1, .code yX1_look cX1_look 2 (some .int), .fieldLink RX1 17 "DeskStack$Nest" "positions" "[I", .fieldLink RX1 24 "DeskStack$Nest" "count" "I", .fieldLink RX1 21 "DeskStack$Nest" "ends" "[I", .fieldLink RX1 11 "DeskStack$Nest" "rows" "[LDeskStack$Row;", .methodLink RX1 55 yX1_isUnderWay, .instanceMethod yX1_isUnderWay, .selects RX1 yX1_isUnderWay yX1_isUnderWay, .code yX1_isUnderWay cX1_isUnderWay 1 (some .boolean), .methodLink RX1 59 yX2_charAt, .instanceMethod yX2_charAt, .selects RX2 yX2_charAt yX2_charAt, .initialized RX2, .code yX2_charAt cX2_charAt 2 (some .int), .fieldLink RX2 15 "DeskStack$Row" "size" "I", .fieldLink RX2 9 "DeskStack$Row" "chars" "[B", .methodLink RX1 63 yX1_pass, .instanceMethod yX1_pass, .selects RX1 yX1_pass yX1_pass, .code yX1_pass cX1_pass 1 none] ++ wsX10 ++ wsX20)
def wsX1_leave : List Cond := .code yX1_leave cX1_leave 1 none :: ([.fieldLink RX1 24 "DeskStack$Nest" "count" "I", .methodLink RX1 49 Lib.Math.max.name, .static Lib.Math.max.name, .initialized "java/lang/Math", .code Lib.Math.max.name Lib.Math.max.code 2 (some .int)] ++ wsX10)
def wsX1_enterMacro_r1 : List Cond := [Cond.methodLink RX1 35 yX1_skipBlanks, Cond.instanceMethod yX1_skipBlanks, Cond.selects RX1 yX1_skipBlanks yX1_skipBlanks, Cond.initialized RX1, Cond.code yX1_skipBlanks cX1_skipBlanks 2 none, Cond.methodLink RX1 38 yX1_look, Cond.instanceMethod yX1_look, Cond.selects RX1 yX1_look yX1_look, Cond.code yX1_look cX1_look 2 (some .int), Cond.fieldLink RX1 17 "DeskStack$Nest" "positions" "[I", Cond.fieldLink RX1 24 "DeskStack$Nest" "count" "I", Cond.fieldLink RX1 21 "DeskStack$Nest" "ends" "[I", Cond.fieldLink RX1 11 "DeskStack$Nest" "rows" "[LDeskStack$Row;", Cond.methodLink RX1 55 yX1_isUnderWay, Cond.instanceMethod yX1_isUnderWay, Cond.selects RX1 yX1_isUnderWay yX1_isUnderWay, Cond.code yX1_isUnderWay cX1_isUnderWay 1 (some .boolean), Cond.methodLink RX1 59 yX2_charAt, Cond.instanceMethod yX2_charAt, Cond.selects RX2 yX2_charAt yX2_charAt, Cond.initialized RX2, Cond.code yX2_charAt cX2_charAt 2 (some .int), Cond.fieldLink RX2 15 "DeskStack$Row" "size" "I", Cond.fieldLink RX2 9 "DeskStack$Row" "chars" "[B"]
def wsX1_enterMacro_r2 : List Cond := [Cond.methodLink RX1 63 yX1_pass, Cond.instanceMethod yX1_pass, Cond.selects RX1 yX1_pass yX1_pass, Cond.code yX1_pass cX1_pass 1 none, Cond.methodLink RX1 42 yX1_leave, Cond.instanceMethod yX1_leave, Cond.selects RX1 yX1_leave yX1_leave, Cond.code yX1_leave cX1_leave 1 none, Cond.methodLink RX1 49 Lib.Math.max.name, Cond.static Lib.Math.max.name, Cond.initialized "java/lang/Math", Cond.code Lib.Math.max.name Lib.Math.max.code 2 (some .int), Cond.methodLink RX1 45 yX1_enter, Cond.instanceMethod yX1_enter, Cond.selects RX1 yX1_enter yX1_enter, Cond.code yX1_enter cX1_enter 4 none, Cond.classLink RX1 28 "java/lang/UnsupportedOperationException", Cond.initialized "java/lang/UnsupportedOperationException"]
def wsX1_enterMacro : List Cond := .code yX1_enterMacro cX1_enterMacro 4 none :: ((wsX1_enterMacro_r1 ++ wsX1_enterMacro_r2) ++ wsX10 ++ wsX20 ++ (vx_atS RX1 32 "java/lang/UnsupportedOperationException" ["java/lang/RuntimeException", "java/lang/Exception"]).filter goodWord)
def wsX1_leaveAll : List Cond := .code yX1_leaveAll cX1_leaveAll 1 none :: ([.fieldLink RX1 24 "DeskStack$Nest" "count" "I"] ++ wsX10)
def wsX1_innermostRow : List Cond := .code yX1_innermostRow cX1_innermostRow 1 (some (.object "DeskStack$Row")) :: ([.fieldLink RX1 11 "DeskStack$Nest" "rows" "[LDeskStack$Row;", .fieldLink RX1 24 "DeskStack$Nest" "count" "I", .methodLink RX1 55 yX1_isUnderWay, .instanceMethod yX1_isUnderWay, .selects RX1 yX1_isUnderWay yX1_isUnderWay, .initialized RX1, .code yX1_isUnderWay cX1_isUnderWay 1 (some .boolean)] ++ wsX10)
def wsX1_position : List Cond := .code yX1_position cX1_position 1 (some .int) :: ([.fieldLink RX1 17 "DeskStack$Nest" "positions" "[I", .fieldLink RX1 24 "DeskStack$Nest" "count" "I", .methodLink RX1 55 yX1_isUnderWay, .instanceMethod yX1_isUnderWay, .selects RX1 yX1_isUnderWay yX1_isUnderWay, .initialized RX1, .code yX1_isUnderWay cX1_isUnderWay 1 (some .boolean), .fieldLink RX1 11 "DeskStack$Nest" "rows" "[LDeskStack$Row;"] ++ wsX10)
def wsX2_init : List Cond := .code yX2_init cX2_init 1 none :: ([.methodLink RX2 3 objectInit, .instanceMethod objectInit, .code objectInit ⟨#[0xb1]⟩ 1 none, .arrayClass .byte, .fieldLink RX2 9 "DeskStack$Row" "chars" "[B", .fieldLink RX2 15 "DeskStack$Row" "size" "I"] ++ wsX20)
def wsX2_append : List Cond := .code yX2_append cX2_append 2 none :: ([.fieldLink RX2 15 "DeskStack$Row" "size" "I", .fieldLink RX2 9 "DeskStack$Row" "chars" "[B"] ++ wsX20)
def wsX3_init : List Cond := .code yX3_init cX3_init 3 none :: ([.methodLink RX3 3 objectInit, .instanceMethod objectInit, .code objectInit ⟨#[0xb1]⟩ 1 none, .arrayClass .long, .fieldLink RX3 9 "DeskStack$Shelf" "values" "[J", .arrayClass .int, .fieldLink RX3 15 "DeskStack$Shelf" "places" "[I", .classLink RX3 19 RX2, .fieldLink RX3 21 "DeskStack$Shelf" "rows" "[LDeskStack$Row;", .fieldLink RX3 25 "DeskStack$Shelf" "starts" "[I", .fieldLink RX3 28 "DeskStack$Shelf" "count" "I"] ++ wsX30)
def wsX3_isFull : List Cond := .code yX3_isFull cX3_isFull 1 (some .boolean) :: ([.fieldLink RX3 28 "DeskStack$Shelf" "count" "I", .fieldLink RX3 9 "DeskStack$Shelf" "values" "[J"] ++ wsX30)
def wsX3_has : List Cond := .code yX3_has cX3_has 2 (some .boolean) :: ([.fieldLink RX3 28 "DeskStack$Shelf" "count" "I", .fieldLink RX3 9 "DeskStack$Shelf" "values" "[J"] ++ wsX30)
def wsX3_slotBelowTop : List Cond := .code yX3_slotBelowTop cX3_slotBelowTop 2 (some .int) :: ([.fieldLink RX3 28 "DeskStack$Shelf" "count" "I"] ++ wsX30)
def wsX3_valueAt : List Cond := .code yX3_valueAt cX3_valueAt 2 (some .long) :: ([.fieldLink RX3 9 "DeskStack$Shelf" "values" "[J", .methodLink RX3 32 yX3_has, .instanceMethod yX3_has, .selects RX3 yX3_has yX3_has, .initialized RX3, .code yX3_has cX3_has 2 (some .boolean), .fieldLink RX3 28 "DeskStack$Shelf" "count" "I"] ++ wsX30)
def wsX3_placesAt : List Cond := .code yX3_placesAt cX3_placesAt 2 (some .int) :: ([.fieldLink RX3 15 "DeskStack$Shelf" "places" "[I", .methodLink RX3 32 yX3_has, .instanceMethod yX3_has, .selects RX3 yX3_has yX3_has, .initialized RX3, .code yX3_has cX3_has 2 (some .boolean), .fieldLink RX3 28 "DeskStack$Shelf" "count" "I", .fieldLink RX3 9 "DeskStack$Shelf" "values" "[J"] ++ wsX30)
def wsX3_rowAt : List Cond := .code yX3_rowAt cX3_rowAt 2 (some (.object "DeskStack$Row")) :: ([.fieldLink RX3 21 "DeskStack$Shelf" "rows" "[LDeskStack$Row;", .methodLink RX3 32 yX3_has, .instanceMethod yX3_has, .selects RX3 yX3_has yX3_has, .initialized RX3, .code yX3_has cX3_has 2 (some .boolean), .fieldLink RX3 28 "DeskStack$Shelf" "count" "I", .fieldLink RX3 9 "DeskStack$Shelf" "values" "[J"] ++ wsX30)
def wsX3_startAt : List Cond := .code yX3_startAt cX3_startAt 2 (some .int) :: ([.fieldLink RX3 25 "DeskStack$Shelf" "starts" "[I", .methodLink RX3 32 yX3_has, .instanceMethod yX3_has, .selects RX3 yX3_has yX3_has, .initialized RX3, .code yX3_has cX3_has 2 (some .boolean), .fieldLink RX3 28 "DeskStack$Shelf" "count" "I", .fieldLink RX3 9 "DeskStack$Shelf" "values" "[J"] ++ wsX30)
def wsX3_set : List Cond := .code yX3_set cX3_set 7 none :: ([.fieldLink RX3 9 "DeskStack$Shelf" "values" "[J", .fieldLink RX3 15 "DeskStack$Shelf" "places" "[I", .fieldLink RX3 21 "DeskStack$Shelf" "rows" "[LDeskStack$Row;", .fieldLink RX3 25 "DeskStack$Shelf" "starts" "[I", .methodLink RX3 32 yX3_has, .instanceMethod yX3_has, .selects RX3 yX3_has yX3_has, .initialized RX3, .code yX3_has cX3_has 2 (some .boolean), .fieldLink RX3 28 "DeskStack$Shelf" "count" "I"] ++ wsX30)
def wsX3_put : List Cond := .code yX3_put cX3_put 6 none :: ([.classLink RX3 62 "java/lang/UnsupportedOperationException", .initialized "java/lang/UnsupportedOperationException", .fieldLink RX3 28 "DeskStack$Shelf" "count" "I", .methodLink RX3 58 yX3_isFull, .instanceMethod yX3_isFull, .selects RX3 yX3_isFull yX3_isFull, .initialized RX3, .code yX3_isFull cX3_isFull 1 (some .boolean), .fieldLink RX3 9 "DeskStack$Shelf" "values" "[J", .methodLink RX3 69 yX3_set, .instanceMethod yX3_set, .selects RX3 yX3_set yX3_set, .code yX3_set cX3_set 7 none, .fieldLink RX3 15 "DeskStack$Shelf" "places" "[I", .fieldLink RX3 21 "DeskStack$Shelf" "rows" "[LDeskStack$Row;", .fieldLink RX3 25 "DeskStack$Shelf" "starts" "[I", .methodLink RX3 32 yX3_has, .instanceMethod yX3_has, .selects RX3 yX3_has yX3_has, .code yX3_has cX3_has 2 (some .boolean)] ++ wsX30 ++ (vx_atS RX3 66 "java/lang/UnsupportedOperationException" ["java/lang/RuntimeException", "java/lang/Exception"]).filter goodWord)
def wsX3_putNumber : List Cond := .code yX3_putNumber cX3_putNumber 4 none :: ([.methodLink RX3 36 yX3_put, .instanceMethod yX3_put, .selects RX3 yX3_put yX3_put, .initialized RX3, .code yX3_put cX3_put 6 none, .classLink RX3 62 "java/lang/UnsupportedOperationException", .initialized "java/lang/UnsupportedOperationException", .fieldLink RX3 28 "DeskStack$Shelf" "count" "I", .methodLink RX3 58 yX3_isFull, .instanceMethod yX3_isFull, .selects RX3 yX3_isFull yX3_isFull, .code yX3_isFull cX3_isFull 1 (some .boolean), .fieldLink RX3 9 "DeskStack$Shelf" "values" "[J", .methodLink RX3 69 yX3_set, .instanceMethod yX3_set, .selects RX3 yX3_set yX3_set, .code yX3_set cX3_set 7 none, .fieldLink RX3 15 "DeskStack$Shelf" "places" "[I", .fieldLink RX3 21 "DeskStack$Shelf" "rows" "[LDeskStack$Row;", .fieldLink RX3 25 "DeskStack$Shelf" "starts" "[I", .methodLink RX3 32 yX3_has, .instanceMethod yX3_has, .selects RX3 yX3_has yX3_has, .code yX3_has cX3_has 2 (some .boolean)] ++ wsX30 ++ (vx_atS RX3 66 "java/lang/UnsupportedOperationException" ["java/lang/RuntimeException", "java/lang/Exception"]).filter goodWord)
def wsX3_putText : List Cond := .code yX3_putText cX3_putText 4 none :: ([.methodLink RX3 36 yX3_put, .instanceMethod yX3_put, .selects RX3 yX3_put yX3_put, .initialized RX3, .code yX3_put cX3_put 6 none, .classLink RX3 62 "java/lang/UnsupportedOperationException", .initialized "java/lang/UnsupportedOperationException", .fieldLink RX3 28 "DeskStack$Shelf" "count" "I", .methodLink RX3 58 yX3_isFull, .instanceMethod yX3_isFull, .selects RX3 yX3_isFull yX3_isFull, .code yX3_isFull cX3_isFull 1 (some .boolean), .fieldLink RX3 9 "DeskStack$Shelf" "values" "[J", .methodLink RX3 69 yX3_set, .instanceMethod yX3_set, .selects RX3 yX3_set yX3_set, .code yX3_set cX3_set 7 none, .fieldLink RX3 15 "DeskStack$Shelf" "places" "[I", .fieldLink RX3 21 "DeskStack$Shelf" "rows" "[LDeskStack$Row;", .fieldLink RX3 25 "DeskStack$Shelf" "starts" "[I", .methodLink RX3 32 yX3_has, .instanceMethod yX3_has, .selects RX3 yX3_has yX3_has, .code yX3_has cX3_has 2 (some .boolean)] ++ wsX30 ++ (vx_atS RX3 66 "java/lang/UnsupportedOperationException" ["java/lang/RuntimeException", "java/lang/Exception"]).filter goodWord)
def wsX3_putTopOf_r1 : List Cond := [Cond.methodLink RX3 40 yX3_slotBelowTop, Cond.instanceMethod yX3_slotBelowTop, Cond.selects RX3 yX3_slotBelowTop yX3_slotBelowTop, Cond.initialized RX3, Cond.code yX3_slotBelowTop cX3_slotBelowTop 2 (some .int), Cond.fieldLink RX3 28 "DeskStack$Shelf" "count" "I", Cond.methodLink RX3 44 yX3_valueAt, Cond.instanceMethod yX3_valueAt, Cond.selects RX3 yX3_valueAt yX3_valueAt, Cond.code yX3_valueAt cX3_valueAt 2 (some .long), Cond.fieldLink RX3 9 "DeskStack$Shelf" "values" "[J", Cond.methodLink RX3 32 yX3_has, Cond.instanceMethod yX3_has, Cond.selects RX3 yX3_has yX3_has, Cond.code yX3_has cX3_has 2 (some .boolean), Cond.methodLink RX3 48 yX3_placesAt, Cond.instanceMethod yX3_placesAt, Cond.selects RX3 yX3_placesAt yX3_placesAt, Cond.code yX3_placesAt cX3_placesAt 2 (some .int), Cond.fieldLink RX3 15 "DeskStack$Shelf" "places" "[I", Cond.methodLink RX3 51 yX3_rowAt, Cond.instanceMethod yX3_rowAt, Cond.selects RX3 yX3_rowAt yX3_rowAt, Cond.code yX3_rowAt cX3_rowAt 2 (some (.object "DeskStack$Row"))]
def wsX3_putTopOf_r2 : List Cond := [Cond.fieldLink RX3 21 "DeskStack$Shelf" "rows" "[LDeskStack$Row;", Cond.methodLink RX3 55 yX3_startAt, Cond.instanceMethod yX3_startAt, Cond.selects RX3 yX3_startAt yX3_startAt, Cond.code yX3_startAt cX3_startAt 2 (some .int), Cond.fieldLink RX3 25 "DeskStack$Shelf" "starts" "[I", Cond.methodLink RX3 36 yX3_put, Cond.instanceMethod yX3_put, Cond.selects RX3 yX3_put yX3_put, Cond.code yX3_put cX3_put 6 none, Cond.classLink RX3 62 "java/lang/UnsupportedOperationException", Cond.initialized "java/lang/UnsupportedOperationException", Cond.methodLink RX3 58 yX3_isFull, Cond.instanceMethod yX3_isFull, Cond.selects RX3 yX3_isFull yX3_isFull, Cond.code yX3_isFull cX3_isFull 1 (some .boolean), Cond.methodLink RX3 69 yX3_set, Cond.instanceMethod yX3_set, Cond.selects RX3 yX3_set yX3_set, Cond.code yX3_set cX3_set 7 none]
def wsX3_putTopOf : List Cond := .code yX3_putTopOf cX3_putTopOf 3 none :: ((wsX3_putTopOf_r1 ++ wsX3_putTopOf_r2) ++ wsX30 ++ (vx_atS RX3 66 "java/lang/UnsupportedOperationException" ["java/lang/RuntimeException", "java/lang/Exception"]).filter goodWord)
def wsX3_swapTopTwo_r1 : List Cond := [Cond.methodLink RX3 40 yX3_slotBelowTop, Cond.instanceMethod yX3_slotBelowTop, Cond.selects RX3 yX3_slotBelowTop yX3_slotBelowTop, Cond.initialized RX3, Cond.code yX3_slotBelowTop cX3_slotBelowTop 2 (some .int), Cond.fieldLink RX3 28 "DeskStack$Shelf" "count" "I", Cond.methodLink RX3 44 yX3_valueAt, Cond.instanceMethod yX3_valueAt, Cond.selects RX3 yX3_valueAt yX3_valueAt, Cond.code yX3_valueAt cX3_valueAt 2 (some .long), Cond.fieldLink RX3 9 "DeskStack$Shelf" "values" "[J", Cond.methodLink RX3 32 yX3_has, Cond.instanceMethod yX3_has, Cond.selects RX3 yX3_has yX3_has, Cond.code yX3_has cX3_has 2 (some .boolean), Cond.methodLink RX3 48 yX3_placesAt, Cond.instanceMethod yX3_placesAt, Cond.selects RX3 yX3_placesAt yX3_placesAt, Cond.code yX3_placesAt cX3_placesAt 2 (some .int), Cond.fieldLink RX3 15 "DeskStack$Shelf" "places" "[I", Cond.methodLink RX3 51 yX3_rowAt, Cond.instanceMethod yX3_rowAt, Cond.selects RX3 yX3_rowAt yX3_rowAt, Cond.code yX3_rowAt cX3_rowAt 2 (some (.object "DeskStack$Row"))]
def wsX3_swapTopTwo_r2 : List Cond := [Cond.fieldLink RX3 21 "DeskStack$Shelf" "rows" "[LDeskStack$Row;", Cond.methodLink RX3 55 yX3_startAt, Cond.instanceMethod yX3_startAt, Cond.selects RX3 yX3_startAt yX3_startAt, Cond.code yX3_startAt cX3_startAt 2 (some .int), Cond.fieldLink RX3 25 "DeskStack$Shelf" "starts" "[I", Cond.methodLink RX3 69 yX3_set, Cond.instanceMethod yX3_set, Cond.selects RX3 yX3_set yX3_set, Cond.code yX3_set cX3_set 7 none]
def wsX3_swapTopTwo : List Cond := .code yX3_swapTopTwo cX3_swapTopTwo 8 none :: ((wsX3_swapTopTwo_r1 ++ wsX3_swapTopTwo_r2) ++ wsX30)
def wsX3_drop : List Cond := .code yX3_drop cX3_drop 2 none :: ([.fieldLink RX3 28 "DeskStack$Shelf" "count" "I", .methodLink RX3 73 Lib.Math.max.name, .static Lib.Math.max.name, .initialized "java/lang/Math", .code Lib.Math.max.name Lib.Math.max.code 2 (some .int)] ++ wsX30)
def wsX3_clear : List Cond := .code yX3_clear cX3_clear 1 none :: ([.fieldLink RX3 28 "DeskStack$Shelf" "count" "I"] ++ wsX30)
def wsX4_init_r1 : List Cond := [Cond.methodLink RX4 1 objectInit, Cond.instanceMethod objectInit, Cond.code objectInit ⟨#[0xb1]⟩ 1 none, Cond.classLink RX4 7 RX3, Cond.instantiable RX3 5, Cond.initialized RX3, Cond.fieldLink RX4 14 "DeskStack" "stack" "LDeskStack$Shelf;", Cond.fieldLink RX4 18 "DeskStack" "registers" "[LDeskStack$Shelf;", Cond.fieldLink RX4 22 "DeskStack" "printer" "LDeskStack$Shelf;", Cond.classLink RX4 25 RX1, Cond.instantiable RX1 4, Cond.initialized RX1, Cond.fieldLink RX4 28 "DeskStack" "texts" "LDeskStack$Nest;", Cond.classLink RX4 32 RX2, Cond.instantiable RX2 2, Cond.initialized RX2, Cond.fieldLink RX4 35 "DeskStack" "program" "LDeskStack$Row;", Cond.fieldLink RX4 39 "DeskStack" "keptPlaces" "I", Cond.fieldLink RX4 43 "DeskStack" "commandsDone" "I", Cond.methodLink RX4 11 yX3_init, Cond.instanceMethod yX3_init, Cond.code yX3_init cX3_init 3 none, Cond.methodLink RX3 3 objectInit, Cond.arrayClass .long]
def wsX4_init_r2 : List Cond := [Cond.fieldLink RX3 9 "DeskStack$Shelf" "values" "[J", Cond.arrayClass .int, Cond.fieldLink RX3 15 "DeskStack$Shelf" "places" "[I", Cond.classLink RX3 19 RX2, Cond.fieldLink RX3 21 "DeskStack$Shelf" "rows" "[LDeskStack$Row;", Cond.fieldLink RX3 25 "DeskStack$Shelf" "starts" "[I", Cond.fieldLink RX3 28 "DeskStack$Shelf" "count" "I", Cond.methodLink RX4 27 yX1_init, Cond.instanceMethod yX1_init, Cond.code yX1_init cX1_init 1 none, Cond.methodLink RX1 3 objectInit, Cond.classLink RX1 9 RX2, Cond.fieldLink RX1 11 "DeskStack$Nest" "rows" "[LDeskStack$Row;", Cond.fieldLink RX1 17 "DeskStack$Nest" "positions" "[I", Cond.fieldLink RX1 21 "DeskStack$Nest" "ends" "[I", Cond.fieldLink RX1 24 "DeskStack$Nest" "count" "I", Cond.methodLink RX4 34 yX2_init, Cond.instanceMethod yX2_init, Cond.code yX2_init cX2_init 1 none, Cond.methodLink RX2 3 objectInit, Cond.arrayClass .byte, Cond.fieldLink RX2 9 "DeskStack$Row" "chars" "[B", Cond.fieldLink RX2 15 "DeskStack$Row" "size" "I"]
def wsX4_init : List Cond := .code yX4_init cX4_init 2 none :: ((wsX4_init_r1 ++ wsX4_init_r2) ++ wsX30 ++ wsX40 ++ wsX10 ++ wsX20)
def wsX4_charOf : List Cond := .code yX4_charOf cX4_charOf 3 (some .int) :: ([])
def wsX4_write : List Cond := .code yX4_write cX4_write 5 (some .int) :: ([.fieldLink RX4 35 "DeskStack" "program" "LDeskStack$Row;", .fieldLink RX4 50 "DeskStack$Row" "size" "I", .methodLink RX4 46 yX4_charOf, .static yX4_charOf, .initialized RX4, .code yX4_charOf cX4_charOf 3 (some .int), .methodLink RX4 53 yX2_append, .instanceMethod yX2_append, .selects RX2 yX2_append yX2_append, .initialized RX2, .code yX2_append cX2_append 2 none, .fieldLink RX2 15 "DeskStack$Row" "size" "I", .fieldLink RX2 9 "DeskStack$Row" "chars" "[B"] ++ wsX40 ++ wsX20)
def wsX4_erase : List Cond := .code yX4_erase cX4_erase 2 (some .int) :: ([.fieldLink RX4 35 "DeskStack" "program" "LDeskStack$Row;", .fieldLink RX4 50 "DeskStack$Row" "size" "I", .classLink RX4 32 RX2, .instantiable RX2 2, .initialized RX2, .methodLink RX4 34 yX2_init, .instanceMethod yX2_init, .code yX2_init cX2_init 1 none, .methodLink RX2 3 objectInit, .instanceMethod objectInit, .code objectInit ⟨#[0xb1]⟩ 1 none, .arrayClass .byte, .fieldLink RX2 9 "DeskStack$Row" "chars" "[B", .fieldLink RX2 15 "DeskStack$Row" "size" "I"] ++ wsX40 ++ wsX20)
def wsX4_isDigit : List Cond := .code yX4_isDigit cX4_isDigit 1 (some .boolean) :: ([])
def wsX4_beginsNumber : List Cond := .code yX4_beginsNumber cX4_beginsNumber 1 (some .boolean) :: ([.methodLink RX4 142 yX4_isDigit, .static yX4_isDigit, .initialized RX4, .code yX4_isDigit cX4_isDigit 1 (some .boolean)])
def wsX4_putWrittenNumber_r1 : List Cond := [Cond.classLink RX4 56 "java/lang/IllegalArgumentException", Cond.initialized "java/lang/IllegalArgumentException", Cond.fieldLink RX4 28 "DeskStack" "texts" "LDeskStack$Nest;", Cond.constantLong RX4 145 (10), Cond.fieldLink RX4 14 "DeskStack" "stack" "LDeskStack$Shelf;", Cond.methodLink RX4 80 yX1_look, Cond.instanceMethod yX1_look, Cond.selects RX1 yX1_look yX1_look, Cond.initialized RX1, Cond.code yX1_look cX1_look 2 (some .int), Cond.fieldLink RX1 17 "DeskStack$Nest" "positions" "[I", Cond.fieldLink RX1 24 "DeskStack$Nest" "count" "I", Cond.fieldLink RX1 21 "DeskStack$Nest" "ends" "[I", Cond.fieldLink RX1 11 "DeskStack$Nest" "rows" "[LDeskStack$Row;", Cond.methodLink RX1 55 yX1_isUnderWay, Cond.instanceMethod yX1_isUnderWay, Cond.selects RX1 yX1_isUnderWay yX1_isUnderWay, Cond.code yX1_isUnderWay cX1_isUnderWay 1 (some .boolean), Cond.methodLink RX1 59 yX2_charAt, Cond.instanceMethod yX2_charAt, Cond.selects RX2 yX2_charAt yX2_charAt, Cond.initialized RX2, Cond.code yX2_charAt cX2_charAt 2 (some .int), Cond.fieldLink RX2 15 "DeskStack$Row" "size" "I"]
def wsX4_putWrittenNumber_r2 : List Cond := [Cond.fieldLink RX2 9 "DeskStack$Row" "chars" "[B", Cond.methodLink RX4 118 yX1_pass, Cond.instanceMethod yX1_pass, Cond.selects RX1 yX1_pass yX1_pass, Cond.code yX1_pass cX1_pass 1 none, Cond.methodLink RX4 142 yX4_isDigit, Cond.static yX4_isDigit, Cond.initialized RX4, Cond.code yX4_isDigit cX4_isDigit 1 (some .boolean), Cond.methodLink RX4 149 yX3_putNumber, Cond.instanceMethod yX3_putNumber, Cond.selects RX3 yX3_putNumber yX3_putNumber, Cond.initialized RX3, Cond.code yX3_putNumber cX3_putNumber 4 none, Cond.methodLink RX3 36 yX3_put, Cond.instanceMethod yX3_put, Cond.selects RX3 yX3_put yX3_put, Cond.code yX3_put cX3_put 6 none, Cond.classLink RX3 62 "java/lang/UnsupportedOperationException", Cond.initialized "java/lang/UnsupportedOperationException", Cond.fieldLink RX3 28 "DeskStack$Shelf" "count" "I", Cond.methodLink RX3 58 yX3_isFull, Cond.instanceMethod yX3_isFull, Cond.selects RX3 yX3_isFull yX3_isFull]
def wsX4_putWrittenNumber_r3 : List Cond := [Cond.code yX3_isFull cX3_isFull 1 (some .boolean), Cond.fieldLink RX3 9 "DeskStack$Shelf" "values" "[J", Cond.methodLink RX3 69 yX3_set, Cond.instanceMethod yX3_set, Cond.selects RX3 yX3_set yX3_set, Cond.code yX3_set cX3_set 7 none, Cond.fieldLink RX3 15 "DeskStack$Shelf" "places" "[I", Cond.fieldLink RX3 21 "DeskStack$Shelf" "rows" "[LDeskStack$Row;", Cond.fieldLink RX3 25 "DeskStack$Shelf" "starts" "[I", Cond.methodLink RX3 32 yX3_has, Cond.instanceMethod yX3_has, Cond.selects RX3 yX3_has yX3_has, Cond.code yX3_has cX3_has 2 (some .boolean)]
def wsX4_putWrittenNumber : List Cond := .code yX4_putWrittenNumber cX4_putWrittenNumber 9 none :: ((wsX4_putWrittenNumber_r1 ++ (wsX4_putWrittenNumber_r2 ++ wsX4_putWrittenNumber_r3)) ++ wsX40 ++ wsX10 ++ wsX20 ++ wsX30 ++ (vx_atS RX4 60 "java/lang/IllegalArgumentException" ["java/lang/RuntimeException", "java/lang/Exception"]).filter goodWord ++ (vx_atS RX3 66 "java/lang/UnsupportedOperationException" ["java/lang/RuntimeException", "java/lang/Exception"]).filter goodWord)
def wsX4_putWrittenText_r1 : List Cond := [Cond.classLink RX4 56 "java/lang/IllegalArgumentException", Cond.initialized "java/lang/IllegalArgumentException", Cond.fieldLink RX4 28 "DeskStack" "texts" "LDeskStack$Nest;", Cond.fieldLink RX4 14 "DeskStack" "stack" "LDeskStack$Shelf;", Cond.methodLink RX4 153 yX1_innermostRow, Cond.instanceMethod yX1_innermostRow, Cond.selects RX1 yX1_innermostRow yX1_innermostRow, Cond.initialized RX1, Cond.code yX1_innermostRow cX1_innermostRow 1 (some (.object "DeskStack$Row")), Cond.fieldLink RX1 11 "DeskStack$Nest" "rows" "[LDeskStack$Row;", Cond.fieldLink RX1 24 "DeskStack$Nest" "count" "I", Cond.methodLink RX1 55 yX1_isUnderWay, Cond.instanceMethod yX1_isUnderWay, Cond.selects RX1 yX1_isUnderWay yX1_isUnderWay, Cond.code yX1_isUnderWay cX1_isUnderWay 1 (some .boolean), Cond.methodLink RX4 157 yX1_position, Cond.instanceMethod yX1_position, Cond.selects RX1 yX1_position yX1_position, Cond.code yX1_position cX1_position 1 (some .int), Cond.fieldLink RX1 17 "DeskStack$Nest" "positions" "[I", Cond.methodLink RX4 80 yX1_look, Cond.instanceMethod yX1_look, Cond.selects RX1 yX1_look yX1_look, Cond.code yX1_look cX1_look 2 (some .int)]
def wsX4_putWrittenText_r2 : List Cond := [Cond.fieldLink RX1 21 "DeskStack$Nest" "ends" "[I", Cond.methodLink RX1 59 yX2_charAt, Cond.instanceMethod yX2_charAt, Cond.selects RX2 yX2_charAt yX2_charAt, Cond.initialized RX2, Cond.code yX2_charAt cX2_charAt 2 (some .int), Cond.fieldLink RX2 15 "DeskStack$Row" "size" "I", Cond.fieldLink RX2 9 "DeskStack$Row" "chars" "[B", Cond.methodLink RX4 118 yX1_pass, Cond.instanceMethod yX1_pass, Cond.selects RX1 yX1_pass yX1_pass, Cond.code yX1_pass cX1_pass 1 none, Cond.methodLink RX4 162 yX3_putText, Cond.instanceMethod yX3_putText, Cond.selects RX3 yX3_putText yX3_putText, Cond.initialized RX3, Cond.code yX3_putText cX3_putText 4 none, Cond.methodLink RX3 36 yX3_put, Cond.instanceMethod yX3_put, Cond.selects RX3 yX3_put yX3_put, Cond.code yX3_put cX3_put 6 none, Cond.classLink RX3 62 "java/lang/UnsupportedOperationException", Cond.initialized "java/lang/UnsupportedOperationException", Cond.fieldLink RX3 28 "DeskStack$Shelf" "count" "I"]
def wsX4_putWrittenText_r3 : List Cond := [Cond.methodLink RX3 58 yX3_isFull, Cond.instanceMethod yX3_isFull, Cond.selects RX3 yX3_isFull yX3_isFull, Cond.code yX3_isFull cX3_isFull 1 (some .boolean), Cond.fieldLink RX3 9 "DeskStack$Shelf" "values" "[J", Cond.methodLink RX3 69 yX3_set, Cond.instanceMethod yX3_set, Cond.selects RX3 yX3_set yX3_set, Cond.code yX3_set cX3_set 7 none, Cond.fieldLink RX3 15 "DeskStack$Shelf" "places" "[I", Cond.fieldLink RX3 21 "DeskStack$Shelf" "rows" "[LDeskStack$Row;", Cond.fieldLink RX3 25 "DeskStack$Shelf" "starts" "[I", Cond.methodLink RX3 32 yX3_has, Cond.instanceMethod yX3_has, Cond.selects RX3 yX3_has yX3_has, Cond.code yX3_has cX3_has 2 (some .boolean)]
def wsX4_putWrittenText : List Cond := .code yX4_putWrittenText cX4_putWrittenText 6 none :: ((wsX4_putWrittenText_r1 ++ (wsX4_putWrittenText_r2 ++ wsX4_putWrittenText_r3)) ++ wsX40 ++ wsX10 ++ wsX20 ++ wsX30 ++ (vx_atS RX4 60 "java/lang/IllegalArgumentException" ["java/lang/RuntimeException", "java/lang/Exception"]).filter goodWord ++ (vx_atS RX3 66 "java/lang/UnsupportedOperationException" ["java/lang/RuntimeException", "java/lang/Exception"]).filter goodWord)
def wsX4_needItems : List Cond := .code yX4_needItems cX4_needItems 2 none :: ([.classLink RX4 165 "java/lang/IllegalStateException", .initialized "java/lang/IllegalStateException", .fieldLink RX4 14 "DeskStack" "stack" "LDeskStack$Shelf;", .fieldLink RX4 95 "DeskStack$Shelf" "count" "I"] ++ wsX40 ++ wsX30 ++ (vx_atS RX4 169 "java/lang/IllegalStateException" ["java/lang/RuntimeException", "java/lang/Exception"]).filter goodWord)
def wsX4_needNumbers_r1 : List Cond := [Cond.classLink RX4 177 "java/lang/IndexOutOfBoundsException", Cond.initialized "java/lang/IndexOutOfBoundsException", Cond.fieldLink RX4 14 "DeskStack" "stack" "LDeskStack$Shelf;", Cond.methodLink RX4 170 yX4_needItems, Cond.instanceMethod yX4_needItems, Cond.selects RX4 yX4_needItems yX4_needItems, Cond.initialized RX4, Cond.code yX4_needItems cX4_needItems 2 none, Cond.classLink RX4 165 "java/lang/IllegalStateException", Cond.initialized "java/lang/IllegalStateException", Cond.fieldLink RX4 95 "DeskStack$Shelf" "count" "I", Cond.methodLink RX4 104 yX3_slotBelowTop, Cond.instanceMethod yX3_slotBelowTop, Cond.selects RX3 yX3_slotBelowTop yX3_slotBelowTop, Cond.initialized RX3, Cond.code yX3_slotBelowTop cX3_slotBelowTop 2 (some .int), Cond.fieldLink RX3 28 "DeskStack$Shelf" "count" "I", Cond.methodLink RX4 173 yX3_rowAt, Cond.instanceMethod yX3_rowAt, Cond.selects RX3 yX3_rowAt yX3_rowAt, Cond.code yX3_rowAt cX3_rowAt 2 (some (.object "DeskStack$Row")), Cond.fieldLink RX3 21 "DeskStack$Shelf" "rows" "[LDeskStack$Row;", Cond.methodLink RX3 32 yX3_has, Cond.instanceMethod yX3_has]
def wsX4_needNumbers_r2 : List Cond := [Cond.selects RX3 yX3_has yX3_has, Cond.code yX3_has cX3_has 2 (some .boolean), Cond.fieldLink RX3 9 "DeskStack$Shelf" "values" "[J"]
def wsX4_needNumbers : List Cond := .code yX4_needNumbers cX4_needNumbers 3 none :: ((wsX4_needNumbers_r1 ++ wsX4_needNumbers_r2) ++ wsX40 ++ wsX30 ++ (vx_atS RX4 181 "java/lang/IndexOutOfBoundsException" ["java/lang/RuntimeException", "java/lang/Exception"]).filter goodWord ++ (vx_atS RX4 169 "java/lang/IllegalStateException" ["java/lang/RuntimeException", "java/lang/Exception"]).filter goodWord)
def wsX4_calculate_r1 : List Cond := [Cond.fieldLink RX4 14 "DeskStack" "stack" "LDeskStack$Shelf;", Cond.methodLink RX4 185 Lib.Math.max.name, Cond.static Lib.Math.max.name, Cond.initialized "java/lang/Math", Cond.code Lib.Math.max.name Lib.Math.max.code 2 (some .int), Cond.fieldLink RX4 39 "DeskStack" "keptPlaces" "I", Cond.methodLink RX4 197 Lib.Math.min.name, Cond.static Lib.Math.min.name, Cond.code Lib.Math.min.name Lib.Math.min.code 2 (some .int), Cond.methodLink RX4 182 yX4_needNumbers, Cond.instanceMethod yX4_needNumbers, Cond.selects RX4 yX4_needNumbers yX4_needNumbers, Cond.initialized RX4, Cond.code yX4_needNumbers cX4_needNumbers 3 none, Cond.classLink RX4 177 "java/lang/IndexOutOfBoundsException", Cond.initialized "java/lang/IndexOutOfBoundsException", Cond.methodLink RX4 170 yX4_needItems, Cond.instanceMethod yX4_needItems, Cond.selects RX4 yX4_needItems yX4_needItems, Cond.code yX4_needItems cX4_needItems 2 none, Cond.classLink RX4 165 "java/lang/IllegalStateException", Cond.initialized "java/lang/IllegalStateException", Cond.fieldLink RX4 95 "DeskStack$Shelf" "count" "I", Cond.methodLink RX4 104 yX3_slotBelowTop]
def wsX4_calculate_r2 : List Cond := [Cond.instanceMethod yX3_slotBelowTop, Cond.selects RX3 yX3_slotBelowTop yX3_slotBelowTop, Cond.initialized RX3, Cond.code yX3_slotBelowTop cX3_slotBelowTop 2 (some .int), Cond.fieldLink RX3 28 "DeskStack$Shelf" "count" "I", Cond.methodLink RX4 173 yX3_rowAt, Cond.instanceMethod yX3_rowAt, Cond.selects RX3 yX3_rowAt yX3_rowAt, Cond.code yX3_rowAt cX3_rowAt 2 (some (.object "DeskStack$Row")), Cond.fieldLink RX3 21 "DeskStack$Shelf" "rows" "[LDeskStack$Row;", Cond.methodLink RX3 32 yX3_has, Cond.instanceMethod yX3_has, Cond.selects RX3 yX3_has yX3_has, Cond.code yX3_has cX3_has 2 (some .boolean), Cond.fieldLink RX3 9 "DeskStack$Shelf" "values" "[J", Cond.methodLink RX4 96 yX3_valueAt, Cond.instanceMethod yX3_valueAt, Cond.selects RX3 yX3_valueAt yX3_valueAt, Cond.code yX3_valueAt cX3_valueAt 2 (some .long), Cond.methodLink RX4 100 yX3_placesAt, Cond.instanceMethod yX3_placesAt, Cond.selects RX3 yX3_placesAt yX3_placesAt, Cond.code yX3_placesAt cX3_placesAt 2 (some .int), Cond.fieldLink RX3 15 "DeskStack$Shelf" "places" "[I"]
def wsX4_calculate_r3 : List Cond := [Cond.methodLink RX4 191 yX0_sum, Cond.static yX0_sum, Cond.initialized RX0, Cond.code yX0_sum cX0_sum 7 (some .long), Cond.methodLink RX0 9 Lib.Math.max.name, Cond.methodLink RX0 15 yX0_raise, Cond.static yX0_raise, Cond.code yX0_raise cX0_raise 3 (some .long), Cond.methodLink RX0 74 yX0_powerOfTen, Cond.static yX0_powerOfTen, Cond.code yX0_powerOfTen cX0_powerOfTen 1 (some .long), Cond.fieldLink RX0 78 "DeskStack$Decimal" "POWERS" "[J", Cond.methodLink RX0 82 Lib.Math.min.name, Cond.methodLink RX0 58 yX0_times, Cond.static yX0_times, Cond.code yX0_times cX0_times 4 (some .long), Cond.classLink RX0 36 "java/lang/UnsupportedOperationException", Cond.initialized "java/lang/UnsupportedOperationException", Cond.methodLink RX0 31 Lib.MathLoose.abs_long.x, Cond.static Lib.MathLoose.abs_long.x, Cond.code Lib.MathLoose.abs_long.x Lib.MathLoose.abs_long.code 2 (some .long), Cond.constantLong RX0 34 (999999999999999999), Cond.methodLink RX0 21 yX0_fitting, Cond.static yX0_fitting]
def wsX4_calculate_r4 : List Cond := [Cond.code yX0_fitting cX0_fitting 2 (some .long), Cond.methodLink RX4 200 yX0_times, Cond.methodLink RX4 204 yX0_cutOff, Cond.static yX0_cutOff, Cond.code yX0_cutOff cX0_cutOff 3 (some .long), Cond.methodLink RX0 48 yX0_divide, Cond.static yX0_divide, Cond.code yX0_divide cX0_divide 4 (some .long), Cond.methodLink RX4 208 yX0_quotient, Cond.static yX0_quotient, Cond.code yX0_quotient cX0_quotient 8 (some .long), Cond.classLink RX0 43 "java/lang/ArithmeticException", Cond.initialized "java/lang/ArithmeticException", Cond.methodLink RX4 212 yX0_remainder, Cond.static yX0_remainder, Cond.code yX0_remainder cX0_remainder 13 (some .long), Cond.methodLink RX0 52 yX0_quotient, Cond.methodLink RX4 215 yX3_drop, Cond.instanceMethod yX3_drop, Cond.selects RX3 yX3_drop yX3_drop, Cond.code yX3_drop cX3_drop 2 none, Cond.methodLink RX3 73 Lib.Math.max.name, Cond.methodLink RX4 149 yX3_putNumber, Cond.instanceMethod yX3_putNumber]
def wsX4_calculate_r5 : List Cond := [Cond.selects RX3 yX3_putNumber yX3_putNumber, Cond.code yX3_putNumber cX3_putNumber 4 none, Cond.methodLink RX3 36 yX3_put, Cond.instanceMethod yX3_put, Cond.selects RX3 yX3_put yX3_put, Cond.code yX3_put cX3_put 6 none, Cond.classLink RX3 62 "java/lang/UnsupportedOperationException", Cond.methodLink RX3 58 yX3_isFull, Cond.instanceMethod yX3_isFull, Cond.selects RX3 yX3_isFull yX3_isFull, Cond.code yX3_isFull cX3_isFull 1 (some .boolean), Cond.methodLink RX3 69 yX3_set, Cond.instanceMethod yX3_set, Cond.selects RX3 yX3_set yX3_set, Cond.code yX3_set cX3_set 7 none, Cond.fieldLink RX3 25 "DeskStack$Shelf" "starts" "[I"]
def wsX4_calculate : List Cond := .code yX4_calculate cX4_calculate 12 none :: ((wsX4_calculate_r1 ++ (wsX4_calculate_r2 ++ (wsX4_calculate_r3 ++ (wsX4_calculate_r4 ++ wsX4_calculate_r5)))) ++ wsX40 ++ wsX30 ++ (vx_atS RX4 181 "java/lang/IndexOutOfBoundsException" ["java/lang/RuntimeException", "java/lang/Exception"]).filter goodWord ++ (vx_atS RX4 169 "java/lang/IllegalStateException" ["java/lang/RuntimeException", "java/lang/Exception"]).filter goodWord ++ (vx_atS RX0 40 "java/lang/UnsupportedOperationException" ["java/lang/RuntimeException", "java/lang/Exception"]).filter goodWord ++ (vx_atS RX0 47 "java/lang/ArithmeticException" ["java/lang/RuntimeException", "java/lang/Exception"]).filter goodWord ++ (vx_atS RX3 66 "java/lang/UnsupportedOperationException" ["java/lang/RuntimeException", "java/lang/Exception"]).filter goodWord)
def wsX4_changeNumber_r1 : List Cond := [Cond.fieldLink RX4 14 "DeskStack" "stack" "LDeskStack$Shelf;", Cond.fieldLink RX4 39 "DeskStack" "keptPlaces" "I", Cond.methodLink RX4 185 Lib.Math.max.name, Cond.static Lib.Math.max.name, Cond.initialized "java/lang/Math", Cond.code Lib.Math.max.name Lib.Math.max.code 2 (some .int), Cond.methodLink RX4 182 yX4_needNumbers, Cond.instanceMethod yX4_needNumbers, Cond.selects RX4 yX4_needNumbers yX4_needNumbers, Cond.initialized RX4, Cond.code yX4_needNumbers cX4_needNumbers 3 none, Cond.classLink RX4 177 "java/lang/IndexOutOfBoundsException", Cond.initialized "java/lang/IndexOutOfBoundsException", Cond.methodLink RX4 170 yX4_needItems, Cond.instanceMethod yX4_needItems, Cond.selects RX4 yX4_needItems yX4_needItems, Cond.code yX4_needItems cX4_needItems 2 none, Cond.classLink RX4 165 "java/lang/IllegalStateException", Cond.initialized "java/lang/IllegalStateException", Cond.fieldLink RX4 95 "DeskStack$Shelf" "count" "I", Cond.methodLink RX4 104 yX3_slotBelowTop, Cond.instanceMethod yX3_slotBelowTop, Cond.selects RX3 yX3_slotBelowTop yX3_slotBelowTop, Cond.initialized RX3]
def wsX4_changeNumber_r2 : List Cond := [Cond.code yX3_slotBelowTop cX3_slotBelowTop 2 (some .int), Cond.fieldLink RX3 28 "DeskStack$Shelf" "count" "I", Cond.methodLink RX4 173 yX3_rowAt, Cond.instanceMethod yX3_rowAt, Cond.selects RX3 yX3_rowAt yX3_rowAt, Cond.code yX3_rowAt cX3_rowAt 2 (some (.object "DeskStack$Row")), Cond.fieldLink RX3 21 "DeskStack$Shelf" "rows" "[LDeskStack$Row;", Cond.methodLink RX3 32 yX3_has, Cond.instanceMethod yX3_has, Cond.selects RX3 yX3_has yX3_has, Cond.code yX3_has cX3_has 2 (some .boolean), Cond.fieldLink RX3 9 "DeskStack$Shelf" "values" "[J", Cond.methodLink RX4 96 yX3_valueAt, Cond.instanceMethod yX3_valueAt, Cond.selects RX3 yX3_valueAt yX3_valueAt, Cond.code yX3_valueAt cX3_valueAt 2 (some .long), Cond.methodLink RX4 100 yX3_placesAt, Cond.instanceMethod yX3_placesAt, Cond.selects RX3 yX3_placesAt yX3_placesAt, Cond.code yX3_placesAt cX3_placesAt 2 (some .int), Cond.fieldLink RX3 15 "DeskStack$Shelf" "places" "[I", Cond.methodLink RX4 218 yX0_asPlaces, Cond.static yX0_asPlaces, Cond.initialized RX0]
def wsX4_changeNumber_r3 : List Cond := [Cond.code yX0_asPlaces cX0_asPlaces 5 (some .int), Cond.classLink RX0 43 "java/lang/ArithmeticException", Cond.initialized "java/lang/ArithmeticException", Cond.constantLong RX0 70 (9), Cond.methodLink RX0 67 yX0_cutOff, Cond.static yX0_cutOff, Cond.code yX0_cutOff cX0_cutOff 3 (some .long), Cond.methodLink RX0 74 yX0_powerOfTen, Cond.static yX0_powerOfTen, Cond.code yX0_powerOfTen cX0_powerOfTen 1 (some .long), Cond.fieldLink RX0 78 "DeskStack$Decimal" "POWERS" "[J", Cond.methodLink RX0 9 Lib.Math.max.name, Cond.methodLink RX0 82 Lib.Math.min.name, Cond.static Lib.Math.min.name, Cond.code Lib.Math.min.name Lib.Math.min.code 2 (some .int), Cond.methodLink RX0 48 yX0_divide, Cond.static yX0_divide, Cond.code yX0_divide cX0_divide 4 (some .long), Cond.methodLink RX0 15 yX0_raise, Cond.static yX0_raise, Cond.code yX0_raise cX0_raise 3 (some .long), Cond.methodLink RX0 58 yX0_times, Cond.static yX0_times, Cond.code yX0_times cX0_times 4 (some .long)]
def wsX4_changeNumber_r4 : List Cond := [Cond.classLink RX0 36 "java/lang/UnsupportedOperationException", Cond.initialized "java/lang/UnsupportedOperationException", Cond.methodLink RX0 31 Lib.MathLoose.abs_long.x, Cond.static Lib.MathLoose.abs_long.x, Cond.code Lib.MathLoose.abs_long.x Lib.MathLoose.abs_long.code 2 (some .long), Cond.constantLong RX0 34 (999999999999999999), Cond.methodLink RX4 215 yX3_drop, Cond.instanceMethod yX3_drop, Cond.selects RX3 yX3_drop yX3_drop, Cond.code yX3_drop cX3_drop 2 none, Cond.methodLink RX3 73 Lib.Math.max.name, Cond.methodLink RX4 221 yX0_root, Cond.static yX0_root, Cond.code yX0_root cX0_root 13 (some .long), Cond.constantLong RX0 63 (999999999), Cond.constantLong RX0 65 (2), Cond.methodLink RX4 149 yX3_putNumber, Cond.instanceMethod yX3_putNumber, Cond.selects RX3 yX3_putNumber yX3_putNumber, Cond.code yX3_putNumber cX3_putNumber 4 none, Cond.methodLink RX3 36 yX3_put, Cond.instanceMethod yX3_put, Cond.selects RX3 yX3_put yX3_put, Cond.code yX3_put cX3_put 6 none]
def wsX4_changeNumber_r5 : List Cond := [Cond.classLink RX3 62 "java/lang/UnsupportedOperationException", Cond.methodLink RX3 58 yX3_isFull, Cond.instanceMethod yX3_isFull, Cond.selects RX3 yX3_isFull yX3_isFull, Cond.code yX3_isFull cX3_isFull 1 (some .boolean), Cond.methodLink RX3 69 yX3_set, Cond.instanceMethod yX3_set, Cond.selects RX3 yX3_set yX3_set, Cond.code yX3_set cX3_set 7 none, Cond.fieldLink RX3 25 "DeskStack$Shelf" "starts" "[I"]
def wsX4_changeNumber : List Cond := .code yX4_changeNumber cX4_changeNumber 8 none :: ((wsX4_changeNumber_r1 ++ (wsX4_changeNumber_r2 ++ (wsX4_changeNumber_r3 ++ (wsX4_changeNumber_r4 ++ wsX4_changeNumber_r5)))) ++ wsX40 ++ wsX30 ++ (vx_atS RX4 181 "java/lang/IndexOutOfBoundsException" ["java/lang/RuntimeException", "java/lang/Exception"]).filter goodWord ++ (vx_atS RX4 169 "java/lang/IllegalStateException" ["java/lang/RuntimeException", "java/lang/Exception"]).filter goodWord ++ (vx_atS RX0 47 "java/lang/ArithmeticException" ["java/lang/RuntimeException", "java/lang/Exception"]).filter goodWord ++ (vx_atS RX0 40 "java/lang/UnsupportedOperationException" ["java/lang/RuntimeException", "java/lang/Exception"]).filter goodWord ++ (vx_atS RX3 66 "java/lang/UnsupportedOperationException" ["java/lang/RuntimeException", "java/lang/Exception"]).filter goodWord)
def wsX4_registerNumbered : List Cond := .code yX4_registerNumbered cX4_registerNumbered 2 (some (.object "DeskStack$Shelf")) :: ([.fieldLink RX4 18 "DeskStack" "registers" "[LDeskStack$Shelf;"] ++ wsX40)
def wsX4_registerOfLetter_r1 : List Cond := [Cond.classLink RX4 56 "java/lang/IllegalArgumentException", Cond.initialized "java/lang/IllegalArgumentException", Cond.fieldLink RX4 28 "DeskStack" "texts" "LDeskStack$Nest;", Cond.methodLink RX4 80 yX1_look, Cond.instanceMethod yX1_look, Cond.selects RX1 yX1_look yX1_look, Cond.initialized RX1, Cond.code yX1_look cX1_look 2 (some .int), Cond.fieldLink RX1 17 "DeskStack$Nest" "positions" "[I", Cond.fieldLink RX1 24 "DeskStack$Nest" "count" "I", Cond.fieldLink RX1 21 "DeskStack$Nest" "ends" "[I", Cond.fieldLink RX1 11 "DeskStack$Nest" "rows" "[LDeskStack$Row;", Cond.methodLink RX1 55 yX1_isUnderWay, Cond.instanceMethod yX1_isUnderWay, Cond.selects RX1 yX1_isUnderWay yX1_isUnderWay, Cond.code yX1_isUnderWay cX1_isUnderWay 1 (some .boolean), Cond.methodLink RX1 59 yX2_charAt, Cond.instanceMethod yX2_charAt, Cond.selects RX2 yX2_charAt yX2_charAt, Cond.initialized RX2, Cond.code yX2_charAt cX2_charAt 2 (some .int), Cond.fieldLink RX2 15 "DeskStack$Row" "size" "I", Cond.fieldLink RX2 9 "DeskStack$Row" "chars" "[B", Cond.methodLink RX4 107 yX4_registerNumbered]
def wsX4_registerOfLetter_r2 : List Cond := [Cond.instanceMethod yX4_registerNumbered, Cond.selects RX4 yX4_registerNumbered yX4_registerNumbered, Cond.initialized RX4, Cond.code yX4_registerNumbered cX4_registerNumbered 2 (some (.object "DeskStack$Shelf")), Cond.fieldLink RX4 18 "DeskStack" "registers" "[LDeskStack$Shelf;", Cond.methodLink RX4 118 yX1_pass, Cond.instanceMethod yX1_pass, Cond.selects RX1 yX1_pass yX1_pass, Cond.code yX1_pass cX1_pass 1 none]
def wsX4_registerOfLetter : List Cond := .code yX4_registerOfLetter cX4_registerOfLetter 2 (some (.object "DeskStack$Shelf")) :: ((wsX4_registerOfLetter_r1 ++ wsX4_registerOfLetter_r2) ++ wsX40 ++ wsX10 ++ wsX20 ++ (vx_atS RX4 60 "java/lang/IllegalArgumentException" ["java/lang/RuntimeException", "java/lang/Exception"]).filter goodWord)
def wsX4_needHeld : List Cond := .code yX4_needHeld cX4_needHeld 1 none :: ([.classLink RX4 165 "java/lang/IllegalStateException", .initialized "java/lang/IllegalStateException", .fieldLink RX4 95 "DeskStack$Shelf" "count" "I"] ++ wsX30 ++ (vx_atS RX4 169 "java/lang/IllegalStateException" ["java/lang/RuntimeException", "java/lang/Exception"]).filter goodWord)
def wsX4_moveToOrFromRegister_r1 : List Cond := [Cond.fieldLink RX4 14 "DeskStack" "stack" "LDeskStack$Shelf;", Cond.methodLink RX4 242 yX4_registerOfLetter, Cond.instanceMethod yX4_registerOfLetter, Cond.selects RX4 yX4_registerOfLetter yX4_registerOfLetter, Cond.initialized RX4, Cond.code yX4_registerOfLetter cX4_registerOfLetter 2 (some (.object "DeskStack$Shelf")), Cond.classLink RX4 56 "java/lang/IllegalArgumentException", Cond.initialized "java/lang/IllegalArgumentException", Cond.fieldLink RX4 28 "DeskStack" "texts" "LDeskStack$Nest;", Cond.methodLink RX4 80 yX1_look, Cond.instanceMethod yX1_look, Cond.selects RX1 yX1_look yX1_look, Cond.initialized RX1, Cond.code yX1_look cX1_look 2 (some .int), Cond.fieldLink RX1 17 "DeskStack$Nest" "positions" "[I", Cond.fieldLink RX1 24 "DeskStack$Nest" "count" "I", Cond.fieldLink RX1 21 "DeskStack$Nest" "ends" "[I", Cond.fieldLink RX1 11 "DeskStack$Nest" "rows" "[LDeskStack$Row;", Cond.methodLink RX1 55 yX1_isUnderWay, Cond.instanceMethod yX1_isUnderWay, Cond.selects RX1 yX1_isUnderWay yX1_isUnderWay, Cond.code yX1_isUnderWay cX1_isUnderWay 1 (some .boolean), Cond.methodLink RX1 59 yX2_charAt, Cond.instanceMethod yX2_charAt]
def wsX4_moveToOrFromRegister_r2 : List Cond := [Cond.selects RX2 yX2_charAt yX2_charAt, Cond.initialized RX2, Cond.code yX2_charAt cX2_charAt 2 (some .int), Cond.fieldLink RX2 15 "DeskStack$Row" "size" "I", Cond.fieldLink RX2 9 "DeskStack$Row" "chars" "[B", Cond.methodLink RX4 107 yX4_registerNumbered, Cond.instanceMethod yX4_registerNumbered, Cond.selects RX4 yX4_registerNumbered yX4_registerNumbered, Cond.code yX4_registerNumbered cX4_registerNumbered 2 (some (.object "DeskStack$Shelf")), Cond.fieldLink RX4 18 "DeskStack" "registers" "[LDeskStack$Shelf;", Cond.methodLink RX4 118 yX1_pass, Cond.instanceMethod yX1_pass, Cond.selects RX1 yX1_pass yX1_pass, Cond.code yX1_pass cX1_pass 1 none, Cond.methodLink RX4 170 yX4_needItems, Cond.instanceMethod yX4_needItems, Cond.selects RX4 yX4_needItems yX4_needItems, Cond.code yX4_needItems cX4_needItems 2 none, Cond.classLink RX4 165 "java/lang/IllegalStateException", Cond.initialized "java/lang/IllegalStateException", Cond.fieldLink RX4 95 "DeskStack$Shelf" "count" "I", Cond.methodLink RX4 215 yX3_drop, Cond.instanceMethod yX3_drop, Cond.selects RX3 yX3_drop yX3_drop]
def wsX4_moveToOrFromRegister_r3 : List Cond := [Cond.initialized RX3, Cond.code yX3_drop cX3_drop 2 none, Cond.fieldLink RX3 28 "DeskStack$Shelf" "count" "I", Cond.methodLink RX3 73 Lib.Math.max.name, Cond.static Lib.Math.max.name, Cond.initialized "java/lang/Math", Cond.code Lib.Math.max.name Lib.Math.max.code 2 (some .int), Cond.methodLink RX4 225 yX3_putTopOf, Cond.instanceMethod yX3_putTopOf, Cond.selects RX3 yX3_putTopOf yX3_putTopOf, Cond.code yX3_putTopOf cX3_putTopOf 3 none, Cond.methodLink RX3 40 yX3_slotBelowTop, Cond.instanceMethod yX3_slotBelowTop, Cond.selects RX3 yX3_slotBelowTop yX3_slotBelowTop, Cond.code yX3_slotBelowTop cX3_slotBelowTop 2 (some .int), Cond.methodLink RX3 44 yX3_valueAt, Cond.instanceMethod yX3_valueAt, Cond.selects RX3 yX3_valueAt yX3_valueAt, Cond.code yX3_valueAt cX3_valueAt 2 (some .long), Cond.fieldLink RX3 9 "DeskStack$Shelf" "values" "[J", Cond.methodLink RX3 32 yX3_has, Cond.instanceMethod yX3_has, Cond.selects RX3 yX3_has yX3_has, Cond.code yX3_has cX3_has 2 (some .boolean)]
def wsX4_moveToOrFromRegister_r4 : List Cond := [Cond.methodLink RX3 48 yX3_placesAt, Cond.instanceMethod yX3_placesAt, Cond.selects RX3 yX3_placesAt yX3_placesAt, Cond.code yX3_placesAt cX3_placesAt 2 (some .int), Cond.fieldLink RX3 15 "DeskStack$Shelf" "places" "[I", Cond.methodLink RX3 51 yX3_rowAt, Cond.instanceMethod yX3_rowAt, Cond.selects RX3 yX3_rowAt yX3_rowAt, Cond.code yX3_rowAt cX3_rowAt 2 (some (.object "DeskStack$Row")), Cond.fieldLink RX3 21 "DeskStack$Shelf" "rows" "[LDeskStack$Row;", Cond.methodLink RX3 55 yX3_startAt, Cond.instanceMethod yX3_startAt, Cond.selects RX3 yX3_startAt yX3_startAt, Cond.code yX3_startAt cX3_startAt 2 (some .int), Cond.fieldLink RX3 25 "DeskStack$Shelf" "starts" "[I", Cond.methodLink RX3 36 yX3_put, Cond.instanceMethod yX3_put, Cond.selects RX3 yX3_put yX3_put, Cond.code yX3_put cX3_put 6 none, Cond.classLink RX3 62 "java/lang/UnsupportedOperationException", Cond.initialized "java/lang/UnsupportedOperationException", Cond.methodLink RX3 58 yX3_isFull, Cond.instanceMethod yX3_isFull, Cond.selects RX3 yX3_isFull yX3_isFull]
def wsX4_moveToOrFromRegister_r5 : List Cond := [Cond.code yX3_isFull cX3_isFull 1 (some .boolean), Cond.methodLink RX3 69 yX3_set, Cond.instanceMethod yX3_set, Cond.selects RX3 yX3_set yX3_set, Cond.code yX3_set cX3_set 7 none, Cond.methodLink RX4 246 yX4_needHeld, Cond.static yX4_needHeld, Cond.code yX4_needHeld cX4_needHeld 1 none]
def wsX4_moveToOrFromRegister : List Cond := .code yX4_moveToOrFromRegister cX4_moveToOrFromRegister 3 none :: ((wsX4_moveToOrFromRegister_r1 ++ (wsX4_moveToOrFromRegister_r2 ++ (wsX4_moveToOrFromRegister_r3 ++ (wsX4_moveToOrFromRegister_r4 ++ wsX4_moveToOrFromRegister_r5)))) ++ wsX40 ++ wsX10 ++ wsX20 ++ wsX30 ++ (vx_atS RX4 60 "java/lang/IllegalArgumentException" ["java/lang/RuntimeException", "java/lang/Exception"]).filter goodWord ++ (vx_atS RX4 169 "java/lang/IllegalStateException" ["java/lang/RuntimeException", "java/lang/Exception"]).filter goodWord ++ (vx_atS RX3 66 "java/lang/UnsupportedOperationException" ["java/lang/RuntimeException", "java/lang/Exception"]).filter goodWord)
def wsX4_runIfOrdered_r1 : List Cond := [Cond.classLink RX4 177 "java/lang/IndexOutOfBoundsException", Cond.initialized "java/lang/IndexOutOfBoundsException", Cond.fieldLink RX4 14 "DeskStack" "stack" "LDeskStack$Shelf;", Cond.fieldLink RX4 28 "DeskStack" "texts" "LDeskStack$Nest;", Cond.methodLink RX4 242 yX4_registerOfLetter, Cond.instanceMethod yX4_registerOfLetter, Cond.selects RX4 yX4_registerOfLetter yX4_registerOfLetter, Cond.initialized RX4, Cond.code yX4_registerOfLetter cX4_registerOfLetter 2 (some (.object "DeskStack$Shelf")), Cond.classLink RX4 56 "java/lang/IllegalArgumentException", Cond.initialized "java/lang/IllegalArgumentException", Cond.methodLink RX4 80 yX1_look, Cond.instanceMethod yX1_look, Cond.selects RX1 yX1_look yX1_look, Cond.initialized RX1, Cond.code yX1_look cX1_look 2 (some .int), Cond.fieldLink RX1 17 "DeskStack$Nest" "positions" "[I", Cond.fieldLink RX1 24 "DeskStack$Nest" "count" "I", Cond.fieldLink RX1 21 "DeskStack$Nest" "ends" "[I", Cond.fieldLink RX1 11 "DeskStack$Nest" "rows" "[LDeskStack$Row;", Cond.methodLink RX1 55 yX1_isUnderWay, Cond.instanceMethod yX1_isUnderWay, Cond.selects RX1 yX1_isUnderWay yX1_isUnderWay, Cond.code yX1_isUnderWay cX1_isUnderWay 1 (some .boolean)]
def wsX4_runIfOrdered_r2 : List Cond := [Cond.methodLink RX1 59 yX2_charAt, Cond.instanceMethod yX2_charAt, Cond.selects RX2 yX2_charAt yX2_charAt, Cond.initialized RX2, Cond.code yX2_charAt cX2_charAt 2 (some .int), Cond.fieldLink RX2 15 "DeskStack$Row" "size" "I", Cond.fieldLink RX2 9 "DeskStack$Row" "chars" "[B", Cond.methodLink RX4 107 yX4_registerNumbered, Cond.instanceMethod yX4_registerNumbered, Cond.selects RX4 yX4_registerNumbered yX4_registerNumbered, Cond.code yX4_registerNumbered cX4_registerNumbered 2 (some (.object "DeskStack$Shelf")), Cond.fieldLink RX4 18 "DeskStack" "registers" "[LDeskStack$Shelf;", Cond.methodLink RX4 118 yX1_pass, Cond.instanceMethod yX1_pass, Cond.selects RX1 yX1_pass yX1_pass, Cond.code yX1_pass cX1_pass 1 none, Cond.methodLink RX4 182 yX4_needNumbers, Cond.instanceMethod yX4_needNumbers, Cond.selects RX4 yX4_needNumbers yX4_needNumbers, Cond.code yX4_needNumbers cX4_needNumbers 3 none, Cond.methodLink RX4 170 yX4_needItems, Cond.instanceMethod yX4_needItems, Cond.selects RX4 yX4_needItems yX4_needItems, Cond.code yX4_needItems cX4_needItems 2 none]
def wsX4_runIfOrdered_r3 : List Cond := [Cond.classLink RX4 165 "java/lang/IllegalStateException", Cond.initialized "java/lang/IllegalStateException", Cond.fieldLink RX4 95 "DeskStack$Shelf" "count" "I", Cond.methodLink RX4 104 yX3_slotBelowTop, Cond.instanceMethod yX3_slotBelowTop, Cond.selects RX3 yX3_slotBelowTop yX3_slotBelowTop, Cond.initialized RX3, Cond.code yX3_slotBelowTop cX3_slotBelowTop 2 (some .int), Cond.fieldLink RX3 28 "DeskStack$Shelf" "count" "I", Cond.methodLink RX4 173 yX3_rowAt, Cond.instanceMethod yX3_rowAt, Cond.selects RX3 yX3_rowAt yX3_rowAt, Cond.code yX3_rowAt cX3_rowAt 2 (some (.object "DeskStack$Row")), Cond.fieldLink RX3 21 "DeskStack$Shelf" "rows" "[LDeskStack$Row;", Cond.methodLink RX3 32 yX3_has, Cond.instanceMethod yX3_has, Cond.selects RX3 yX3_has yX3_has, Cond.code yX3_has cX3_has 2 (some .boolean), Cond.fieldLink RX3 9 "DeskStack$Shelf" "values" "[J", Cond.methodLink RX4 96 yX3_valueAt, Cond.instanceMethod yX3_valueAt, Cond.selects RX3 yX3_valueAt yX3_valueAt, Cond.code yX3_valueAt cX3_valueAt 2 (some .long), Cond.methodLink RX4 100 yX3_placesAt]
def wsX4_runIfOrdered_r4 : List Cond := [Cond.instanceMethod yX3_placesAt, Cond.selects RX3 yX3_placesAt yX3_placesAt, Cond.code yX3_placesAt cX3_placesAt 2 (some .int), Cond.fieldLink RX3 15 "DeskStack$Shelf" "places" "[I", Cond.methodLink RX4 255 yX0_order, Cond.static yX0_order, Cond.initialized RX0, Cond.code yX0_order cX0_order 7 (some .int), Cond.methodLink RX0 9 Lib.Math.max.name, Cond.static Lib.Math.max.name, Cond.initialized "java/lang/Math", Cond.code Lib.Math.max.name Lib.Math.max.code 2 (some .int), Cond.methodLink RX0 15 yX0_raise, Cond.static yX0_raise, Cond.code yX0_raise cX0_raise 3 (some .long), Cond.methodLink RX0 74 yX0_powerOfTen, Cond.static yX0_powerOfTen, Cond.code yX0_powerOfTen cX0_powerOfTen 1 (some .long), Cond.fieldLink RX0 78 "DeskStack$Decimal" "POWERS" "[J", Cond.methodLink RX0 82 Lib.Math.min.name, Cond.static Lib.Math.min.name, Cond.code Lib.Math.min.name Lib.Math.min.code 2 (some .int), Cond.methodLink RX0 58 yX0_times, Cond.static yX0_times]
def wsX4_runIfOrdered_r5 : List Cond := [Cond.code yX0_times cX0_times 4 (some .long), Cond.classLink RX0 36 "java/lang/UnsupportedOperationException", Cond.initialized "java/lang/UnsupportedOperationException", Cond.methodLink RX0 31 Lib.MathLoose.abs_long.x, Cond.static Lib.MathLoose.abs_long.x, Cond.code Lib.MathLoose.abs_long.x Lib.MathLoose.abs_long.code 2 (some .long), Cond.constantLong RX0 34 (999999999999999999), Cond.methodLink RX0 25 yJ13_compare_74951, Cond.static yJ13_compare_74951, Cond.initialized RJ13, Cond.code yJ13_compare_74951 cJ13_compare_74951 4 (some .int), Cond.methodLink RX4 246 yX4_needHeld, Cond.static yX4_needHeld, Cond.code yX4_needHeld cX4_needHeld 1 none, Cond.methodLink RX4 249 yX3_startAt, Cond.instanceMethod yX3_startAt, Cond.selects RX3 yX3_startAt yX3_startAt, Cond.code yX3_startAt cX3_startAt 2 (some .int), Cond.fieldLink RX3 25 "DeskStack$Shelf" "starts" "[I", Cond.methodLink RX4 252 yX1_enterMacro, Cond.instanceMethod yX1_enterMacro, Cond.selects RX1 yX1_enterMacro yX1_enterMacro, Cond.code yX1_enterMacro cX1_enterMacro 4 none, Cond.methodLink RX1 35 yX1_skipBlanks]
def wsX4_runIfOrdered_r6 : List Cond := [Cond.instanceMethod yX1_skipBlanks, Cond.selects RX1 yX1_skipBlanks yX1_skipBlanks, Cond.code yX1_skipBlanks cX1_skipBlanks 2 none, Cond.methodLink RX1 38 yX1_look, Cond.methodLink RX1 63 yX1_pass, Cond.methodLink RX1 42 yX1_leave, Cond.instanceMethod yX1_leave, Cond.selects RX1 yX1_leave yX1_leave, Cond.code yX1_leave cX1_leave 1 none, Cond.methodLink RX1 49 Lib.Math.max.name, Cond.methodLink RX1 45 yX1_enter, Cond.instanceMethod yX1_enter, Cond.selects RX1 yX1_enter yX1_enter, Cond.code yX1_enter cX1_enter 4 none, Cond.classLink RX1 28 "java/lang/UnsupportedOperationException", Cond.methodLink RX4 215 yX3_drop, Cond.instanceMethod yX3_drop, Cond.selects RX3 yX3_drop yX3_drop, Cond.code yX3_drop cX3_drop 2 none, Cond.methodLink RX3 73 Lib.Math.max.name]
def wsX4_runIfOrdered : List Cond := .code yX4_runIfOrdered cX4_runIfOrdered 9 none :: ((wsX4_runIfOrdered_r1 ++ (wsX4_runIfOrdered_r2 ++ (wsX4_runIfOrdered_r3 ++ (wsX4_runIfOrdered_r4 ++ (wsX4_runIfOrdered_r5 ++ wsX4_runIfOrdered_r6))))) ++ wsX40 ++ wsX10 ++ wsX20 ++ wsX30 ++ (vx_atS RX4 181 "java/lang/IndexOutOfBoundsException" ["java/lang/RuntimeException", "java/lang/Exception"]).filter goodWord ++ (vx_atS RX4 60 "java/lang/IllegalArgumentException" ["java/lang/RuntimeException", "java/lang/Exception"]).filter goodWord ++ (vx_atS RX4 169 "java/lang/IllegalStateException" ["java/lang/RuntimeException", "java/lang/Exception"]).filter goodWord ++ (vx_atS RX0 40 "java/lang/UnsupportedOperationException" ["java/lang/RuntimeException", "java/lang/Exception"]).filter goodWord ++ (vx_atS RX1 32 "java/lang/UnsupportedOperationException" ["java/lang/RuntimeException", "java/lang/Exception"]).filter goodWord)
def wsX4_runTop_r1 : List Cond := [Cond.fieldLink RX4 14 "DeskStack" "stack" "LDeskStack$Shelf;", Cond.fieldLink RX4 28 "DeskStack" "texts" "LDeskStack$Nest;", Cond.methodLink RX4 170 yX4_needItems, Cond.instanceMethod yX4_needItems, Cond.selects RX4 yX4_needItems yX4_needItems, Cond.initialized RX4, Cond.code yX4_needItems cX4_needItems 2 none, Cond.classLink RX4 165 "java/lang/IllegalStateException", Cond.initialized "java/lang/IllegalStateException", Cond.fieldLink RX4 95 "DeskStack$Shelf" "count" "I", Cond.methodLink RX4 104 yX3_slotBelowTop, Cond.instanceMethod yX3_slotBelowTop, Cond.selects RX3 yX3_slotBelowTop yX3_slotBelowTop, Cond.initialized RX3, Cond.code yX3_slotBelowTop cX3_slotBelowTop 2 (some .int), Cond.fieldLink RX3 28 "DeskStack$Shelf" "count" "I", Cond.methodLink RX4 173 yX3_rowAt, Cond.instanceMethod yX3_rowAt, Cond.selects RX3 yX3_rowAt yX3_rowAt, Cond.code yX3_rowAt cX3_rowAt 2 (some (.object "DeskStack$Row")), Cond.fieldLink RX3 21 "DeskStack$Shelf" "rows" "[LDeskStack$Row;", Cond.methodLink RX3 32 yX3_has, Cond.instanceMethod yX3_has, Cond.selects RX3 yX3_has yX3_has]
def wsX4_runTop_r2 : List Cond := [Cond.code yX3_has cX3_has 2 (some .boolean), Cond.fieldLink RX3 9 "DeskStack$Shelf" "values" "[J", Cond.methodLink RX4 249 yX3_startAt, Cond.instanceMethod yX3_startAt, Cond.selects RX3 yX3_startAt yX3_startAt, Cond.code yX3_startAt cX3_startAt 2 (some .int), Cond.fieldLink RX3 25 "DeskStack$Shelf" "starts" "[I", Cond.methodLink RX4 96 yX3_valueAt, Cond.instanceMethod yX3_valueAt, Cond.selects RX3 yX3_valueAt yX3_valueAt, Cond.code yX3_valueAt cX3_valueAt 2 (some .long), Cond.methodLink RX4 252 yX1_enterMacro, Cond.instanceMethod yX1_enterMacro, Cond.selects RX1 yX1_enterMacro yX1_enterMacro, Cond.initialized RX1, Cond.code yX1_enterMacro cX1_enterMacro 4 none, Cond.methodLink RX1 35 yX1_skipBlanks, Cond.instanceMethod yX1_skipBlanks, Cond.selects RX1 yX1_skipBlanks yX1_skipBlanks, Cond.code yX1_skipBlanks cX1_skipBlanks 2 none, Cond.methodLink RX1 38 yX1_look, Cond.instanceMethod yX1_look, Cond.selects RX1 yX1_look yX1_look, Cond.code yX1_look cX1_look 2 (some .int)]
def wsX4_runTop_r3 : List Cond := [Cond.fieldLink RX1 17 "DeskStack$Nest" "positions" "[I", Cond.fieldLink RX1 24 "DeskStack$Nest" "count" "I", Cond.fieldLink RX1 21 "DeskStack$Nest" "ends" "[I", Cond.fieldLink RX1 11 "DeskStack$Nest" "rows" "[LDeskStack$Row;", Cond.methodLink RX1 55 yX1_isUnderWay, Cond.instanceMethod yX1_isUnderWay, Cond.selects RX1 yX1_isUnderWay yX1_isUnderWay, Cond.code yX1_isUnderWay cX1_isUnderWay 1 (some .boolean), Cond.methodLink RX1 59 yX2_charAt, Cond.instanceMethod yX2_charAt, Cond.selects RX2 yX2_charAt yX2_charAt, Cond.initialized RX2, Cond.code yX2_charAt cX2_charAt 2 (some .int), Cond.fieldLink RX2 15 "DeskStack$Row" "size" "I", Cond.fieldLink RX2 9 "DeskStack$Row" "chars" "[B", Cond.methodLink RX1 63 yX1_pass, Cond.instanceMethod yX1_pass, Cond.selects RX1 yX1_pass yX1_pass, Cond.code yX1_pass cX1_pass 1 none, Cond.methodLink RX1 42 yX1_leave, Cond.instanceMethod yX1_leave, Cond.selects RX1 yX1_leave yX1_leave, Cond.code yX1_leave cX1_leave 1 none, Cond.methodLink RX1 49 Lib.Math.max.name]
def wsX4_runTop_r4 : List Cond := [Cond.static Lib.Math.max.name, Cond.initialized "java/lang/Math", Cond.code Lib.Math.max.name Lib.Math.max.code 2 (some .int), Cond.methodLink RX1 45 yX1_enter, Cond.instanceMethod yX1_enter, Cond.selects RX1 yX1_enter yX1_enter, Cond.code yX1_enter cX1_enter 4 none, Cond.classLink RX1 28 "java/lang/UnsupportedOperationException", Cond.initialized "java/lang/UnsupportedOperationException", Cond.methodLink RX4 215 yX3_drop, Cond.instanceMethod yX3_drop, Cond.selects RX3 yX3_drop yX3_drop, Cond.code yX3_drop cX3_drop 2 none, Cond.methodLink RX3 73 Lib.Math.max.name]
def wsX4_runTop : List Cond := .code yX4_runTop cX4_runTop 3 none :: ((wsX4_runTop_r1 ++ (wsX4_runTop_r2 ++ (wsX4_runTop_r3 ++ wsX4_runTop_r4))) ++ wsX40 ++ wsX30 ++ wsX10 ++ wsX20 ++ (vx_atS RX4 169 "java/lang/IllegalStateException" ["java/lang/RuntimeException", "java/lang/Exception"]).filter goodWord ++ (vx_atS RX1 32 "java/lang/UnsupportedOperationException" ["java/lang/RuntimeException", "java/lang/Exception"]).filter goodWord)
def wsX4_arrangeStack_r1 : List Cond := [Cond.classLink RX4 56 "java/lang/IllegalArgumentException", Cond.initialized "java/lang/IllegalArgumentException", Cond.fieldLink RX4 14 "DeskStack" "stack" "LDeskStack$Shelf;", Cond.fieldLink RX4 95 "DeskStack$Shelf" "count" "I", Cond.fieldLink RX4 39 "DeskStack" "keptPlaces" "I", Cond.fieldLink RX4 22 "DeskStack" "printer" "LDeskStack$Shelf;", Cond.methodLink RX4 170 yX4_needItems, Cond.instanceMethod yX4_needItems, Cond.selects RX4 yX4_needItems yX4_needItems, Cond.initialized RX4, Cond.code yX4_needItems cX4_needItems 2 none, Cond.classLink RX4 165 "java/lang/IllegalStateException", Cond.initialized "java/lang/IllegalStateException", Cond.methodLink RX4 225 yX3_putTopOf, Cond.instanceMethod yX3_putTopOf, Cond.selects RX3 yX3_putTopOf yX3_putTopOf, Cond.initialized RX3, Cond.code yX3_putTopOf cX3_putTopOf 3 none, Cond.methodLink RX3 40 yX3_slotBelowTop, Cond.instanceMethod yX3_slotBelowTop, Cond.selects RX3 yX3_slotBelowTop yX3_slotBelowTop, Cond.code yX3_slotBelowTop cX3_slotBelowTop 2 (some .int), Cond.fieldLink RX3 28 "DeskStack$Shelf" "count" "I", Cond.methodLink RX3 44 yX3_valueAt]
def wsX4_arrangeStack_r2 : List Cond := [Cond.instanceMethod yX3_valueAt, Cond.selects RX3 yX3_valueAt yX3_valueAt, Cond.code yX3_valueAt cX3_valueAt 2 (some .long), Cond.fieldLink RX3 9 "DeskStack$Shelf" "values" "[J", Cond.methodLink RX3 32 yX3_has, Cond.instanceMethod yX3_has, Cond.selects RX3 yX3_has yX3_has, Cond.code yX3_has cX3_has 2 (some .boolean), Cond.methodLink RX3 48 yX3_placesAt, Cond.instanceMethod yX3_placesAt, Cond.selects RX3 yX3_placesAt yX3_placesAt, Cond.code yX3_placesAt cX3_placesAt 2 (some .int), Cond.fieldLink RX3 15 "DeskStack$Shelf" "places" "[I", Cond.methodLink RX3 51 yX3_rowAt, Cond.instanceMethod yX3_rowAt, Cond.selects RX3 yX3_rowAt yX3_rowAt, Cond.code yX3_rowAt cX3_rowAt 2 (some (.object "DeskStack$Row")), Cond.fieldLink RX3 21 "DeskStack$Shelf" "rows" "[LDeskStack$Row;", Cond.methodLink RX3 55 yX3_startAt, Cond.instanceMethod yX3_startAt, Cond.selects RX3 yX3_startAt yX3_startAt, Cond.code yX3_startAt cX3_startAt 2 (some .int), Cond.fieldLink RX3 25 "DeskStack$Shelf" "starts" "[I", Cond.methodLink RX3 36 yX3_put]
def wsX4_arrangeStack_r3 : List Cond := [Cond.instanceMethod yX3_put, Cond.selects RX3 yX3_put yX3_put, Cond.code yX3_put cX3_put 6 none, Cond.classLink RX3 62 "java/lang/UnsupportedOperationException", Cond.initialized "java/lang/UnsupportedOperationException", Cond.methodLink RX3 58 yX3_isFull, Cond.instanceMethod yX3_isFull, Cond.selects RX3 yX3_isFull yX3_isFull, Cond.code yX3_isFull cX3_isFull 1 (some .boolean), Cond.methodLink RX3 69 yX3_set, Cond.instanceMethod yX3_set, Cond.selects RX3 yX3_set yX3_set, Cond.code yX3_set cX3_set 7 none, Cond.methodLink RX4 229 yX3_swapTopTwo, Cond.instanceMethod yX3_swapTopTwo, Cond.selects RX3 yX3_swapTopTwo yX3_swapTopTwo, Cond.code yX3_swapTopTwo cX3_swapTopTwo 8 none, Cond.methodLink RX4 215 yX3_drop, Cond.instanceMethod yX3_drop, Cond.selects RX3 yX3_drop yX3_drop, Cond.code yX3_drop cX3_drop 2 none, Cond.methodLink RX3 73 Lib.Math.max.name, Cond.static Lib.Math.max.name, Cond.initialized "java/lang/Math"]
def wsX4_arrangeStack_r4 : List Cond := [Cond.code Lib.Math.max.name Lib.Math.max.code 2 (some .int), Cond.methodLink RX4 63 yX3_clear, Cond.instanceMethod yX3_clear, Cond.selects RX3 yX3_clear yX3_clear, Cond.code yX3_clear cX3_clear 1 none, Cond.methodLink RX4 149 yX3_putNumber, Cond.instanceMethod yX3_putNumber, Cond.selects RX3 yX3_putNumber yX3_putNumber, Cond.code yX3_putNumber cX3_putNumber 4 none, Cond.methodLink RX4 232 yX3_isFull]
def wsX4_arrangeStack : List Cond := .code yX4_arrangeStack cX4_arrangeStack 2 none :: ((wsX4_arrangeStack_r1 ++ (wsX4_arrangeStack_r2 ++ (wsX4_arrangeStack_r3 ++ wsX4_arrangeStack_r4))) ++ wsX40 ++ wsX30 ++ (vx_atS RX4 60 "java/lang/IllegalArgumentException" ["java/lang/RuntimeException", "java/lang/Exception"]).filter goodWord ++ (vx_atS RX4 169 "java/lang/IllegalStateException" ["java/lang/RuntimeException", "java/lang/Exception"]).filter goodWord ++ (vx_atS RX3 66 "java/lang/UnsupportedOperationException" ["java/lang/RuntimeException", "java/lang/Exception"]).filter goodWord)
def wsX4_doCommand_r1 : List Cond := [Cond.fieldLink RX4 28 "DeskStack" "texts" "LDeskStack$Nest;", Cond.methodLink RX4 80 yX1_look, Cond.instanceMethod yX1_look, Cond.selects RX1 yX1_look yX1_look, Cond.initialized RX1, Cond.code yX1_look cX1_look 2 (some .int), Cond.fieldLink RX1 17 "DeskStack$Nest" "positions" "[I", Cond.fieldLink RX1 24 "DeskStack$Nest" "count" "I", Cond.fieldLink RX1 21 "DeskStack$Nest" "ends" "[I", Cond.fieldLink RX1 11 "DeskStack$Nest" "rows" "[LDeskStack$Row;", Cond.methodLink RX1 55 yX1_isUnderWay, Cond.instanceMethod yX1_isUnderWay, Cond.selects RX1 yX1_isUnderWay yX1_isUnderWay, Cond.code yX1_isUnderWay cX1_isUnderWay 1 (some .boolean), Cond.methodLink RX1 59 yX2_charAt, Cond.instanceMethod yX2_charAt, Cond.selects RX2 yX2_charAt yX2_charAt, Cond.initialized RX2, Cond.code yX2_charAt cX2_charAt 2 (some .int), Cond.fieldLink RX2 15 "DeskStack$Row" "size" "I", Cond.fieldLink RX2 9 "DeskStack$Row" "chars" "[B", Cond.methodLink RX4 111 yX4_beginsNumber, Cond.static yX4_beginsNumber, Cond.initialized RX4]
def wsX4_doCommand_r2 : List Cond := [Cond.code yX4_beginsNumber cX4_beginsNumber 1 (some .boolean), Cond.methodLink RX4 142 yX4_isDigit, Cond.static yX4_isDigit, Cond.code yX4_isDigit cX4_isDigit 1 (some .boolean), Cond.methodLink RX4 115 yX4_putWrittenNumber, Cond.instanceMethod yX4_putWrittenNumber, Cond.selects RX4 yX4_putWrittenNumber yX4_putWrittenNumber, Cond.code yX4_putWrittenNumber cX4_putWrittenNumber 9 none, Cond.classLink RX4 56 "java/lang/IllegalArgumentException", Cond.initialized "java/lang/IllegalArgumentException", Cond.constantLong RX4 145 (10), Cond.fieldLink RX4 14 "DeskStack" "stack" "LDeskStack$Shelf;", Cond.methodLink RX4 118 yX1_pass, Cond.instanceMethod yX1_pass, Cond.selects RX1 yX1_pass yX1_pass, Cond.code yX1_pass cX1_pass 1 none, Cond.methodLink RX4 149 yX3_putNumber, Cond.instanceMethod yX3_putNumber, Cond.selects RX3 yX3_putNumber yX3_putNumber, Cond.initialized RX3, Cond.code yX3_putNumber cX3_putNumber 4 none, Cond.methodLink RX3 36 yX3_put, Cond.instanceMethod yX3_put, Cond.selects RX3 yX3_put yX3_put]
def wsX4_doCommand_r3 : List Cond := [Cond.code yX3_put cX3_put 6 none, Cond.classLink RX3 62 "java/lang/UnsupportedOperationException", Cond.initialized "java/lang/UnsupportedOperationException", Cond.fieldLink RX3 28 "DeskStack$Shelf" "count" "I", Cond.methodLink RX3 58 yX3_isFull, Cond.instanceMethod yX3_isFull, Cond.selects RX3 yX3_isFull yX3_isFull, Cond.code yX3_isFull cX3_isFull 1 (some .boolean), Cond.fieldLink RX3 9 "DeskStack$Shelf" "values" "[J", Cond.methodLink RX3 69 yX3_set, Cond.instanceMethod yX3_set, Cond.selects RX3 yX3_set yX3_set, Cond.code yX3_set cX3_set 7 none, Cond.fieldLink RX3 15 "DeskStack$Shelf" "places" "[I", Cond.fieldLink RX3 21 "DeskStack$Shelf" "rows" "[LDeskStack$Row;", Cond.fieldLink RX3 25 "DeskStack$Shelf" "starts" "[I", Cond.methodLink RX3 32 yX3_has, Cond.instanceMethod yX3_has, Cond.selects RX3 yX3_has yX3_has, Cond.code yX3_has cX3_has 2 (some .boolean), Cond.methodLink RX4 121 yX4_putWrittenText, Cond.instanceMethod yX4_putWrittenText, Cond.selects RX4 yX4_putWrittenText yX4_putWrittenText, Cond.code yX4_putWrittenText cX4_putWrittenText 6 none]
def wsX4_doCommand_r4 : List Cond := [Cond.methodLink RX4 153 yX1_innermostRow, Cond.instanceMethod yX1_innermostRow, Cond.selects RX1 yX1_innermostRow yX1_innermostRow, Cond.code yX1_innermostRow cX1_innermostRow 1 (some (.object "DeskStack$Row")), Cond.methodLink RX4 157 yX1_position, Cond.instanceMethod yX1_position, Cond.selects RX1 yX1_position yX1_position, Cond.code yX1_position cX1_position 1 (some .int), Cond.methodLink RX4 162 yX3_putText, Cond.instanceMethod yX3_putText, Cond.selects RX3 yX3_putText yX3_putText, Cond.code yX3_putText cX3_putText 4 none, Cond.methodLink RX4 124 yX4_calculate, Cond.instanceMethod yX4_calculate, Cond.selects RX4 yX4_calculate yX4_calculate, Cond.code yX4_calculate cX4_calculate 12 none, Cond.methodLink RX4 185 Lib.Math.max.name, Cond.static Lib.Math.max.name, Cond.initialized "java/lang/Math", Cond.code Lib.Math.max.name Lib.Math.max.code 2 (some .int), Cond.fieldLink RX4 39 "DeskStack" "keptPlaces" "I", Cond.methodLink RX4 197 Lib.Math.min.name, Cond.static Lib.Math.min.name, Cond.code Lib.Math.min.name Lib.Math.min.code 2 (some .int)]
def wsX4_doCommand_r5 : List Cond := [Cond.methodLink RX4 182 yX4_needNumbers, Cond.instanceMethod yX4_needNumbers, Cond.selects RX4 yX4_needNumbers yX4_needNumbers, Cond.code yX4_needNumbers cX4_needNumbers 3 none, Cond.classLink RX4 177 "java/lang/IndexOutOfBoundsException", Cond.initialized "java/lang/IndexOutOfBoundsException", Cond.methodLink RX4 170 yX4_needItems, Cond.instanceMethod yX4_needItems, Cond.selects RX4 yX4_needItems yX4_needItems, Cond.code yX4_needItems cX4_needItems 2 none, Cond.classLink RX4 165 "java/lang/IllegalStateException", Cond.initialized "java/lang/IllegalStateException", Cond.fieldLink RX4 95 "DeskStack$Shelf" "count" "I", Cond.methodLink RX4 104 yX3_slotBelowTop, Cond.instanceMethod yX3_slotBelowTop, Cond.selects RX3 yX3_slotBelowTop yX3_slotBelowTop, Cond.code yX3_slotBelowTop cX3_slotBelowTop 2 (some .int), Cond.methodLink RX4 173 yX3_rowAt, Cond.instanceMethod yX3_rowAt, Cond.selects RX3 yX3_rowAt yX3_rowAt, Cond.code yX3_rowAt cX3_rowAt 2 (some (.object "DeskStack$Row")), Cond.methodLink RX4 96 yX3_valueAt, Cond.instanceMethod yX3_valueAt, Cond.selects RX3 yX3_valueAt yX3_valueAt]
def wsX4_doCommand_r6 : List Cond := [Cond.code yX3_valueAt cX3_valueAt 2 (some .long), Cond.methodLink RX4 100 yX3_placesAt, Cond.instanceMethod yX3_placesAt, Cond.selects RX3 yX3_placesAt yX3_placesAt, Cond.code yX3_placesAt cX3_placesAt 2 (some .int), Cond.methodLink RX4 191 yX0_sum, Cond.static yX0_sum, Cond.initialized RX0, Cond.code yX0_sum cX0_sum 7 (some .long), Cond.methodLink RX0 9 Lib.Math.max.name, Cond.methodLink RX0 15 yX0_raise, Cond.static yX0_raise, Cond.code yX0_raise cX0_raise 3 (some .long), Cond.methodLink RX0 74 yX0_powerOfTen, Cond.static yX0_powerOfTen, Cond.code yX0_powerOfTen cX0_powerOfTen 1 (some .long), Cond.fieldLink RX0 78 "DeskStack$Decimal" "POWERS" "[J", Cond.methodLink RX0 82 Lib.Math.min.name, Cond.methodLink RX0 58 yX0_times, Cond.static yX0_times, Cond.code yX0_times cX0_times 4 (some .long), Cond.classLink RX0 36 "java/lang/UnsupportedOperationException", Cond.methodLink RX0 31 Lib.MathLoose.abs_long.x, Cond.static Lib.MathLoose.abs_long.x]
def wsX4_doCommand_r7 : List Cond := [Cond.code Lib.MathLoose.abs_long.x Lib.MathLoose.abs_long.code 2 (some .long), Cond.constantLong RX0 34 (999999999999999999), Cond.methodLink RX0 21 yX0_fitting, Cond.static yX0_fitting, Cond.code yX0_fitting cX0_fitting 2 (some .long), Cond.methodLink RX4 200 yX0_times, Cond.methodLink RX4 204 yX0_cutOff, Cond.static yX0_cutOff, Cond.code yX0_cutOff cX0_cutOff 3 (some .long), Cond.methodLink RX0 48 yX0_divide, Cond.static yX0_divide, Cond.code yX0_divide cX0_divide 4 (some .long), Cond.methodLink RX4 208 yX0_quotient, Cond.static yX0_quotient, Cond.code yX0_quotient cX0_quotient 8 (some .long), Cond.classLink RX0 43 "java/lang/ArithmeticException", Cond.initialized "java/lang/ArithmeticException", Cond.methodLink RX4 212 yX0_remainder, Cond.static yX0_remainder, Cond.code yX0_remainder cX0_remainder 13 (some .long), Cond.methodLink RX0 52 yX0_quotient, Cond.methodLink RX4 215 yX3_drop, Cond.instanceMethod yX3_drop, Cond.selects RX3 yX3_drop yX3_drop]
def wsX4_doCommand_r8 : List Cond := [Cond.code yX3_drop cX3_drop 2 none, Cond.methodLink RX3 73 Lib.Math.max.name, Cond.methodLink RX4 127 yX4_changeNumber, Cond.instanceMethod yX4_changeNumber, Cond.selects RX4 yX4_changeNumber yX4_changeNumber, Cond.code yX4_changeNumber cX4_changeNumber 8 none, Cond.methodLink RX4 218 yX0_asPlaces, Cond.static yX0_asPlaces, Cond.code yX0_asPlaces cX0_asPlaces 5 (some .int), Cond.constantLong RX0 70 (9), Cond.methodLink RX0 67 yX0_cutOff, Cond.methodLink RX4 221 yX0_root, Cond.static yX0_root, Cond.code yX0_root cX0_root 13 (some .long), Cond.constantLong RX0 63 (999999999), Cond.constantLong RX0 65 (2), Cond.methodLink RX4 130 yX4_moveToOrFromRegister, Cond.instanceMethod yX4_moveToOrFromRegister, Cond.selects RX4 yX4_moveToOrFromRegister yX4_moveToOrFromRegister, Cond.code yX4_moveToOrFromRegister cX4_moveToOrFromRegister 3 none, Cond.methodLink RX4 242 yX4_registerOfLetter, Cond.instanceMethod yX4_registerOfLetter, Cond.selects RX4 yX4_registerOfLetter yX4_registerOfLetter, Cond.code yX4_registerOfLetter cX4_registerOfLetter 2 (some (.object "DeskStack$Shelf"))]
def wsX4_doCommand_r9 : List Cond := [Cond.methodLink RX4 107 yX4_registerNumbered, Cond.instanceMethod yX4_registerNumbered, Cond.selects RX4 yX4_registerNumbered yX4_registerNumbered, Cond.code yX4_registerNumbered cX4_registerNumbered 2 (some (.object "DeskStack$Shelf")), Cond.fieldLink RX4 18 "DeskStack" "registers" "[LDeskStack$Shelf;", Cond.methodLink RX4 225 yX3_putTopOf, Cond.instanceMethod yX3_putTopOf, Cond.selects RX3 yX3_putTopOf yX3_putTopOf, Cond.code yX3_putTopOf cX3_putTopOf 3 none, Cond.methodLink RX3 40 yX3_slotBelowTop, Cond.methodLink RX3 44 yX3_valueAt, Cond.methodLink RX3 48 yX3_placesAt, Cond.methodLink RX3 51 yX3_rowAt, Cond.methodLink RX3 55 yX3_startAt, Cond.instanceMethod yX3_startAt, Cond.selects RX3 yX3_startAt yX3_startAt, Cond.code yX3_startAt cX3_startAt 2 (some .int), Cond.methodLink RX4 246 yX4_needHeld, Cond.static yX4_needHeld, Cond.code yX4_needHeld cX4_needHeld 1 none, Cond.methodLink RX4 133 yX4_runIfOrdered, Cond.instanceMethod yX4_runIfOrdered, Cond.selects RX4 yX4_runIfOrdered yX4_runIfOrdered, Cond.code yX4_runIfOrdered cX4_runIfOrdered 9 none]
def wsX4_doCommand_r10 : List Cond := [Cond.methodLink RX4 255 yX0_order, Cond.static yX0_order, Cond.code yX0_order cX0_order 7 (some .int), Cond.methodLink RX0 25 yJ13_compare_74951, Cond.static yJ13_compare_74951, Cond.initialized RJ13, Cond.code yJ13_compare_74951 cJ13_compare_74951 4 (some .int), Cond.methodLink RX4 249 yX3_startAt, Cond.methodLink RX4 252 yX1_enterMacro, Cond.instanceMethod yX1_enterMacro, Cond.selects RX1 yX1_enterMacro yX1_enterMacro, Cond.code yX1_enterMacro cX1_enterMacro 4 none, Cond.methodLink RX1 35 yX1_skipBlanks, Cond.instanceMethod yX1_skipBlanks, Cond.selects RX1 yX1_skipBlanks yX1_skipBlanks, Cond.code yX1_skipBlanks cX1_skipBlanks 2 none, Cond.methodLink RX1 38 yX1_look, Cond.methodLink RX1 63 yX1_pass, Cond.methodLink RX1 42 yX1_leave, Cond.instanceMethod yX1_leave, Cond.selects RX1 yX1_leave yX1_leave, Cond.code yX1_leave cX1_leave 1 none, Cond.methodLink RX1 49 Lib.Math.max.name, Cond.methodLink RX1 45 yX1_enter]
def wsX4_doCommand_r11 : List Cond := [Cond.instanceMethod yX1_enter, Cond.selects RX1 yX1_enter yX1_enter, Cond.code yX1_enter cX1_enter 4 none, Cond.classLink RX1 28 "java/lang/UnsupportedOperationException", Cond.methodLink RX4 136 yX4_runTop, Cond.instanceMethod yX4_runTop, Cond.selects RX4 yX4_runTop yX4_runTop, Cond.code yX4_runTop cX4_runTop 3 none, Cond.methodLink RX4 66 yX1_leaveAll, Cond.instanceMethod yX1_leaveAll, Cond.selects RX1 yX1_leaveAll yX1_leaveAll, Cond.code yX1_leaveAll cX1_leaveAll 1 none, Cond.methodLink RX4 139 yX4_arrangeStack, Cond.instanceMethod yX4_arrangeStack, Cond.selects RX4 yX4_arrangeStack yX4_arrangeStack, Cond.code yX4_arrangeStack cX4_arrangeStack 2 none, Cond.fieldLink RX4 22 "DeskStack" "printer" "LDeskStack$Shelf;", Cond.methodLink RX4 229 yX3_swapTopTwo, Cond.instanceMethod yX3_swapTopTwo, Cond.selects RX3 yX3_swapTopTwo yX3_swapTopTwo, Cond.code yX3_swapTopTwo cX3_swapTopTwo 8 none, Cond.methodLink RX4 63 yX3_clear, Cond.instanceMethod yX3_clear, Cond.selects RX3 yX3_clear yX3_clear]
def wsX4_doCommand_r12 : List Cond := [Cond.code yX3_clear cX3_clear 1 none, Cond.methodLink RX4 232 yX3_isFull]
def wsX4_doCommand : List Cond := .code yX4_doCommand cX4_doCommand 2 none :: ((wsX4_doCommand_r1 ++ (wsX4_doCommand_r2 ++ (wsX4_doCommand_r3 ++ (wsX4_doCommand_r4 ++ (wsX4_doCommand_r5 ++ (wsX4_doCommand_r6 ++ (wsX4_doCommand_r7 ++ (wsX4_doCommand_r8 ++ (wsX4_doCommand_r9 ++ (wsX4_doCommand_r10 ++ (wsX4_doCommand_r11 ++ wsX4_doCommand_r12))))))))))) ++ wsX40 ++ wsX10 ++ wsX20 ++ wsX30 ++ (vx_atS RX4 60 "java/lang/IllegalArgumentException" ["java/lang/RuntimeException", "java/lang/Exception"]).filter goodWord ++ (vx_atS RX3 66 "java/lang/UnsupportedOperationException" ["java/lang/RuntimeException", "java/lang/Exception"]).filter goodWord ++ (vx_atS RX4 181 "java/lang/IndexOutOfBoundsException" ["java/lang/RuntimeException", "java/lang/Exception"]).filter goodWord ++ (vx_atS RX4 169 "java/lang/IllegalStateException" ["java/lang/RuntimeException", "java/lang/Exception"]).filter goodWord ++ (vx_atS RX0 40 "java/lang/UnsupportedOperationException" ["java/lang/RuntimeException", "java/lang/Exception"]).filter goodWord ++ (vx_atS RX0 47 "java/lang/ArithmeticException" ["java/lang/RuntimeException", "java/lang/Exception"]).filter goodWord ++ (vx_atS RX1 32 "java/lang/UnsupportedOperationException" ["java/lang/RuntimeException", "java/lang/Exception"]).filter goodWord)
def wsX4_run_r1 : List Cond := [Cond.classLink RX4 56 "java/lang/IllegalArgumentException", Cond.initialized "java/lang/IllegalArgumentException", Cond.classLink RX4 87 "java/lang/UnsupportedOperationException", Cond.initialized "java/lang/UnsupportedOperationException", Cond.fieldLink RX4 22 "DeskStack" "printer" "LDeskStack$Shelf;", Cond.fieldLink RX4 43 "DeskStack" "commandsDone" "I", Cond.fieldLink RX4 28 "DeskStack" "texts" "LDeskStack$Nest;", Cond.fieldLink RX4 35 "DeskStack" "program" "LDeskStack$Row;", Cond.fieldLink RX4 50 "DeskStack$Row" "size" "I", Cond.constant RX4 73 (1000000), Cond.fieldLink RX4 74 "DeskStack$Nest" "count" "I", Cond.methodLink RX4 63 yX3_clear, Cond.instanceMethod yX3_clear, Cond.selects RX3 yX3_clear yX3_clear, Cond.initialized RX3, Cond.code yX3_clear cX3_clear 1 none, Cond.fieldLink RX3 28 "DeskStack$Shelf" "count" "I", Cond.methodLink RX4 66 yX1_leaveAll, Cond.instanceMethod yX1_leaveAll, Cond.selects RX1 yX1_leaveAll yX1_leaveAll, Cond.initialized RX1, Cond.code yX1_leaveAll cX1_leaveAll 1 none, Cond.fieldLink RX1 24 "DeskStack$Nest" "count" "I", Cond.methodLink RX4 69 yX1_enter]
def wsX4_run_r2 : List Cond := [Cond.instanceMethod yX1_enter, Cond.selects RX1 yX1_enter yX1_enter, Cond.code yX1_enter cX1_enter 4 none, Cond.classLink RX1 28 "java/lang/UnsupportedOperationException", Cond.fieldLink RX1 11 "DeskStack$Nest" "rows" "[LDeskStack$Row;", Cond.fieldLink RX1 17 "DeskStack$Nest" "positions" "[I", Cond.fieldLink RX1 21 "DeskStack$Nest" "ends" "[I", Cond.methodLink RX4 77 yX1_skipBlanks, Cond.instanceMethod yX1_skipBlanks, Cond.selects RX1 yX1_skipBlanks yX1_skipBlanks, Cond.code yX1_skipBlanks cX1_skipBlanks 2 none, Cond.methodLink RX1 38 yX1_look, Cond.instanceMethod yX1_look, Cond.selects RX1 yX1_look yX1_look, Cond.code yX1_look cX1_look 2 (some .int), Cond.methodLink RX1 55 yX1_isUnderWay, Cond.instanceMethod yX1_isUnderWay, Cond.selects RX1 yX1_isUnderWay yX1_isUnderWay, Cond.code yX1_isUnderWay cX1_isUnderWay 1 (some .boolean), Cond.methodLink RX1 59 yX2_charAt, Cond.instanceMethod yX2_charAt, Cond.selects RX2 yX2_charAt yX2_charAt, Cond.initialized RX2, Cond.code yX2_charAt cX2_charAt 2 (some .int)]
def wsX4_run_r3 : List Cond := [Cond.fieldLink RX2 15 "DeskStack$Row" "size" "I", Cond.fieldLink RX2 9 "DeskStack$Row" "chars" "[B", Cond.methodLink RX1 63 yX1_pass, Cond.instanceMethod yX1_pass, Cond.selects RX1 yX1_pass yX1_pass, Cond.code yX1_pass cX1_pass 1 none, Cond.methodLink RX4 80 yX1_look, Cond.methodLink RX4 84 yX1_leave, Cond.instanceMethod yX1_leave, Cond.selects RX1 yX1_leave yX1_leave, Cond.code yX1_leave cX1_leave 1 none, Cond.methodLink RX1 49 Lib.Math.max.name, Cond.static Lib.Math.max.name, Cond.initialized "java/lang/Math", Cond.code Lib.Math.max.name Lib.Math.max.code 2 (some .int), Cond.methodLink RX4 92 yX4_doCommand, Cond.instanceMethod yX4_doCommand, Cond.selects RX4 yX4_doCommand yX4_doCommand, Cond.initialized RX4, Cond.code yX4_doCommand cX4_doCommand 2 none, Cond.methodLink RX4 111 yX4_beginsNumber, Cond.static yX4_beginsNumber, Cond.code yX4_beginsNumber cX4_beginsNumber 1 (some .boolean), Cond.methodLink RX4 142 yX4_isDigit]
def wsX4_run_r4 : List Cond := [Cond.static yX4_isDigit, Cond.code yX4_isDigit cX4_isDigit 1 (some .boolean), Cond.methodLink RX4 115 yX4_putWrittenNumber, Cond.instanceMethod yX4_putWrittenNumber, Cond.selects RX4 yX4_putWrittenNumber yX4_putWrittenNumber, Cond.code yX4_putWrittenNumber cX4_putWrittenNumber 9 none, Cond.constantLong RX4 145 (10), Cond.fieldLink RX4 14 "DeskStack" "stack" "LDeskStack$Shelf;", Cond.methodLink RX4 118 yX1_pass, Cond.methodLink RX4 149 yX3_putNumber, Cond.instanceMethod yX3_putNumber, Cond.selects RX3 yX3_putNumber yX3_putNumber, Cond.code yX3_putNumber cX3_putNumber 4 none, Cond.methodLink RX3 36 yX3_put, Cond.instanceMethod yX3_put, Cond.selects RX3 yX3_put yX3_put, Cond.code yX3_put cX3_put 6 none, Cond.classLink RX3 62 "java/lang/UnsupportedOperationException", Cond.methodLink RX3 58 yX3_isFull, Cond.instanceMethod yX3_isFull, Cond.selects RX3 yX3_isFull yX3_isFull, Cond.code yX3_isFull cX3_isFull 1 (some .boolean), Cond.fieldLink RX3 9 "DeskStack$Shelf" "values" "[J", Cond.methodLink RX3 69 yX3_set]
def wsX4_run_r5 : List Cond := [Cond.instanceMethod yX3_set, Cond.selects RX3 yX3_set yX3_set, Cond.code yX3_set cX3_set 7 none, Cond.fieldLink RX3 15 "DeskStack$Shelf" "places" "[I", Cond.fieldLink RX3 21 "DeskStack$Shelf" "rows" "[LDeskStack$Row;", Cond.fieldLink RX3 25 "DeskStack$Shelf" "starts" "[I", Cond.methodLink RX3 32 yX3_has, Cond.instanceMethod yX3_has, Cond.selects RX3 yX3_has yX3_has, Cond.code yX3_has cX3_has 2 (some .boolean), Cond.methodLink RX4 121 yX4_putWrittenText, Cond.instanceMethod yX4_putWrittenText, Cond.selects RX4 yX4_putWrittenText yX4_putWrittenText, Cond.code yX4_putWrittenText cX4_putWrittenText 6 none, Cond.methodLink RX4 153 yX1_innermostRow, Cond.instanceMethod yX1_innermostRow, Cond.selects RX1 yX1_innermostRow yX1_innermostRow, Cond.code yX1_innermostRow cX1_innermostRow 1 (some (.object "DeskStack$Row")), Cond.methodLink RX4 157 yX1_position, Cond.instanceMethod yX1_position, Cond.selects RX1 yX1_position yX1_position, Cond.code yX1_position cX1_position 1 (some .int), Cond.methodLink RX4 162 yX3_putText, Cond.instanceMethod yX3_putText]
def wsX4_run_r6 : List Cond := [Cond.selects RX3 yX3_putText yX3_putText, Cond.code yX3_putText cX3_putText 4 none, Cond.methodLink RX4 124 yX4_calculate, Cond.instanceMethod yX4_calculate, Cond.selects RX4 yX4_calculate yX4_calculate, Cond.code yX4_calculate cX4_calculate 12 none, Cond.methodLink RX4 185 Lib.Math.max.name, Cond.fieldLink RX4 39 "DeskStack" "keptPlaces" "I", Cond.methodLink RX4 197 Lib.Math.min.name, Cond.static Lib.Math.min.name, Cond.code Lib.Math.min.name Lib.Math.min.code 2 (some .int), Cond.methodLink RX4 182 yX4_needNumbers, Cond.instanceMethod yX4_needNumbers, Cond.selects RX4 yX4_needNumbers yX4_needNumbers, Cond.code yX4_needNumbers cX4_needNumbers 3 none, Cond.classLink RX4 177 "java/lang/IndexOutOfBoundsException", Cond.initialized "java/lang/IndexOutOfBoundsException", Cond.methodLink RX4 170 yX4_needItems, Cond.instanceMethod yX4_needItems, Cond.selects RX4 yX4_needItems yX4_needItems, Cond.code yX4_needItems cX4_needItems 2 none, Cond.classLink RX4 165 "java/lang/IllegalStateException", Cond.initialized "java/lang/IllegalStateException", Cond.fieldLink RX4 95 "DeskStack$Shelf" "count" "I"]
def wsX4_run_r7 : List Cond := [Cond.methodLink RX4 104 yX3_slotBelowTop, Cond.instanceMethod yX3_slotBelowTop, Cond.selects RX3 yX3_slotBelowTop yX3_slotBelowTop, Cond.code yX3_slotBelowTop cX3_slotBelowTop 2 (some .int), Cond.methodLink RX4 173 yX3_rowAt, Cond.instanceMethod yX3_rowAt, Cond.selects RX3 yX3_rowAt yX3_rowAt, Cond.code yX3_rowAt cX3_rowAt 2 (some (.object "DeskStack$Row")), Cond.methodLink RX4 96 yX3_valueAt, Cond.instanceMethod yX3_valueAt, Cond.selects RX3 yX3_valueAt yX3_valueAt, Cond.code yX3_valueAt cX3_valueAt 2 (some .long), Cond.methodLink RX4 100 yX3_placesAt, Cond.instanceMethod yX3_placesAt, Cond.selects RX3 yX3_placesAt yX3_placesAt, Cond.code yX3_placesAt cX3_placesAt 2 (some .int), Cond.methodLink RX4 191 yX0_sum, Cond.static yX0_sum, Cond.initialized RX0, Cond.code yX0_sum cX0_sum 7 (some .long), Cond.methodLink RX0 9 Lib.Math.max.name, Cond.methodLink RX0 15 yX0_raise, Cond.static yX0_raise, Cond.code yX0_raise cX0_raise 3 (some .long)]
def wsX4_run_r8 : List Cond := [Cond.methodLink RX0 74 yX0_powerOfTen, Cond.static yX0_powerOfTen, Cond.code yX0_powerOfTen cX0_powerOfTen 1 (some .long), Cond.fieldLink RX0 78 "DeskStack$Decimal" "POWERS" "[J", Cond.methodLink RX0 82 Lib.Math.min.name, Cond.methodLink RX0 58 yX0_times, Cond.static yX0_times, Cond.code yX0_times cX0_times 4 (some .long), Cond.classLink RX0 36 "java/lang/UnsupportedOperationException", Cond.methodLink RX0 31 Lib.MathLoose.abs_long.x, Cond.static Lib.MathLoose.abs_long.x, Cond.code Lib.MathLoose.abs_long.x Lib.MathLoose.abs_long.code 2 (some .long), Cond.constantLong RX0 34 (999999999999999999), Cond.methodLink RX0 21 yX0_fitting, Cond.static yX0_fitting, Cond.code yX0_fitting cX0_fitting 2 (some .long), Cond.methodLink RX4 200 yX0_times, Cond.methodLink RX4 204 yX0_cutOff, Cond.static yX0_cutOff, Cond.code yX0_cutOff cX0_cutOff 3 (some .long), Cond.methodLink RX0 48 yX0_divide, Cond.static yX0_divide, Cond.code yX0_divide cX0_divide 4 (some .long), Cond.methodLink RX4 208 yX0_quotient]
def wsX4_run_r9 : List Cond := [Cond.static yX0_quotient, Cond.code yX0_quotient cX0_quotient 8 (some .long), Cond.classLink RX0 43 "java/lang/ArithmeticException", Cond.initialized "java/lang/ArithmeticException", Cond.methodLink RX4 212 yX0_remainder, Cond.static yX0_remainder, Cond.code yX0_remainder cX0_remainder 13 (some .long), Cond.methodLink RX0 52 yX0_quotient, Cond.methodLink RX4 215 yX3_drop, Cond.instanceMethod yX3_drop, Cond.selects RX3 yX3_drop yX3_drop, Cond.code yX3_drop cX3_drop 2 none, Cond.methodLink RX3 73 Lib.Math.max.name, Cond.methodLink RX4 127 yX4_changeNumber, Cond.instanceMethod yX4_changeNumber, Cond.selects RX4 yX4_changeNumber yX4_changeNumber, Cond.code yX4_changeNumber cX4_changeNumber 8 none, Cond.methodLink RX4 218 yX0_asPlaces, Cond.static yX0_asPlaces, Cond.code yX0_asPlaces cX0_asPlaces 5 (some .int), Cond.constantLong RX0 70 (9), Cond.methodLink RX0 67 yX0_cutOff, Cond.methodLink RX4 221 yX0_root, Cond.static yX0_root]
def wsX4_run_r10 : List Cond := [Cond.code yX0_root cX0_root 13 (some .long), Cond.constantLong RX0 63 (999999999), Cond.constantLong RX0 65 (2), Cond.methodLink RX4 130 yX4_moveToOrFromRegister, Cond.instanceMethod yX4_moveToOrFromRegister, Cond.selects RX4 yX4_moveToOrFromRegister yX4_moveToOrFromRegister, Cond.code yX4_moveToOrFromRegister cX4_moveToOrFromRegister 3 none, Cond.methodLink RX4 242 yX4_registerOfLetter, Cond.instanceMethod yX4_registerOfLetter, Cond.selects RX4 yX4_registerOfLetter yX4_registerOfLetter, Cond.code yX4_registerOfLetter cX4_registerOfLetter 2 (some (.object "DeskStack$Shelf")), Cond.methodLink RX4 107 yX4_registerNumbered, Cond.instanceMethod yX4_registerNumbered, Cond.selects RX4 yX4_registerNumbered yX4_registerNumbered, Cond.code yX4_registerNumbered cX4_registerNumbered 2 (some (.object "DeskStack$Shelf")), Cond.fieldLink RX4 18 "DeskStack" "registers" "[LDeskStack$Shelf;", Cond.methodLink RX4 225 yX3_putTopOf, Cond.instanceMethod yX3_putTopOf, Cond.selects RX3 yX3_putTopOf yX3_putTopOf, Cond.code yX3_putTopOf cX3_putTopOf 3 none, Cond.methodLink RX3 40 yX3_slotBelowTop, Cond.methodLink RX3 44 yX3_valueAt, Cond.methodLink RX3 48 yX3_placesAt, Cond.methodLink RX3 51 yX3_rowAt]
def wsX4_run_r11 : List Cond := [Cond.methodLink RX3 55 yX3_startAt, Cond.instanceMethod yX3_startAt, Cond.selects RX3 yX3_startAt yX3_startAt, Cond.code yX3_startAt cX3_startAt 2 (some .int), Cond.methodLink RX4 246 yX4_needHeld, Cond.static yX4_needHeld, Cond.code yX4_needHeld cX4_needHeld 1 none, Cond.methodLink RX4 133 yX4_runIfOrdered, Cond.instanceMethod yX4_runIfOrdered, Cond.selects RX4 yX4_runIfOrdered yX4_runIfOrdered, Cond.code yX4_runIfOrdered cX4_runIfOrdered 9 none, Cond.methodLink RX4 255 yX0_order, Cond.static yX0_order, Cond.code yX0_order cX0_order 7 (some .int), Cond.methodLink RX0 25 yJ13_compare_74951, Cond.static yJ13_compare_74951, Cond.initialized RJ13, Cond.code yJ13_compare_74951 cJ13_compare_74951 4 (some .int), Cond.methodLink RX4 249 yX3_startAt, Cond.methodLink RX4 252 yX1_enterMacro, Cond.instanceMethod yX1_enterMacro, Cond.selects RX1 yX1_enterMacro yX1_enterMacro, Cond.code yX1_enterMacro cX1_enterMacro 4 none, Cond.methodLink RX1 35 yX1_skipBlanks]
def wsX4_run_r12 : List Cond := [Cond.methodLink RX1 42 yX1_leave, Cond.methodLink RX1 45 yX1_enter, Cond.methodLink RX4 136 yX4_runTop, Cond.instanceMethod yX4_runTop, Cond.selects RX4 yX4_runTop yX4_runTop, Cond.code yX4_runTop cX4_runTop 3 none, Cond.methodLink RX4 139 yX4_arrangeStack, Cond.instanceMethod yX4_arrangeStack, Cond.selects RX4 yX4_arrangeStack yX4_arrangeStack, Cond.code yX4_arrangeStack cX4_arrangeStack 2 none, Cond.methodLink RX4 229 yX3_swapTopTwo, Cond.instanceMethod yX3_swapTopTwo, Cond.selects RX3 yX3_swapTopTwo yX3_swapTopTwo, Cond.code yX3_swapTopTwo cX3_swapTopTwo 8 none, Cond.methodLink RX4 232 yX3_isFull]
def wsX4_run : List Cond := .code yX4_run cX4_run 3 (some .int) :: ((wsX4_run_r1 ++ (wsX4_run_r2 ++ (wsX4_run_r3 ++ (wsX4_run_r4 ++ (wsX4_run_r5 ++ (wsX4_run_r6 ++ (wsX4_run_r7 ++ (wsX4_run_r8 ++ (wsX4_run_r9 ++ (wsX4_run_r10 ++ (wsX4_run_r11 ++ wsX4_run_r12))))))))))) ++ wsX40 ++ wsX20 ++ wsX10 ++ wsX30 ++ (vx_atS RX4 60 "java/lang/IllegalArgumentException" ["java/lang/RuntimeException", "java/lang/Exception"]).filter goodWord ++ (vx_atS RX4 91 "java/lang/UnsupportedOperationException" ["java/lang/RuntimeException", "java/lang/Exception"]).filter goodWord ++ (vx_atS RX1 32 "java/lang/UnsupportedOperationException" ["java/lang/RuntimeException", "java/lang/Exception"]).filter goodWord ++ (vx_atS RX3 66 "java/lang/UnsupportedOperationException" ["java/lang/RuntimeException", "java/lang/Exception"]).filter goodWord ++ (vx_atS RX4 181 "java/lang/IndexOutOfBoundsException" ["java/lang/RuntimeException", "java/lang/Exception"]).filter goodWord ++ (vx_atS RX4 169 "java/lang/IllegalStateException" ["java/lang/RuntimeException", "java/lang/Exception"]).filter goodWord ++ (vx_atS RX0 40 "java/lang/UnsupportedOperationException" ["java/lang/RuntimeException", "java/lang/Exception"]).filter goodWord ++ (vx_atS RX0 47 "java/lang/ArithmeticException" ["java/lang/RuntimeException", "java/lang/Exception"]).filter goodWord)
def wsX4_cost : List Cond := .code yX4_cost cX4_cost 1 (some .int) :: ([.fieldLink RX4 43 "DeskStack" "commandsDone" "I"] ++ wsX40)
def wsX4_prints : List Cond := .code yX4_prints cX4_prints 1 (some .int) :: ([.fieldLink RX4 22 "DeskStack" "printer" "LDeskStack$Shelf;", .fieldLink RX4 95 "DeskStack$Shelf" "count" "I"] ++ wsX40 ++ wsX30)
def wsX4_printed : List Cond := .code yX4_printed cX4_printed 2 (some .long) :: ([.fieldLink RX4 22 "DeskStack" "printer" "LDeskStack$Shelf;", .methodLink RX4 96 yX3_valueAt, .instanceMethod yX3_valueAt, .selects RX3 yX3_valueAt yX3_valueAt, .initialized RX3, .code yX3_valueAt cX3_valueAt 2 (some .long), .fieldLink RX3 9 "DeskStack$Shelf" "values" "[J", .methodLink RX3 32 yX3_has, .instanceMethod yX3_has, .selects RX3 yX3_has yX3_has, .code yX3_has cX3_has 2 (some .boolean), .fieldLink RX3 28 "DeskStack$Shelf" "count" "I"] ++ wsX40 ++ wsX30)
def wsX4_places : List Cond := .code yX4_places cX4_places 2 (some .int) :: ([.fieldLink RX4 22 "DeskStack" "printer" "LDeskStack$Shelf;", .methodLink RX4 100 yX3_placesAt, .instanceMethod yX3_placesAt, .selects RX3 yX3_placesAt yX3_placesAt, .initialized RX3, .code yX3_placesAt cX3_placesAt 2 (some .int), .fieldLink RX3 15 "DeskStack$Shelf" "places" "[I", .methodLink RX3 32 yX3_has, .instanceMethod yX3_has, .selects RX3 yX3_has yX3_has, .code yX3_has cX3_has 2 (some .boolean), .fieldLink RX3 28 "DeskStack$Shelf" "count" "I", .fieldLink RX3 9 "DeskStack$Shelf" "values" "[J"] ++ wsX40 ++ wsX30)
def wsX4_depth : List Cond := .code yX4_depth cX4_depth 1 (some .int) :: ([.fieldLink RX4 14 "DeskStack" "stack" "LDeskStack$Shelf;", .fieldLink RX4 95 "DeskStack$Shelf" "count" "I"] ++ wsX40 ++ wsX30)
def wsX4_item : List Cond := .code yX4_item cX4_item 2 (some .long) :: ([.fieldLink RX4 14 "DeskStack" "stack" "LDeskStack$Shelf;", .methodLink RX4 104 yX3_slotBelowTop, .instanceMethod yX3_slotBelowTop, .selects RX3 yX3_slotBelowTop yX3_slotBelowTop, .initialized RX3, .code yX3_slotBelowTop cX3_slotBelowTop 2 (some .int), .fieldLink RX3 28 "DeskStack$Shelf" "count" "I", .methodLink RX4 96 yX3_valueAt, .instanceMethod yX3_valueAt, .selects RX3 yX3_valueAt yX3_valueAt, .code yX3_valueAt cX3_valueAt 2 (some .long), .fieldLink RX3 9 "DeskStack$Shelf" "values" "[J", .methodLink RX3 32 yX3_has, .instanceMethod yX3_has, .selects RX3 yX3_has yX3_has, .code yX3_has cX3_has 2 (some .boolean)] ++ wsX40 ++ wsX30)
def wsX4_scale : List Cond := .code yX4_scale cX4_scale 2 (some .int) :: ([.fieldLink RX4 14 "DeskStack" "stack" "LDeskStack$Shelf;", .methodLink RX4 104 yX3_slotBelowTop, .instanceMethod yX3_slotBelowTop, .selects RX3 yX3_slotBelowTop yX3_slotBelowTop, .initialized RX3, .code yX3_slotBelowTop cX3_slotBelowTop 2 (some .int), .fieldLink RX3 28 "DeskStack$Shelf" "count" "I", .methodLink RX4 100 yX3_placesAt, .instanceMethod yX3_placesAt, .selects RX3 yX3_placesAt yX3_placesAt, .code yX3_placesAt cX3_placesAt 2 (some .int), .fieldLink RX3 15 "DeskStack$Shelf" "places" "[I", .methodLink RX3 32 yX3_has, .instanceMethod yX3_has, .selects RX3 yX3_has yX3_has, .code yX3_has cX3_has 2 (some .boolean), .fieldLink RX3 9 "DeskStack$Shelf" "values" "[J"] ++ wsX40 ++ wsX30)
def wsX4_held : List Cond := .code yX4_held cX4_held 3 (some .int) :: ([.fieldLink RX4 95 "DeskStack$Shelf" "count" "I", .methodLink RX4 107 yX4_registerNumbered, .instanceMethod yX4_registerNumbered, .selects RX4 yX4_registerNumbered yX4_registerNumbered, .initialized RX4, .code yX4_registerNumbered cX4_registerNumbered 2 (some (.object "DeskStack$Shelf")), .fieldLink RX4 18 "DeskStack" "registers" "[LDeskStack$Shelf;"] ++ wsX30 ++ wsX40)
def wsX4_precision : List Cond := .code yX4_precision cX4_precision 1 (some .int) :: ([.fieldLink RX4 39 "DeskStack" "keptPlaces" "I"] ++ wsX40)
def wsX4_reset : List Cond := .code yX4_reset cX4_reset 3 none :: ([.fieldLink RX4 14 "DeskStack" "stack" "LDeskStack$Shelf;", .fieldLink RX4 22 "DeskStack" "printer" "LDeskStack$Shelf;", .fieldLink RX4 39 "DeskStack" "keptPlaces" "I", .methodLink RX4 63 yX3_clear, .instanceMethod yX3_clear, .selects RX3 yX3_clear yX3_clear, .initialized RX3, .code yX3_clear cX3_clear 1 none, .fieldLink RX3 28 "DeskStack$Shelf" "count" "I", .methodLink RX4 107 yX4_registerNumbered, .instanceMethod yX4_registerNumbered, .selects RX4 yX4_registerNumbered yX4_registerNumbered, .initialized RX4, .code yX4_registerNumbered cX4_registerNumbered 2 (some (.object "DeskStack$Shelf")), .fieldLink RX4 18 "DeskStack" "registers" "[LDeskStack$Shelf;"] ++ wsX40 ++ wsX30)
def wsX5_init : List Cond := .code yX5_init cX5_init 1 none :: ([.methodLink RX5 1 objectInit, .instanceMethod objectInit, .code objectInit ⟨#[0xb1]⟩ 1 none, .arrayClass .int, .fieldLink RX5 7 "DeskStackModel" "program" "[I", .arrayClass .long, .fieldLink RX5 13 "DeskStackModel" "value" "[J", .fieldLink RX5 17 "DeskStackModel" "places" "[I", .fieldLink RX5 20 "DeskStackModel" "letters" "[I", .fieldLink RX5 23 "DeskStackModel" "held" "[I", .fieldLink RX5 26 "DeskStackModel" "text" "[I", .fieldLink RX5 29 "DeskStackModel" "size" "[I", .fieldLink RX5 32 "DeskStackModel" "at" "[I", .fieldLink RX5 35 "DeskStackModel" "shown" "[J", .fieldLink RX5 38 "DeskStackModel" "shownPlaces" "[I"] ++ wsX50)
def wsX5_thrown : List Cond := .code yX5_thrown cX5_thrown 1 (some .int) :: ([.fieldLink RX5 41 "DeskStackModel" "thrown" "I"] ++ wsX50)
def wsX5_within : List Cond := .code yX5_within cX5_within 6 (some .boolean) :: ([])
def wsX5_write : List Cond := .code yX5_write cX5_write 6 (some .int) :: ([.fieldLink RX5 41 "DeskStackModel" "thrown" "I", .fieldLink RX5 45 "DeskStackModel" "length" "I", .fieldLink RX5 7 "DeskStackModel" "program" "[I"] ++ wsX50)
def wsX5_erase : List Cond := .code yX5_erase cX5_erase 2 (some .int) :: ([.fieldLink RX5 41 "DeskStackModel" "thrown" "I", .fieldLink RX5 45 "DeskStackModel" "length" "I"] ++ wsX50)
def wsX5_copy : List Cond := .code yX5_copy cX5_copy 4 none :: ([.fieldLink RX5 13 "DeskStackModel" "value" "[J", .fieldLink RX5 17 "DeskStackModel" "places" "[I", .fieldLink RX5 20 "DeskStackModel" "letters" "[I"] ++ wsX50)
def wsX5_fail : List Cond := .code yX5_fail cX5_fail 2 (some .boolean) :: ([.fieldLink RX5 48 "DeskStackModel" "fault" "I"] ++ wsX50)
def wsX5_have : List Cond := .code yX5_have cX5_have 2 (some .boolean) :: ([.fieldLink RX5 51 "DeskStackModel" "depth" "I", .methodLink RX5 54 yX5_fail, .instanceMethod yX5_fail, .selects RX5 yX5_fail yX5_fail, .initialized RX5, .code yX5_fail cX5_fail 2 (some .boolean), .fieldLink RX5 48 "DeskStackModel" "fault" "I"] ++ wsX50)
def wsX5_numbers : List Cond := .code yX5_numbers cX5_numbers 3 (some .boolean) :: ([.fieldLink RX5 17 "DeskStackModel" "places" "[I", .fieldLink RX5 51 "DeskStackModel" "depth" "I", .methodLink RX5 58 yX5_have, .instanceMethod yX5_have, .selects RX5 yX5_have yX5_have, .initialized RX5, .code yX5_have cX5_have 2 (some .boolean), .methodLink RX5 54 yX5_fail, .instanceMethod yX5_fail, .selects RX5 yX5_fail yX5_fail, .code yX5_fail cX5_fail 2 (some .boolean), .fieldLink RX5 48 "DeskStackModel" "fault" "I"] ++ wsX50)
def wsX5_room : List Cond := .code yX5_room cX5_room 1 (some .boolean) :: ([.fieldLink RX5 51 "DeskStackModel" "depth" "I", .methodLink RX5 54 yX5_fail, .instanceMethod yX5_fail, .selects RX5 yX5_fail yX5_fail, .initialized RX5, .code yX5_fail cX5_fail 2 (some .boolean), .fieldLink RX5 48 "DeskStackModel" "fault" "I"] ++ wsX50)
def wsX5_put : List Cond := .code yX5_put cX5_put 5 none :: ([.fieldLink RX5 51 "DeskStackModel" "depth" "I", .fieldLink RX5 13 "DeskStackModel" "value" "[J", .fieldLink RX5 17 "DeskStackModel" "places" "[I"] ++ wsX50)
def wsX5_register : List Cond := .code yX5_register cX5_register 1 (some .int) :: ([])
def wsX5_topOf : List Cond := .code yX5_topOf cX5_topOf 2 (some .int) :: ([.fieldLink RX5 23 "DeskStackModel" "held" "[I"] ++ wsX50)
def wsX5_isBig : List Cond := .code yX5_isBig cX5_isBig 2 (some .boolean) :: ([.constantLong RX5 61 (999999999999999999), .constantLong RX5 63 (-999999999999999999)])
def wsX5_raised : List Cond := .code yX5_raised cX5_raised 7 (some .long) :: ([.fieldLink RX5 48 "DeskStackModel" "fault" "I", .constantLong RX5 65 (99999999999999999), .constantLong RX5 67 (-99999999999999999), .constantLong RX5 69 (10)] ++ wsX50)
def wsX5_cut : List Cond := .code yX5_cut cX5_cut 6 (some .long) :: ([.constantLong RX5 69 (10)])
def wsX5_product : List Cond := .code yX5_product cX5_product 9 (some .long) :: ([.constantLong RX5 61 (999999999999999999), .fieldLink RX5 48 "DeskStackModel" "fault" "I"] ++ wsX50)
def wsX5_greater : List Cond := .code yX5_greater cX5_greater 2 (some .int) :: ([])
def wsX5_sum_r1 : List Cond := [Cond.fieldLink RX5 17 "DeskStackModel" "places" "[I", Cond.fieldLink RX5 51 "DeskStackModel" "depth" "I", Cond.fieldLink RX5 78 "DeskStackModel" "s" "I", Cond.fieldLink RX5 13 "DeskStackModel" "value" "[J", Cond.fieldLink RX5 48 "DeskStackModel" "fault" "I", Cond.fieldLink RX5 85 "DeskStackModel" "m" "J", Cond.methodLink RX5 71 yX5_numbers, Cond.instanceMethod yX5_numbers, Cond.selects RX5 yX5_numbers yX5_numbers, Cond.initialized RX5, Cond.code yX5_numbers cX5_numbers 3 (some .boolean), Cond.methodLink RX5 58 yX5_have, Cond.instanceMethod yX5_have, Cond.selects RX5 yX5_have yX5_have, Cond.code yX5_have cX5_have 2 (some .boolean), Cond.methodLink RX5 54 yX5_fail, Cond.instanceMethod yX5_fail, Cond.selects RX5 yX5_fail yX5_fail, Cond.code yX5_fail cX5_fail 2 (some .boolean), Cond.methodLink RX5 74 yX5_greater, Cond.static yX5_greater, Cond.code yX5_greater cX5_greater 2 (some .int), Cond.methodLink RX5 81 yX5_raised, Cond.instanceMethod yX5_raised]
def wsX5_sum_r2 : List Cond := [Cond.selects RX5 yX5_raised yX5_raised, Cond.code yX5_raised cX5_raised 7 (some .long), Cond.constantLong RX5 65 (99999999999999999), Cond.constantLong RX5 67 (-99999999999999999), Cond.constantLong RX5 69 (10), Cond.methodLink RX5 89 yX5_isBig, Cond.static yX5_isBig, Cond.code yX5_isBig cX5_isBig 2 (some .boolean), Cond.constantLong RX5 61 (999999999999999999), Cond.constantLong RX5 63 (-999999999999999999)]
def wsX5_sum : List Cond := .code yX5_sum cX5_sum 6 (some .boolean) :: ((wsX5_sum_r1 ++ wsX5_sum_r2) ++ wsX50)
def wsX5_times_r1 : List Cond := [Cond.fieldLink RX5 17 "DeskStackModel" "places" "[I", Cond.fieldLink RX5 51 "DeskStackModel" "depth" "I", Cond.fieldLink RX5 93 "DeskStackModel" "precision" "I", Cond.fieldLink RX5 78 "DeskStackModel" "s" "I", Cond.fieldLink RX5 13 "DeskStackModel" "value" "[J", Cond.fieldLink RX5 85 "DeskStackModel" "m" "J", Cond.fieldLink RX5 48 "DeskStackModel" "fault" "I", Cond.methodLink RX5 71 yX5_numbers, Cond.instanceMethod yX5_numbers, Cond.selects RX5 yX5_numbers yX5_numbers, Cond.initialized RX5, Cond.code yX5_numbers cX5_numbers 3 (some .boolean), Cond.methodLink RX5 58 yX5_have, Cond.instanceMethod yX5_have, Cond.selects RX5 yX5_have yX5_have, Cond.code yX5_have cX5_have 2 (some .boolean), Cond.methodLink RX5 54 yX5_fail, Cond.instanceMethod yX5_fail, Cond.selects RX5 yX5_fail yX5_fail, Cond.code yX5_fail cX5_fail 2 (some .boolean), Cond.methodLink RX5 74 yX5_greater, Cond.static yX5_greater, Cond.code yX5_greater cX5_greater 2 (some .int), Cond.methodLink RX5 96 yX5_product]
def wsX5_times_r2 : List Cond := [Cond.instanceMethod yX5_product, Cond.selects RX5 yX5_product yX5_product, Cond.code yX5_product cX5_product 9 (some .long), Cond.constantLong RX5 61 (999999999999999999), Cond.methodLink RX5 100 yX5_cut, Cond.static yX5_cut, Cond.code yX5_cut cX5_cut 6 (some .long), Cond.constantLong RX5 69 (10)]
def wsX5_times : List Cond := .code yX5_times cX5_times 3 (some .boolean) :: ((wsX5_times_r1 ++ wsX5_times_r2) ++ wsX50)
def wsX5_quotient_r1 : List Cond := [Cond.fieldLink RX5 13 "DeskStackModel" "value" "[J", Cond.fieldLink RX5 51 "DeskStackModel" "depth" "I", Cond.fieldLink RX5 93 "DeskStackModel" "precision" "I", Cond.fieldLink RX5 17 "DeskStackModel" "places" "[I", Cond.fieldLink RX5 48 "DeskStackModel" "fault" "I", Cond.fieldLink RX5 85 "DeskStackModel" "m" "J", Cond.fieldLink RX5 78 "DeskStackModel" "s" "I", Cond.methodLink RX5 71 yX5_numbers, Cond.instanceMethod yX5_numbers, Cond.selects RX5 yX5_numbers yX5_numbers, Cond.initialized RX5, Cond.code yX5_numbers cX5_numbers 3 (some .boolean), Cond.methodLink RX5 58 yX5_have, Cond.instanceMethod yX5_have, Cond.selects RX5 yX5_have yX5_have, Cond.code yX5_have cX5_have 2 (some .boolean), Cond.methodLink RX5 54 yX5_fail, Cond.instanceMethod yX5_fail, Cond.selects RX5 yX5_fail yX5_fail, Cond.code yX5_fail cX5_fail 2 (some .boolean), Cond.methodLink RX5 81 yX5_raised, Cond.instanceMethod yX5_raised, Cond.selects RX5 yX5_raised yX5_raised, Cond.code yX5_raised cX5_raised 7 (some .long)]
def wsX5_quotient_r2 : List Cond := [Cond.constantLong RX5 65 (99999999999999999), Cond.constantLong RX5 67 (-99999999999999999), Cond.constantLong RX5 69 (10)]
def wsX5_quotient : List Cond := .code yX5_quotient cX5_quotient 6 (some .boolean) :: ((wsX5_quotient_r1 ++ wsX5_quotient_r2) ++ wsX50)
def wsX5_rest_r1 : List Cond := [Cond.fieldLink RX5 93 "DeskStackModel" "precision" "I", Cond.fieldLink RX5 17 "DeskStackModel" "places" "[I", Cond.fieldLink RX5 51 "DeskStackModel" "depth" "I", Cond.fieldLink RX5 78 "DeskStackModel" "s" "I", Cond.fieldLink RX5 85 "DeskStackModel" "m" "J", Cond.fieldLink RX5 13 "DeskStackModel" "value" "[J", Cond.fieldLink RX5 48 "DeskStackModel" "fault" "I", Cond.methodLink RX5 103 yX5_quotient, Cond.instanceMethod yX5_quotient, Cond.selects RX5 yX5_quotient yX5_quotient, Cond.initialized RX5, Cond.code yX5_quotient cX5_quotient 6 (some .boolean), Cond.methodLink RX5 71 yX5_numbers, Cond.instanceMethod yX5_numbers, Cond.selects RX5 yX5_numbers yX5_numbers, Cond.code yX5_numbers cX5_numbers 3 (some .boolean), Cond.methodLink RX5 58 yX5_have, Cond.instanceMethod yX5_have, Cond.selects RX5 yX5_have yX5_have, Cond.code yX5_have cX5_have 2 (some .boolean), Cond.methodLink RX5 54 yX5_fail, Cond.instanceMethod yX5_fail, Cond.selects RX5 yX5_fail yX5_fail, Cond.code yX5_fail cX5_fail 2 (some .boolean)]
def wsX5_rest_r2 : List Cond := [Cond.methodLink RX5 81 yX5_raised, Cond.instanceMethod yX5_raised, Cond.selects RX5 yX5_raised yX5_raised, Cond.code yX5_raised cX5_raised 7 (some .long), Cond.constantLong RX5 65 (99999999999999999), Cond.constantLong RX5 67 (-99999999999999999), Cond.constantLong RX5 69 (10), Cond.methodLink RX5 74 yX5_greater, Cond.static yX5_greater, Cond.code yX5_greater cX5_greater 2 (some .int), Cond.methodLink RX5 96 yX5_product, Cond.instanceMethod yX5_product, Cond.selects RX5 yX5_product yX5_product, Cond.code yX5_product cX5_product 9 (some .long), Cond.constantLong RX5 61 (999999999999999999), Cond.methodLink RX5 89 yX5_isBig, Cond.static yX5_isBig, Cond.code yX5_isBig cX5_isBig 2 (some .boolean), Cond.constantLong RX5 63 (-999999999999999999)]
def wsX5_rest : List Cond := .code yX5_rest cX5_rest 7 (some .boolean) :: ((wsX5_rest_r1 ++ wsX5_rest_r2) ++ wsX50)
def wsX5_root_r1 : List Cond := [Cond.fieldLink RX5 13 "DeskStackModel" "value" "[J", Cond.fieldLink RX5 51 "DeskStackModel" "depth" "I", Cond.fieldLink RX5 93 "DeskStackModel" "precision" "I", Cond.fieldLink RX5 17 "DeskStackModel" "places" "[I", Cond.fieldLink RX5 78 "DeskStackModel" "s" "I", Cond.fieldLink RX5 48 "DeskStackModel" "fault" "I", Cond.constantLong RX5 107 (1000000000), Cond.constantLong RX5 109 (2), Cond.fieldLink RX5 85 "DeskStackModel" "m" "J", Cond.methodLink RX5 71 yX5_numbers, Cond.instanceMethod yX5_numbers, Cond.selects RX5 yX5_numbers yX5_numbers, Cond.initialized RX5, Cond.code yX5_numbers cX5_numbers 3 (some .boolean), Cond.methodLink RX5 58 yX5_have, Cond.instanceMethod yX5_have, Cond.selects RX5 yX5_have yX5_have, Cond.code yX5_have cX5_have 2 (some .boolean), Cond.methodLink RX5 54 yX5_fail, Cond.instanceMethod yX5_fail, Cond.selects RX5 yX5_fail yX5_fail, Cond.code yX5_fail cX5_fail 2 (some .boolean), Cond.methodLink RX5 74 yX5_greater, Cond.static yX5_greater]
def wsX5_root_r2 : List Cond := [Cond.code yX5_greater cX5_greater 2 (some .int), Cond.methodLink RX5 81 yX5_raised, Cond.instanceMethod yX5_raised, Cond.selects RX5 yX5_raised yX5_raised, Cond.code yX5_raised cX5_raised 7 (some .long), Cond.constantLong RX5 65 (99999999999999999), Cond.constantLong RX5 67 (-99999999999999999), Cond.constantLong RX5 69 (10)]
def wsX5_root : List Cond := .code yX5_root cX5_root 10 (some .boolean) :: ((wsX5_root_r1 ++ wsX5_root_r2) ++ wsX50)
def wsX5_charAt : List Cond := .code yX5_charAt cX5_charAt 3 (some .int) :: ([.fieldLink RX5 29 "DeskStackModel" "size" "[I", .fieldLink RX5 26 "DeskStackModel" "text" "[I"] ++ wsX50)
def wsX5_isNothing : List Cond := .code yX5_isNothing cX5_isNothing 2 (some .boolean) :: ([])
def wsX5_isDone : List Cond := .code yX5_isDone cX5_isDone 4 (some .boolean) :: ([.fieldLink RX5 111 "DeskStackModel" "levels" "I", .fieldLink RX5 29 "DeskStackModel" "size" "[I", .fieldLink RX5 26 "DeskStackModel" "text" "[I", .methodLink RX5 114 yX5_isNothing, .instanceMethod yX5_isNothing, .selects RX5 yX5_isNothing yX5_isNothing, .initialized RX5, .code yX5_isNothing cX5_isNothing 2 (some .boolean)] ++ wsX50)
def wsX5_mayRun : List Cond := .code yX5_mayRun cX5_mayRun 2 (some .boolean) :: ([.fieldLink RX5 111 "DeskStackModel" "levels" "I", .methodLink RX5 117 yX5_isDone, .instanceMethod yX5_isDone, .selects RX5 yX5_isDone yX5_isDone, .initialized RX5, .code yX5_isDone cX5_isDone 4 (some .boolean), .fieldLink RX5 29 "DeskStackModel" "size" "[I", .fieldLink RX5 26 "DeskStackModel" "text" "[I", .methodLink RX5 114 yX5_isNothing, .instanceMethod yX5_isNothing, .selects RX5 yX5_isNothing yX5_isNothing, .code yX5_isNothing cX5_isNothing 2 (some .boolean), .methodLink RX5 54 yX5_fail, .instanceMethod yX5_fail, .selects RX5 yX5_fail yX5_fail, .code yX5_fail cX5_fail 2 (some .boolean), .fieldLink RX5 48 "DeskStackModel" "fault" "I"] ++ wsX50)
def wsX5_begin : List Cond := .code yX5_begin cX5_begin 4 none :: ([.fieldLink RX5 32 "DeskStackModel" "at" "[I", .fieldLink RX5 111 "DeskStackModel" "levels" "I", .fieldLink RX5 29 "DeskStackModel" "size" "[I", .fieldLink RX5 13 "DeskStackModel" "value" "[J", .fieldLink RX5 26 "DeskStackModel" "text" "[I", .fieldLink RX5 20 "DeskStackModel" "letters" "[I", .methodLink RX5 117 yX5_isDone, .instanceMethod yX5_isDone, .selects RX5 yX5_isDone yX5_isDone, .initialized RX5, .code yX5_isDone cX5_isDone 4 (some .boolean), .methodLink RX5 114 yX5_isNothing, .instanceMethod yX5_isNothing, .selects RX5 yX5_isNothing yX5_isNothing, .code yX5_isNothing cX5_isNothing 2 (some .boolean)] ++ wsX50)
def wsX5_digits_r1 : List Cond := [Cond.fieldLink RX5 111 "DeskStackModel" "levels" "I", Cond.constantLong RX5 123 (48), Cond.constantLong RX5 125 (57), Cond.constantLong RX5 69 (10), Cond.fieldLink RX5 32 "DeskStackModel" "at" "[I", Cond.methodLink RX5 120 yX5_charAt, Cond.instanceMethod yX5_charAt, Cond.selects RX5 yX5_charAt yX5_charAt, Cond.initialized RX5, Cond.code yX5_charAt cX5_charAt 3 (some .int), Cond.fieldLink RX5 29 "DeskStackModel" "size" "[I", Cond.fieldLink RX5 26 "DeskStackModel" "text" "[I", Cond.methodLink RX5 127 yX5_within, Cond.static yX5_within, Cond.code yX5_within cX5_within 6 (some .boolean), Cond.methodLink RX5 54 yX5_fail, Cond.instanceMethod yX5_fail, Cond.selects RX5 yX5_fail yX5_fail, Cond.code yX5_fail cX5_fail 2 (some .boolean), Cond.fieldLink RX5 48 "DeskStackModel" "fault" "I", Cond.methodLink RX5 131 yX5_room, Cond.instanceMethod yX5_room, Cond.selects RX5 yX5_room yX5_room, Cond.code yX5_room cX5_room 1 (some .boolean)]
def wsX5_digits_r2 : List Cond := [Cond.fieldLink RX5 51 "DeskStackModel" "depth" "I", Cond.methodLink RX5 134 yX5_put, Cond.instanceMethod yX5_put, Cond.selects RX5 yX5_put yX5_put, Cond.code yX5_put cX5_put 5 none, Cond.fieldLink RX5 13 "DeskStackModel" "value" "[J", Cond.fieldLink RX5 17 "DeskStackModel" "places" "[I"]
def wsX5_digits : List Cond := .code yX5_digits cX5_digits 11 (some .boolean) :: ((wsX5_digits_r1 ++ wsX5_digits_r2) ++ wsX50)
def wsX5_brackets : List Cond := .code yX5_brackets cX5_brackets 7 (some .boolean) :: ([.fieldLink RX5 111 "DeskStackModel" "levels" "I", .fieldLink RX5 29 "DeskStackModel" "size" "[I", .fieldLink RX5 26 "DeskStackModel" "text" "[I", .fieldLink RX5 20 "DeskStackModel" "letters" "[I", .fieldLink RX5 51 "DeskStackModel" "depth" "I", .fieldLink RX5 32 "DeskStackModel" "at" "[I", .methodLink RX5 54 yX5_fail, .instanceMethod yX5_fail, .selects RX5 yX5_fail yX5_fail, .initialized RX5, .code yX5_fail cX5_fail 2 (some .boolean), .fieldLink RX5 48 "DeskStackModel" "fault" "I", .methodLink RX5 131 yX5_room, .instanceMethod yX5_room, .selects RX5 yX5_room yX5_room, .code yX5_room cX5_room 1 (some .boolean), .methodLink RX5 134 yX5_put, .instanceMethod yX5_put, .selects RX5 yX5_put yX5_put, .code yX5_put cX5_put 5 none, .fieldLink RX5 13 "DeskStackModel" "value" "[J", .fieldLink RX5 17 "DeskStackModel" "places" "[I"] ++ wsX50)
def wsX5_calculates_r1 : List Cond := [Cond.fieldLink RX5 13 "DeskStackModel" "value" "[J", Cond.fieldLink RX5 51 "DeskStackModel" "depth" "I", Cond.fieldLink RX5 17 "DeskStackModel" "places" "[I", Cond.constantLong RX5 151 (9), Cond.fieldLink RX5 93 "DeskStackModel" "precision" "I", Cond.fieldLink RX5 85 "DeskStackModel" "m" "J", Cond.fieldLink RX5 78 "DeskStackModel" "s" "I", Cond.methodLink RX5 138 yX5_sum, Cond.instanceMethod yX5_sum, Cond.selects RX5 yX5_sum yX5_sum, Cond.initialized RX5, Cond.code yX5_sum cX5_sum 6 (some .boolean), Cond.fieldLink RX5 48 "DeskStackModel" "fault" "I", Cond.methodLink RX5 71 yX5_numbers, Cond.instanceMethod yX5_numbers, Cond.selects RX5 yX5_numbers yX5_numbers, Cond.code yX5_numbers cX5_numbers 3 (some .boolean), Cond.methodLink RX5 58 yX5_have, Cond.instanceMethod yX5_have, Cond.selects RX5 yX5_have yX5_have, Cond.code yX5_have cX5_have 2 (some .boolean), Cond.methodLink RX5 54 yX5_fail, Cond.instanceMethod yX5_fail, Cond.selects RX5 yX5_fail yX5_fail]
def wsX5_calculates_r2 : List Cond := [Cond.code yX5_fail cX5_fail 2 (some .boolean), Cond.methodLink RX5 74 yX5_greater, Cond.static yX5_greater, Cond.code yX5_greater cX5_greater 2 (some .int), Cond.methodLink RX5 81 yX5_raised, Cond.instanceMethod yX5_raised, Cond.selects RX5 yX5_raised yX5_raised, Cond.code yX5_raised cX5_raised 7 (some .long), Cond.constantLong RX5 65 (99999999999999999), Cond.constantLong RX5 67 (-99999999999999999), Cond.constantLong RX5 69 (10), Cond.methodLink RX5 89 yX5_isBig, Cond.static yX5_isBig, Cond.code yX5_isBig cX5_isBig 2 (some .boolean), Cond.constantLong RX5 61 (999999999999999999), Cond.constantLong RX5 63 (-999999999999999999), Cond.methodLink RX5 142 yX5_times, Cond.instanceMethod yX5_times, Cond.selects RX5 yX5_times yX5_times, Cond.code yX5_times cX5_times 3 (some .boolean), Cond.methodLink RX5 96 yX5_product, Cond.instanceMethod yX5_product, Cond.selects RX5 yX5_product yX5_product, Cond.code yX5_product cX5_product 9 (some .long)]
def wsX5_calculates_r3 : List Cond := [Cond.methodLink RX5 100 yX5_cut, Cond.static yX5_cut, Cond.code yX5_cut cX5_cut 6 (some .long), Cond.methodLink RX5 103 yX5_quotient, Cond.instanceMethod yX5_quotient, Cond.selects RX5 yX5_quotient yX5_quotient, Cond.code yX5_quotient cX5_quotient 6 (some .boolean), Cond.methodLink RX5 145 yX5_rest, Cond.instanceMethod yX5_rest, Cond.selects RX5 yX5_rest yX5_rest, Cond.code yX5_rest cX5_rest 7 (some .boolean), Cond.methodLink RX5 148 yX5_root, Cond.instanceMethod yX5_root, Cond.selects RX5 yX5_root yX5_root, Cond.code yX5_root cX5_root 10 (some .boolean), Cond.constantLong RX5 107 (1000000000), Cond.constantLong RX5 109 (2), Cond.methodLink RX5 134 yX5_put, Cond.instanceMethod yX5_put, Cond.selects RX5 yX5_put yX5_put, Cond.code yX5_put cX5_put 5 none, Cond.methodLink RX5 127 yX5_within, Cond.static yX5_within, Cond.code yX5_within cX5_within 6 (some .boolean)]
def wsX5_calculates : List Cond := .code yX5_calculates cX5_calculates 8 (some .boolean) :: ((wsX5_calculates_r1 ++ (wsX5_calculates_r2 ++ wsX5_calculates_r3)) ++ wsX50)
def wsX5_moves_r1 : List Cond := [Cond.fieldLink RX5 51 "DeskStackModel" "depth" "I", Cond.fieldLink RX5 93 "DeskStackModel" "precision" "I", Cond.fieldLink RX5 157 "DeskStackModel" "prints" "I", Cond.fieldLink RX5 35 "DeskStackModel" "shown" "[J", Cond.fieldLink RX5 13 "DeskStackModel" "value" "[J", Cond.fieldLink RX5 38 "DeskStackModel" "shownPlaces" "[I", Cond.fieldLink RX5 17 "DeskStackModel" "places" "[I", Cond.methodLink RX5 131 yX5_room, Cond.instanceMethod yX5_room, Cond.selects RX5 yX5_room yX5_room, Cond.initialized RX5, Cond.code yX5_room cX5_room 1 (some .boolean), Cond.methodLink RX5 54 yX5_fail, Cond.instanceMethod yX5_fail, Cond.selects RX5 yX5_fail yX5_fail, Cond.code yX5_fail cX5_fail 2 (some .boolean), Cond.fieldLink RX5 48 "DeskStackModel" "fault" "I", Cond.methodLink RX5 134 yX5_put, Cond.instanceMethod yX5_put, Cond.selects RX5 yX5_put yX5_put, Cond.code yX5_put cX5_put 5 none, Cond.methodLink RX5 58 yX5_have, Cond.instanceMethod yX5_have, Cond.selects RX5 yX5_have yX5_have]
def wsX5_moves_r2 : List Cond := [Cond.code yX5_have cX5_have 2 (some .boolean), Cond.methodLink RX5 153 yX5_copy, Cond.instanceMethod yX5_copy, Cond.selects RX5 yX5_copy yX5_copy, Cond.code yX5_copy cX5_copy 4 none, Cond.fieldLink RX5 20 "DeskStackModel" "letters" "[I"]
def wsX5_moves : List Cond := .code yX5_moves cX5_moves 2 (some .boolean) :: ((wsX5_moves_r1 ++ wsX5_moves_r2) ++ wsX50)
def wsX5_stores_r1 : List Cond := [Cond.fieldLink RX5 23 "DeskStackModel" "held" "[I", Cond.fieldLink RX5 51 "DeskStackModel" "depth" "I", Cond.methodLink RX5 58 yX5_have, Cond.instanceMethod yX5_have, Cond.selects RX5 yX5_have yX5_have, Cond.initialized RX5, Cond.code yX5_have cX5_have 2 (some .boolean), Cond.methodLink RX5 54 yX5_fail, Cond.instanceMethod yX5_fail, Cond.selects RX5 yX5_fail yX5_fail, Cond.code yX5_fail cX5_fail 2 (some .boolean), Cond.fieldLink RX5 48 "DeskStackModel" "fault" "I", Cond.methodLink RX5 160 yX5_topOf, Cond.instanceMethod yX5_topOf, Cond.selects RX5 yX5_topOf yX5_topOf, Cond.code yX5_topOf cX5_topOf 2 (some .int), Cond.methodLink RX5 153 yX5_copy, Cond.instanceMethod yX5_copy, Cond.selects RX5 yX5_copy yX5_copy, Cond.code yX5_copy cX5_copy 4 none, Cond.fieldLink RX5 13 "DeskStackModel" "value" "[J", Cond.fieldLink RX5 17 "DeskStackModel" "places" "[I", Cond.fieldLink RX5 20 "DeskStackModel" "letters" "[I", Cond.methodLink RX5 131 yX5_room]
def wsX5_stores_r2 : List Cond := [Cond.instanceMethod yX5_room, Cond.selects RX5 yX5_room yX5_room, Cond.code yX5_room cX5_room 1 (some .boolean)]
def wsX5_stores : List Cond := .code yX5_stores cX5_stores 4 (some .boolean) :: ((wsX5_stores_r1 ++ wsX5_stores_r2) ++ wsX50)
def wsX5_compared : List Cond := .code yX5_compared cX5_compared 6 (some .boolean) :: ([.fieldLink RX5 17 "DeskStackModel" "places" "[I", .fieldLink RX5 51 "DeskStackModel" "depth" "I", .fieldLink RX5 13 "DeskStackModel" "value" "[J", .constantLong RX5 173 (-1), .fieldLink RX5 85 "DeskStackModel" "m" "J", .fieldLink RX5 48 "DeskStackModel" "fault" "I", .methodLink RX5 74 yX5_greater, .static yX5_greater, .initialized RX5, .code yX5_greater cX5_greater 2 (some .int), .methodLink RX5 81 yX5_raised, .instanceMethod yX5_raised, .selects RX5 yX5_raised yX5_raised, .code yX5_raised cX5_raised 7 (some .long), .constantLong RX5 65 (99999999999999999), .constantLong RX5 67 (-99999999999999999), .constantLong RX5 69 (10)] ++ wsX50)
def wsX5_tests_r1 : List Cond := [Cond.fieldLink RX5 85 "DeskStackModel" "m" "J", Cond.fieldLink RX5 51 "DeskStackModel" "depth" "I", Cond.fieldLink RX5 23 "DeskStackModel" "held" "[I", Cond.fieldLink RX5 17 "DeskStackModel" "places" "[I", Cond.methodLink RX5 71 yX5_numbers, Cond.instanceMethod yX5_numbers, Cond.selects RX5 yX5_numbers yX5_numbers, Cond.initialized RX5, Cond.code yX5_numbers cX5_numbers 3 (some .boolean), Cond.methodLink RX5 58 yX5_have, Cond.instanceMethod yX5_have, Cond.selects RX5 yX5_have yX5_have, Cond.code yX5_have cX5_have 2 (some .boolean), Cond.methodLink RX5 54 yX5_fail, Cond.instanceMethod yX5_fail, Cond.selects RX5 yX5_fail yX5_fail, Cond.code yX5_fail cX5_fail 2 (some .boolean), Cond.fieldLink RX5 48 "DeskStackModel" "fault" "I", Cond.methodLink RX5 164 yX5_compared, Cond.instanceMethod yX5_compared, Cond.selects RX5 yX5_compared yX5_compared, Cond.code yX5_compared cX5_compared 6 (some .boolean), Cond.fieldLink RX5 13 "DeskStackModel" "value" "[J", Cond.constantLong RX5 173 (-1)]
def wsX5_tests_r2 : List Cond := [Cond.methodLink RX5 74 yX5_greater, Cond.static yX5_greater, Cond.code yX5_greater cX5_greater 2 (some .int), Cond.methodLink RX5 81 yX5_raised, Cond.instanceMethod yX5_raised, Cond.selects RX5 yX5_raised yX5_raised, Cond.code yX5_raised cX5_raised 7 (some .long), Cond.constantLong RX5 65 (99999999999999999), Cond.constantLong RX5 67 (-99999999999999999), Cond.constantLong RX5 69 (10), Cond.methodLink RX5 160 yX5_topOf, Cond.instanceMethod yX5_topOf, Cond.selects RX5 yX5_topOf yX5_topOf, Cond.code yX5_topOf cX5_topOf 2 (some .int), Cond.methodLink RX5 167 yX5_mayRun, Cond.instanceMethod yX5_mayRun, Cond.selects RX5 yX5_mayRun yX5_mayRun, Cond.code yX5_mayRun cX5_mayRun 2 (some .boolean), Cond.fieldLink RX5 111 "DeskStackModel" "levels" "I", Cond.methodLink RX5 117 yX5_isDone, Cond.instanceMethod yX5_isDone, Cond.selects RX5 yX5_isDone yX5_isDone, Cond.code yX5_isDone cX5_isDone 4 (some .boolean), Cond.fieldLink RX5 29 "DeskStackModel" "size" "[I"]
def wsX5_tests_r3 : List Cond := [Cond.fieldLink RX5 26 "DeskStackModel" "text" "[I", Cond.methodLink RX5 114 yX5_isNothing, Cond.instanceMethod yX5_isNothing, Cond.selects RX5 yX5_isNothing yX5_isNothing, Cond.code yX5_isNothing cX5_isNothing 2 (some .boolean), Cond.methodLink RX5 170 yX5_begin, Cond.instanceMethod yX5_begin, Cond.selects RX5 yX5_begin yX5_begin, Cond.code yX5_begin cX5_begin 4 none, Cond.fieldLink RX5 32 "DeskStackModel" "at" "[I", Cond.fieldLink RX5 20 "DeskStackModel" "letters" "[I"]
def wsX5_tests : List Cond := .code yX5_tests cX5_tests 5 (some .boolean) :: ((wsX5_tests_r1 ++ (wsX5_tests_r2 ++ wsX5_tests_r3)) ++ wsX50)
def wsX5_runs_r1 : List Cond := [Cond.fieldLink RX5 17 "DeskStackModel" "places" "[I", Cond.fieldLink RX5 51 "DeskStackModel" "depth" "I", Cond.methodLink RX5 58 yX5_have, Cond.instanceMethod yX5_have, Cond.selects RX5 yX5_have yX5_have, Cond.initialized RX5, Cond.code yX5_have cX5_have 2 (some .boolean), Cond.methodLink RX5 54 yX5_fail, Cond.instanceMethod yX5_fail, Cond.selects RX5 yX5_fail yX5_fail, Cond.code yX5_fail cX5_fail 2 (some .boolean), Cond.fieldLink RX5 48 "DeskStackModel" "fault" "I", Cond.methodLink RX5 167 yX5_mayRun, Cond.instanceMethod yX5_mayRun, Cond.selects RX5 yX5_mayRun yX5_mayRun, Cond.code yX5_mayRun cX5_mayRun 2 (some .boolean), Cond.fieldLink RX5 111 "DeskStackModel" "levels" "I", Cond.methodLink RX5 117 yX5_isDone, Cond.instanceMethod yX5_isDone, Cond.selects RX5 yX5_isDone yX5_isDone, Cond.code yX5_isDone cX5_isDone 4 (some .boolean), Cond.fieldLink RX5 29 "DeskStackModel" "size" "[I", Cond.fieldLink RX5 26 "DeskStackModel" "text" "[I", Cond.methodLink RX5 114 yX5_isNothing]
def wsX5_runs_r2 : List Cond := [Cond.instanceMethod yX5_isNothing, Cond.selects RX5 yX5_isNothing yX5_isNothing, Cond.code yX5_isNothing cX5_isNothing 2 (some .boolean), Cond.methodLink RX5 170 yX5_begin, Cond.instanceMethod yX5_begin, Cond.selects RX5 yX5_begin yX5_begin, Cond.code yX5_begin cX5_begin 4 none, Cond.fieldLink RX5 32 "DeskStackModel" "at" "[I", Cond.fieldLink RX5 13 "DeskStackModel" "value" "[J", Cond.fieldLink RX5 20 "DeskStackModel" "letters" "[I"]
def wsX5_runs : List Cond := .code yX5_runs cX5_runs 2 (some .boolean) :: ((wsX5_runs_r1 ++ wsX5_runs_r2) ++ wsX50)
def wsX5_isOne : List Cond := .code yX5_isOne cX5_isOne 5 (some .boolean) :: ([])
def wsX5_command_r1 : List Cond := [Cond.fieldLink RX5 111 "DeskStackModel" "levels" "I", Cond.constantLong RX5 123 (48), Cond.constantLong RX5 125 (57), Cond.constantLong RX5 185 (97), Cond.constantLong RX5 187 (100), Cond.fieldLink RX5 32 "DeskStackModel" "at" "[I", Cond.fieldLink RX5 203 "DeskStackModel" "over" "Z", Cond.methodLink RX5 120 yX5_charAt, Cond.instanceMethod yX5_charAt, Cond.selects RX5 yX5_charAt yX5_charAt, Cond.initialized RX5, Cond.code yX5_charAt cX5_charAt 3 (some .int), Cond.fieldLink RX5 29 "DeskStackModel" "size" "[I", Cond.fieldLink RX5 26 "DeskStackModel" "text" "[I", Cond.methodLink RX5 127 yX5_within, Cond.static yX5_within, Cond.code yX5_within cX5_within 6 (some .boolean), Cond.methodLink RX5 175 yX5_digits, Cond.instanceMethod yX5_digits, Cond.selects RX5 yX5_digits yX5_digits, Cond.code yX5_digits cX5_digits 11 (some .boolean), Cond.constantLong RX5 69 (10), Cond.methodLink RX5 54 yX5_fail, Cond.instanceMethod yX5_fail]
def wsX5_command_r2 : List Cond := [Cond.selects RX5 yX5_fail yX5_fail, Cond.code yX5_fail cX5_fail 2 (some .boolean), Cond.fieldLink RX5 48 "DeskStackModel" "fault" "I", Cond.methodLink RX5 131 yX5_room, Cond.instanceMethod yX5_room, Cond.selects RX5 yX5_room yX5_room, Cond.code yX5_room cX5_room 1 (some .boolean), Cond.fieldLink RX5 51 "DeskStackModel" "depth" "I", Cond.methodLink RX5 134 yX5_put, Cond.instanceMethod yX5_put, Cond.selects RX5 yX5_put yX5_put, Cond.code yX5_put cX5_put 5 none, Cond.fieldLink RX5 13 "DeskStackModel" "value" "[J", Cond.fieldLink RX5 17 "DeskStackModel" "places" "[I", Cond.methodLink RX5 178 yX5_brackets, Cond.instanceMethod yX5_brackets, Cond.selects RX5 yX5_brackets yX5_brackets, Cond.code yX5_brackets cX5_brackets 7 (some .boolean), Cond.fieldLink RX5 20 "DeskStackModel" "letters" "[I", Cond.methodLink RX5 181 yX5_isOne, Cond.static yX5_isOne, Cond.code yX5_isOne cX5_isOne 5 (some .boolean), Cond.methodLink RX5 189 yX5_register, Cond.static yX5_register]
def wsX5_command_r3 : List Cond := [Cond.code yX5_register cX5_register 1 (some .int), Cond.methodLink RX5 192 yX5_stores, Cond.instanceMethod yX5_stores, Cond.selects RX5 yX5_stores yX5_stores, Cond.code yX5_stores cX5_stores 4 (some .boolean), Cond.fieldLink RX5 23 "DeskStackModel" "held" "[I", Cond.methodLink RX5 58 yX5_have, Cond.instanceMethod yX5_have, Cond.selects RX5 yX5_have yX5_have, Cond.code yX5_have cX5_have 2 (some .boolean), Cond.methodLink RX5 160 yX5_topOf, Cond.instanceMethod yX5_topOf, Cond.selects RX5 yX5_topOf yX5_topOf, Cond.code yX5_topOf cX5_topOf 2 (some .int), Cond.methodLink RX5 153 yX5_copy, Cond.instanceMethod yX5_copy, Cond.selects RX5 yX5_copy yX5_copy, Cond.code yX5_copy cX5_copy 4 none, Cond.methodLink RX5 196 yX5_tests, Cond.instanceMethod yX5_tests, Cond.selects RX5 yX5_tests yX5_tests, Cond.code yX5_tests cX5_tests 5 (some .boolean), Cond.fieldLink RX5 85 "DeskStackModel" "m" "J", Cond.methodLink RX5 71 yX5_numbers]
def wsX5_command_r4 : List Cond := [Cond.instanceMethod yX5_numbers, Cond.selects RX5 yX5_numbers yX5_numbers, Cond.code yX5_numbers cX5_numbers 3 (some .boolean), Cond.methodLink RX5 164 yX5_compared, Cond.instanceMethod yX5_compared, Cond.selects RX5 yX5_compared yX5_compared, Cond.code yX5_compared cX5_compared 6 (some .boolean), Cond.constantLong RX5 173 (-1), Cond.methodLink RX5 74 yX5_greater, Cond.static yX5_greater, Cond.code yX5_greater cX5_greater 2 (some .int), Cond.methodLink RX5 81 yX5_raised, Cond.instanceMethod yX5_raised, Cond.selects RX5 yX5_raised yX5_raised, Cond.code yX5_raised cX5_raised 7 (some .long), Cond.constantLong RX5 65 (99999999999999999), Cond.constantLong RX5 67 (-99999999999999999), Cond.methodLink RX5 167 yX5_mayRun, Cond.instanceMethod yX5_mayRun, Cond.selects RX5 yX5_mayRun yX5_mayRun, Cond.code yX5_mayRun cX5_mayRun 2 (some .boolean), Cond.methodLink RX5 117 yX5_isDone, Cond.instanceMethod yX5_isDone, Cond.selects RX5 yX5_isDone yX5_isDone]
def wsX5_command_r5 : List Cond := [Cond.code yX5_isDone cX5_isDone 4 (some .boolean), Cond.methodLink RX5 114 yX5_isNothing, Cond.instanceMethod yX5_isNothing, Cond.selects RX5 yX5_isNothing yX5_isNothing, Cond.code yX5_isNothing cX5_isNothing 2 (some .boolean), Cond.methodLink RX5 170 yX5_begin, Cond.instanceMethod yX5_begin, Cond.selects RX5 yX5_begin yX5_begin, Cond.code yX5_begin cX5_begin 4 none, Cond.methodLink RX5 200 yX5_runs, Cond.instanceMethod yX5_runs, Cond.selects RX5 yX5_runs yX5_runs, Cond.code yX5_runs cX5_runs 2 (some .boolean), Cond.methodLink RX5 207 yX5_calculates, Cond.instanceMethod yX5_calculates, Cond.selects RX5 yX5_calculates yX5_calculates, Cond.code yX5_calculates cX5_calculates 8 (some .boolean), Cond.constantLong RX5 151 (9), Cond.fieldLink RX5 93 "DeskStackModel" "precision" "I", Cond.fieldLink RX5 78 "DeskStackModel" "s" "I", Cond.methodLink RX5 138 yX5_sum, Cond.instanceMethod yX5_sum, Cond.selects RX5 yX5_sum yX5_sum, Cond.code yX5_sum cX5_sum 6 (some .boolean)]
def wsX5_command_r6 : List Cond := [Cond.methodLink RX5 89 yX5_isBig, Cond.static yX5_isBig, Cond.code yX5_isBig cX5_isBig 2 (some .boolean), Cond.constantLong RX5 61 (999999999999999999), Cond.constantLong RX5 63 (-999999999999999999), Cond.methodLink RX5 142 yX5_times, Cond.instanceMethod yX5_times, Cond.selects RX5 yX5_times yX5_times, Cond.code yX5_times cX5_times 3 (some .boolean), Cond.methodLink RX5 96 yX5_product, Cond.instanceMethod yX5_product, Cond.selects RX5 yX5_product yX5_product, Cond.code yX5_product cX5_product 9 (some .long), Cond.methodLink RX5 100 yX5_cut, Cond.static yX5_cut, Cond.code yX5_cut cX5_cut 6 (some .long), Cond.methodLink RX5 103 yX5_quotient, Cond.instanceMethod yX5_quotient, Cond.selects RX5 yX5_quotient yX5_quotient, Cond.code yX5_quotient cX5_quotient 6 (some .boolean), Cond.methodLink RX5 145 yX5_rest, Cond.instanceMethod yX5_rest, Cond.selects RX5 yX5_rest yX5_rest, Cond.code yX5_rest cX5_rest 7 (some .boolean)]
def wsX5_command_r7 : List Cond := [Cond.methodLink RX5 148 yX5_root, Cond.instanceMethod yX5_root, Cond.selects RX5 yX5_root yX5_root, Cond.code yX5_root cX5_root 10 (some .boolean), Cond.constantLong RX5 107 (1000000000), Cond.constantLong RX5 109 (2), Cond.methodLink RX5 210 yX5_moves, Cond.instanceMethod yX5_moves, Cond.selects RX5 yX5_moves yX5_moves, Cond.code yX5_moves cX5_moves 2 (some .boolean), Cond.fieldLink RX5 157 "DeskStackModel" "prints" "I", Cond.fieldLink RX5 35 "DeskStackModel" "shown" "[J", Cond.fieldLink RX5 38 "DeskStackModel" "shownPlaces" "[I"]
def wsX5_command : List Cond := .code yX5_command cX5_command 7 (some .boolean) :: ((wsX5_command_r1 ++ (wsX5_command_r2 ++ (wsX5_command_r3 ++ (wsX5_command_r4 ++ (wsX5_command_r5 ++ (wsX5_command_r6 ++ wsX5_command_r7)))))) ++ wsX50)
def wsX5_run_r1 : List Cond := [Cond.fieldLink RX5 41 "DeskStackModel" "thrown" "I", Cond.constantLong RX5 213 (500), Cond.fieldLink RX5 157 "DeskStackModel" "prints" "I", Cond.fieldLink RX5 215 "DeskStackModel" "cost" "I", Cond.fieldLink RX5 48 "DeskStackModel" "fault" "I", Cond.fieldLink RX5 203 "DeskStackModel" "over" "Z", Cond.fieldLink RX5 111 "DeskStackModel" "levels" "I", Cond.fieldLink RX5 29 "DeskStackModel" "size" "[I", Cond.fieldLink RX5 45 "DeskStackModel" "length" "I", Cond.fieldLink RX5 32 "DeskStackModel" "at" "[I", Cond.fieldLink RX5 26 "DeskStackModel" "text" "[I", Cond.fieldLink RX5 7 "DeskStackModel" "program" "[I", Cond.constant RX5 218 (200000), Cond.methodLink RX5 127 yX5_within, Cond.static yX5_within, Cond.initialized RX5, Cond.code yX5_within cX5_within 6 (some .boolean), Cond.methodLink RX5 114 yX5_isNothing, Cond.instanceMethod yX5_isNothing, Cond.selects RX5 yX5_isNothing yX5_isNothing, Cond.code yX5_isNothing cX5_isNothing 2 (some .boolean), Cond.methodLink RX5 219 yX5_command, Cond.instanceMethod yX5_command, Cond.selects RX5 yX5_command yX5_command]
def wsX5_run_r2 : List Cond := [Cond.code yX5_command cX5_command 7 (some .boolean), Cond.constantLong RX5 123 (48), Cond.constantLong RX5 125 (57), Cond.constantLong RX5 185 (97), Cond.constantLong RX5 187 (100), Cond.methodLink RX5 120 yX5_charAt, Cond.instanceMethod yX5_charAt, Cond.selects RX5 yX5_charAt yX5_charAt, Cond.code yX5_charAt cX5_charAt 3 (some .int), Cond.methodLink RX5 175 yX5_digits, Cond.instanceMethod yX5_digits, Cond.selects RX5 yX5_digits yX5_digits, Cond.code yX5_digits cX5_digits 11 (some .boolean), Cond.constantLong RX5 69 (10), Cond.methodLink RX5 54 yX5_fail, Cond.instanceMethod yX5_fail, Cond.selects RX5 yX5_fail yX5_fail, Cond.code yX5_fail cX5_fail 2 (some .boolean), Cond.methodLink RX5 131 yX5_room, Cond.instanceMethod yX5_room, Cond.selects RX5 yX5_room yX5_room, Cond.code yX5_room cX5_room 1 (some .boolean), Cond.fieldLink RX5 51 "DeskStackModel" "depth" "I", Cond.methodLink RX5 134 yX5_put]
def wsX5_run_r3 : List Cond := [Cond.instanceMethod yX5_put, Cond.selects RX5 yX5_put yX5_put, Cond.code yX5_put cX5_put 5 none, Cond.fieldLink RX5 13 "DeskStackModel" "value" "[J", Cond.fieldLink RX5 17 "DeskStackModel" "places" "[I", Cond.methodLink RX5 178 yX5_brackets, Cond.instanceMethod yX5_brackets, Cond.selects RX5 yX5_brackets yX5_brackets, Cond.code yX5_brackets cX5_brackets 7 (some .boolean), Cond.fieldLink RX5 20 "DeskStackModel" "letters" "[I", Cond.methodLink RX5 181 yX5_isOne, Cond.static yX5_isOne, Cond.code yX5_isOne cX5_isOne 5 (some .boolean), Cond.methodLink RX5 189 yX5_register, Cond.static yX5_register, Cond.code yX5_register cX5_register 1 (some .int), Cond.methodLink RX5 192 yX5_stores, Cond.instanceMethod yX5_stores, Cond.selects RX5 yX5_stores yX5_stores, Cond.code yX5_stores cX5_stores 4 (some .boolean), Cond.fieldLink RX5 23 "DeskStackModel" "held" "[I", Cond.methodLink RX5 58 yX5_have, Cond.instanceMethod yX5_have, Cond.selects RX5 yX5_have yX5_have]
def wsX5_run_r4 : List Cond := [Cond.code yX5_have cX5_have 2 (some .boolean), Cond.methodLink RX5 160 yX5_topOf, Cond.instanceMethod yX5_topOf, Cond.selects RX5 yX5_topOf yX5_topOf, Cond.code yX5_topOf cX5_topOf 2 (some .int), Cond.methodLink RX5 153 yX5_copy, Cond.instanceMethod yX5_copy, Cond.selects RX5 yX5_copy yX5_copy, Cond.code yX5_copy cX5_copy 4 none, Cond.methodLink RX5 196 yX5_tests, Cond.instanceMethod yX5_tests, Cond.selects RX5 yX5_tests yX5_tests, Cond.code yX5_tests cX5_tests 5 (some .boolean), Cond.fieldLink RX5 85 "DeskStackModel" "m" "J", Cond.methodLink RX5 71 yX5_numbers, Cond.instanceMethod yX5_numbers, Cond.selects RX5 yX5_numbers yX5_numbers, Cond.code yX5_numbers cX5_numbers 3 (some .boolean), Cond.methodLink RX5 164 yX5_compared, Cond.instanceMethod yX5_compared, Cond.selects RX5 yX5_compared yX5_compared, Cond.code yX5_compared cX5_compared 6 (some .boolean), Cond.constantLong RX5 173 (-1), Cond.methodLink RX5 74 yX5_greater]
def wsX5_run_r5 : List Cond := [Cond.static yX5_greater, Cond.code yX5_greater cX5_greater 2 (some .int), Cond.methodLink RX5 81 yX5_raised, Cond.instanceMethod yX5_raised, Cond.selects RX5 yX5_raised yX5_raised, Cond.code yX5_raised cX5_raised 7 (some .long), Cond.constantLong RX5 65 (99999999999999999), Cond.constantLong RX5 67 (-99999999999999999), Cond.methodLink RX5 167 yX5_mayRun, Cond.instanceMethod yX5_mayRun, Cond.selects RX5 yX5_mayRun yX5_mayRun, Cond.code yX5_mayRun cX5_mayRun 2 (some .boolean), Cond.methodLink RX5 117 yX5_isDone, Cond.instanceMethod yX5_isDone, Cond.selects RX5 yX5_isDone yX5_isDone, Cond.code yX5_isDone cX5_isDone 4 (some .boolean), Cond.methodLink RX5 170 yX5_begin, Cond.instanceMethod yX5_begin, Cond.selects RX5 yX5_begin yX5_begin, Cond.code yX5_begin cX5_begin 4 none, Cond.methodLink RX5 200 yX5_runs, Cond.instanceMethod yX5_runs, Cond.selects RX5 yX5_runs yX5_runs, Cond.code yX5_runs cX5_runs 2 (some .boolean)]
def wsX5_run_r6 : List Cond := [Cond.methodLink RX5 207 yX5_calculates, Cond.instanceMethod yX5_calculates, Cond.selects RX5 yX5_calculates yX5_calculates, Cond.code yX5_calculates cX5_calculates 8 (some .boolean), Cond.constantLong RX5 151 (9), Cond.fieldLink RX5 93 "DeskStackModel" "precision" "I", Cond.fieldLink RX5 78 "DeskStackModel" "s" "I", Cond.methodLink RX5 138 yX5_sum, Cond.instanceMethod yX5_sum, Cond.selects RX5 yX5_sum yX5_sum, Cond.code yX5_sum cX5_sum 6 (some .boolean), Cond.methodLink RX5 89 yX5_isBig, Cond.static yX5_isBig, Cond.code yX5_isBig cX5_isBig 2 (some .boolean), Cond.constantLong RX5 61 (999999999999999999), Cond.constantLong RX5 63 (-999999999999999999), Cond.methodLink RX5 142 yX5_times, Cond.instanceMethod yX5_times, Cond.selects RX5 yX5_times yX5_times, Cond.code yX5_times cX5_times 3 (some .boolean), Cond.methodLink RX5 96 yX5_product, Cond.instanceMethod yX5_product, Cond.selects RX5 yX5_product yX5_product, Cond.code yX5_product cX5_product 9 (some .long)]
def wsX5_run_r7 : List Cond := [Cond.methodLink RX5 100 yX5_cut, Cond.static yX5_cut, Cond.code yX5_cut cX5_cut 6 (some .long), Cond.methodLink RX5 103 yX5_quotient, Cond.instanceMethod yX5_quotient, Cond.selects RX5 yX5_quotient yX5_quotient, Cond.code yX5_quotient cX5_quotient 6 (some .boolean), Cond.methodLink RX5 145 yX5_rest, Cond.instanceMethod yX5_rest, Cond.selects RX5 yX5_rest yX5_rest, Cond.code yX5_rest cX5_rest 7 (some .boolean), Cond.methodLink RX5 148 yX5_root, Cond.instanceMethod yX5_root, Cond.selects RX5 yX5_root yX5_root, Cond.code yX5_root cX5_root 10 (some .boolean), Cond.constantLong RX5 107 (1000000000), Cond.constantLong RX5 109 (2), Cond.methodLink RX5 210 yX5_moves, Cond.instanceMethod yX5_moves, Cond.selects RX5 yX5_moves yX5_moves, Cond.code yX5_moves cX5_moves 2 (some .boolean), Cond.fieldLink RX5 35 "DeskStackModel" "shown" "[J", Cond.fieldLink RX5 38 "DeskStackModel" "shownPlaces" "[I"]
def wsX5_run : List Cond := .code yX5_run cX5_run 5 (some .int) :: ((wsX5_run_r1 ++ (wsX5_run_r2 ++ (wsX5_run_r3 ++ (wsX5_run_r4 ++ (wsX5_run_r5 ++ (wsX5_run_r6 ++ wsX5_run_r7)))))) ++ wsX50)
def wsX5_cost : List Cond := .code yX5_cost cX5_cost 1 (some .int) :: ([.fieldLink RX5 41 "DeskStackModel" "thrown" "I", .fieldLink RX5 215 "DeskStackModel" "cost" "I"] ++ wsX50)
def wsX5_prints : List Cond := .code yX5_prints cX5_prints 1 (some .int) :: ([.fieldLink RX5 41 "DeskStackModel" "thrown" "I", .fieldLink RX5 157 "DeskStackModel" "prints" "I"] ++ wsX50)
def wsX5_printed : List Cond := .code yX5_printed cX5_printed 2 (some .long) :: ([.fieldLink RX5 41 "DeskStackModel" "thrown" "I", .fieldLink RX5 157 "DeskStackModel" "prints" "I", .fieldLink RX5 35 "DeskStackModel" "shown" "[J", .methodLink RX5 127 yX5_within, .static yX5_within, .initialized RX5, .code yX5_within cX5_within 6 (some .boolean)] ++ wsX50)
def wsX5_places : List Cond := .code yX5_places cX5_places 2 (some .int) :: ([.fieldLink RX5 41 "DeskStackModel" "thrown" "I", .fieldLink RX5 157 "DeskStackModel" "prints" "I", .fieldLink RX5 38 "DeskStackModel" "shownPlaces" "[I", .methodLink RX5 127 yX5_within, .static yX5_within, .initialized RX5, .code yX5_within cX5_within 6 (some .boolean)] ++ wsX50)
def wsX5_depth : List Cond := .code yX5_depth cX5_depth 1 (some .int) :: ([.fieldLink RX5 41 "DeskStackModel" "thrown" "I", .fieldLink RX5 51 "DeskStackModel" "depth" "I"] ++ wsX50)
def wsX5_item : List Cond := .code yX5_item cX5_item 2 (some .long) :: ([.fieldLink RX5 41 "DeskStackModel" "thrown" "I", .fieldLink RX5 51 "DeskStackModel" "depth" "I", .fieldLink RX5 13 "DeskStackModel" "value" "[J", .methodLink RX5 127 yX5_within, .static yX5_within, .initialized RX5, .code yX5_within cX5_within 6 (some .boolean)] ++ wsX50)
def wsX5_scale : List Cond := .code yX5_scale cX5_scale 2 (some .int) :: ([.fieldLink RX5 41 "DeskStackModel" "thrown" "I", .fieldLink RX5 51 "DeskStackModel" "depth" "I", .fieldLink RX5 17 "DeskStackModel" "places" "[I", .methodLink RX5 127 yX5_within, .static yX5_within, .initialized RX5, .code yX5_within cX5_within 6 (some .boolean)] ++ wsX50)
def wsX5_held : List Cond := .code yX5_held cX5_held 2 (some .int) :: ([.fieldLink RX5 41 "DeskStackModel" "thrown" "I", .constantLong RX5 222 (3), .fieldLink RX5 23 "DeskStackModel" "held" "[I", .methodLink RX5 127 yX5_within, .static yX5_within, .initialized RX5, .code yX5_within cX5_within 6 (some .boolean)] ++ wsX50)
def wsX5_precision : List Cond := .code yX5_precision cX5_precision 1 (some .int) :: ([.fieldLink RX5 41 "DeskStackModel" "thrown" "I", .fieldLink RX5 93 "DeskStackModel" "precision" "I"] ++ wsX50)
def wsX5_reset : List Cond := .code yX5_reset cX5_reset 2 none :: ([.fieldLink RX5 41 "DeskStackModel" "thrown" "I", .fieldLink RX5 51 "DeskStackModel" "depth" "I", .fieldLink RX5 93 "DeskStackModel" "precision" "I", .fieldLink RX5 157 "DeskStackModel" "prints" "I", .fieldLink RX5 23 "DeskStackModel" "held" "[I"] ++ wsX50)
def wsJ9_abs_067f4 : List Cond := .code yJ9_abs_067f4 cJ9_abs_067f4 2 (some .long) :: ([])
def wsJ9_max_7cf53 : List Cond := .code yJ9_max_7cf53 cJ9_max_7cf53 2 (some .int) :: ([])
def wsJ9_min_7cf53 : List Cond := .code yJ9_min_7cf53 cJ9_min_7cf53 2 (some .int) :: ([])
def wsL_run_r1 : List Cond := [Cond.classLink RL 13 "java/lang/IllegalArgumentException", Cond.classLink RL 15 "java/lang/IllegalStateException", Cond.classLink RL 17 "java/lang/IndexOutOfBoundsException", Cond.classLink RL 19 "java/lang/ArithmeticException", Cond.classLink RL 21 "java/lang/UnsupportedOperationException", Cond.methodLink RL 7 yX4_run, Cond.instanceMethod yX4_run, Cond.selects RX4 yX4_run yX4_run, Cond.initialized RX4, Cond.code yX4_run cX4_run 3 (some .int), Cond.classLink RX4 56 "java/lang/IllegalArgumentException", Cond.initialized "java/lang/IllegalArgumentException", Cond.classLink RX4 87 "java/lang/UnsupportedOperationException", Cond.initialized "java/lang/UnsupportedOperationException", Cond.fieldLink RX4 22 "DeskStack" "printer" "LDeskStack$Shelf;", Cond.fieldLink RX4 43 "DeskStack" "commandsDone" "I", Cond.fieldLink RX4 28 "DeskStack" "texts" "LDeskStack$Nest;", Cond.fieldLink RX4 35 "DeskStack" "program" "LDeskStack$Row;", Cond.fieldLink RX4 50 "DeskStack$Row" "size" "I", Cond.constant RX4 73 (1000000), Cond.fieldLink RX4 74 "DeskStack$Nest" "count" "I", Cond.methodLink RX4 63 yX3_clear, Cond.instanceMethod yX3_clear, Cond.selects RX3 yX3_clear yX3_clear]
def wsL_run_r2 : List Cond := [Cond.initialized RX3, Cond.code yX3_clear cX3_clear 1 none, Cond.fieldLink RX3 28 "DeskStack$Shelf" "count" "I", Cond.methodLink RX4 66 yX1_leaveAll, Cond.instanceMethod yX1_leaveAll, Cond.selects RX1 yX1_leaveAll yX1_leaveAll, Cond.initialized RX1, Cond.code yX1_leaveAll cX1_leaveAll 1 none, Cond.fieldLink RX1 24 "DeskStack$Nest" "count" "I", Cond.methodLink RX4 69 yX1_enter, Cond.instanceMethod yX1_enter, Cond.selects RX1 yX1_enter yX1_enter, Cond.code yX1_enter cX1_enter 4 none, Cond.classLink RX1 28 "java/lang/UnsupportedOperationException", Cond.fieldLink RX1 11 "DeskStack$Nest" "rows" "[LDeskStack$Row;", Cond.fieldLink RX1 17 "DeskStack$Nest" "positions" "[I", Cond.fieldLink RX1 21 "DeskStack$Nest" "ends" "[I", Cond.methodLink RX4 77 yX1_skipBlanks, Cond.instanceMethod yX1_skipBlanks, Cond.selects RX1 yX1_skipBlanks yX1_skipBlanks, Cond.code yX1_skipBlanks cX1_skipBlanks 2 none, Cond.methodLink RX1 38 yX1_look, Cond.instanceMethod yX1_look, Cond.selects RX1 yX1_look yX1_look]
def wsL_run_r3 : List Cond := [Cond.code yX1_look cX1_look 2 (some .int), Cond.methodLink RX1 55 yX1_isUnderWay, Cond.instanceMethod yX1_isUnderWay, Cond.selects RX1 yX1_isUnderWay yX1_isUnderWay, Cond.code yX1_isUnderWay cX1_isUnderWay 1 (some .boolean), Cond.methodLink RX1 59 yX2_charAt, Cond.instanceMethod yX2_charAt, Cond.selects RX2 yX2_charAt yX2_charAt, Cond.initialized RX2, Cond.code yX2_charAt cX2_charAt 2 (some .int), Cond.fieldLink RX2 15 "DeskStack$Row" "size" "I", Cond.fieldLink RX2 9 "DeskStack$Row" "chars" "[B", Cond.methodLink RX1 63 yX1_pass, Cond.instanceMethod yX1_pass, Cond.selects RX1 yX1_pass yX1_pass, Cond.code yX1_pass cX1_pass 1 none, Cond.methodLink RX4 80 yX1_look, Cond.methodLink RX4 84 yX1_leave, Cond.instanceMethod yX1_leave, Cond.selects RX1 yX1_leave yX1_leave, Cond.code yX1_leave cX1_leave 1 none, Cond.methodLink RX1 49 Lib.Math.max.name, Cond.static Lib.Math.max.name, Cond.initialized "java/lang/Math"]
def wsL_run_r4 : List Cond := [Cond.code Lib.Math.max.name Lib.Math.max.code 2 (some .int), Cond.methodLink RX4 92 yX4_doCommand, Cond.instanceMethod yX4_doCommand, Cond.selects RX4 yX4_doCommand yX4_doCommand, Cond.code yX4_doCommand cX4_doCommand 2 none, Cond.methodLink RX4 111 yX4_beginsNumber, Cond.static yX4_beginsNumber, Cond.code yX4_beginsNumber cX4_beginsNumber 1 (some .boolean), Cond.methodLink RX4 142 yX4_isDigit, Cond.static yX4_isDigit, Cond.code yX4_isDigit cX4_isDigit 1 (some .boolean), Cond.methodLink RX4 115 yX4_putWrittenNumber, Cond.instanceMethod yX4_putWrittenNumber, Cond.selects RX4 yX4_putWrittenNumber yX4_putWrittenNumber, Cond.code yX4_putWrittenNumber cX4_putWrittenNumber 9 none, Cond.constantLong RX4 145 (10), Cond.fieldLink RX4 14 "DeskStack" "stack" "LDeskStack$Shelf;", Cond.methodLink RX4 118 yX1_pass, Cond.methodLink RX4 149 yX3_putNumber, Cond.instanceMethod yX3_putNumber, Cond.selects RX3 yX3_putNumber yX3_putNumber, Cond.code yX3_putNumber cX3_putNumber 4 none, Cond.methodLink RX3 36 yX3_put, Cond.instanceMethod yX3_put]
def wsL_run_r5 : List Cond := [Cond.selects RX3 yX3_put yX3_put, Cond.code yX3_put cX3_put 6 none, Cond.classLink RX3 62 "java/lang/UnsupportedOperationException", Cond.methodLink RX3 58 yX3_isFull, Cond.instanceMethod yX3_isFull, Cond.selects RX3 yX3_isFull yX3_isFull, Cond.code yX3_isFull cX3_isFull 1 (some .boolean), Cond.fieldLink RX3 9 "DeskStack$Shelf" "values" "[J", Cond.methodLink RX3 69 yX3_set, Cond.instanceMethod yX3_set, Cond.selects RX3 yX3_set yX3_set, Cond.code yX3_set cX3_set 7 none, Cond.fieldLink RX3 15 "DeskStack$Shelf" "places" "[I", Cond.fieldLink RX3 21 "DeskStack$Shelf" "rows" "[LDeskStack$Row;", Cond.fieldLink RX3 25 "DeskStack$Shelf" "starts" "[I", Cond.methodLink RX3 32 yX3_has, Cond.instanceMethod yX3_has, Cond.selects RX3 yX3_has yX3_has, Cond.code yX3_has cX3_has 2 (some .boolean), Cond.methodLink RX4 121 yX4_putWrittenText, Cond.instanceMethod yX4_putWrittenText, Cond.selects RX4 yX4_putWrittenText yX4_putWrittenText, Cond.code yX4_putWrittenText cX4_putWrittenText 6 none, Cond.methodLink RX4 153 yX1_innermostRow]
def wsL_run_r6 : List Cond := [Cond.instanceMethod yX1_innermostRow, Cond.selects RX1 yX1_innermostRow yX1_innermostRow, Cond.code yX1_innermostRow cX1_innermostRow 1 (some (.object "DeskStack$Row")), Cond.methodLink RX4 157 yX1_position, Cond.instanceMethod yX1_position, Cond.selects RX1 yX1_position yX1_position, Cond.code yX1_position cX1_position 1 (some .int), Cond.methodLink RX4 162 yX3_putText, Cond.instanceMethod yX3_putText, Cond.selects RX3 yX3_putText yX3_putText, Cond.code yX3_putText cX3_putText 4 none, Cond.methodLink RX4 124 yX4_calculate, Cond.instanceMethod yX4_calculate, Cond.selects RX4 yX4_calculate yX4_calculate, Cond.code yX4_calculate cX4_calculate 12 none, Cond.methodLink RX4 185 Lib.Math.max.name, Cond.fieldLink RX4 39 "DeskStack" "keptPlaces" "I", Cond.methodLink RX4 197 Lib.Math.min.name, Cond.static Lib.Math.min.name, Cond.code Lib.Math.min.name Lib.Math.min.code 2 (some .int), Cond.methodLink RX4 182 yX4_needNumbers, Cond.instanceMethod yX4_needNumbers, Cond.selects RX4 yX4_needNumbers yX4_needNumbers, Cond.code yX4_needNumbers cX4_needNumbers 3 none]
def wsL_run_r7 : List Cond := [Cond.classLink RX4 177 "java/lang/IndexOutOfBoundsException", Cond.initialized "java/lang/IndexOutOfBoundsException", Cond.methodLink RX4 170 yX4_needItems, Cond.instanceMethod yX4_needItems, Cond.selects RX4 yX4_needItems yX4_needItems, Cond.code yX4_needItems cX4_needItems 2 none, Cond.classLink RX4 165 "java/lang/IllegalStateException", Cond.initialized "java/lang/IllegalStateException", Cond.fieldLink RX4 95 "DeskStack$Shelf" "count" "I", Cond.methodLink RX4 104 yX3_slotBelowTop, Cond.instanceMethod yX3_slotBelowTop, Cond.selects RX3 yX3_slotBelowTop yX3_slotBelowTop, Cond.code yX3_slotBelowTop cX3_slotBelowTop 2 (some .int), Cond.methodLink RX4 173 yX3_rowAt, Cond.instanceMethod yX3_rowAt, Cond.selects RX3 yX3_rowAt yX3_rowAt, Cond.code yX3_rowAt cX3_rowAt 2 (some (.object "DeskStack$Row")), Cond.methodLink RX4 96 yX3_valueAt, Cond.instanceMethod yX3_valueAt, Cond.selects RX3 yX3_valueAt yX3_valueAt, Cond.code yX3_valueAt cX3_valueAt 2 (some .long), Cond.methodLink RX4 100 yX3_placesAt, Cond.instanceMethod yX3_placesAt, Cond.selects RX3 yX3_placesAt yX3_placesAt]
def wsL_run_r8 : List Cond := [Cond.code yX3_placesAt cX3_placesAt 2 (some .int), Cond.methodLink RX4 191 yX0_sum, Cond.static yX0_sum, Cond.initialized RX0, Cond.code yX0_sum cX0_sum 7 (some .long), Cond.methodLink RX0 9 Lib.Math.max.name, Cond.methodLink RX0 15 yX0_raise, Cond.static yX0_raise, Cond.code yX0_raise cX0_raise 3 (some .long), Cond.methodLink RX0 74 yX0_powerOfTen, Cond.static yX0_powerOfTen, Cond.code yX0_powerOfTen cX0_powerOfTen 1 (some .long), Cond.fieldLink RX0 78 "DeskStack$Decimal" "POWERS" "[J", Cond.methodLink RX0 82 Lib.Math.min.name, Cond.methodLink RX0 58 yX0_times, Cond.static yX0_times, Cond.code yX0_times cX0_times 4 (some .long), Cond.classLink RX0 36 "java/lang/UnsupportedOperationException", Cond.methodLink RX0 31 Lib.MathLoose.abs_long.x, Cond.static Lib.MathLoose.abs_long.x, Cond.code Lib.MathLoose.abs_long.x Lib.MathLoose.abs_long.code 2 (some .long), Cond.constantLong RX0 34 (999999999999999999), Cond.methodLink RX0 21 yX0_fitting, Cond.static yX0_fitting]
def wsL_run_r9 : List Cond := [Cond.code yX0_fitting cX0_fitting 2 (some .long), Cond.methodLink RX4 200 yX0_times, Cond.methodLink RX4 204 yX0_cutOff, Cond.static yX0_cutOff, Cond.code yX0_cutOff cX0_cutOff 3 (some .long), Cond.methodLink RX0 48 yX0_divide, Cond.static yX0_divide, Cond.code yX0_divide cX0_divide 4 (some .long), Cond.methodLink RX4 208 yX0_quotient, Cond.static yX0_quotient, Cond.code yX0_quotient cX0_quotient 8 (some .long), Cond.classLink RX0 43 "java/lang/ArithmeticException", Cond.initialized "java/lang/ArithmeticException", Cond.methodLink RX4 212 yX0_remainder, Cond.static yX0_remainder, Cond.code yX0_remainder cX0_remainder 13 (some .long), Cond.methodLink RX0 52 yX0_quotient, Cond.methodLink RX4 215 yX3_drop, Cond.instanceMethod yX3_drop, Cond.selects RX3 yX3_drop yX3_drop, Cond.code yX3_drop cX3_drop 2 none, Cond.methodLink RX3 73 Lib.Math.max.name, Cond.methodLink RX4 127 yX4_changeNumber, Cond.instanceMethod yX4_changeNumber]
def wsL_run_r10 : List Cond := [Cond.selects RX4 yX4_changeNumber yX4_changeNumber, Cond.code yX4_changeNumber cX4_changeNumber 8 none, Cond.methodLink RX4 218 yX0_asPlaces, Cond.static yX0_asPlaces, Cond.code yX0_asPlaces cX0_asPlaces 5 (some .int), Cond.constantLong RX0 70 (9), Cond.methodLink RX0 67 yX0_cutOff, Cond.methodLink RX4 221 yX0_root, Cond.static yX0_root, Cond.code yX0_root cX0_root 13 (some .long), Cond.constantLong RX0 63 (999999999), Cond.constantLong RX0 65 (2), Cond.methodLink RX4 130 yX4_moveToOrFromRegister, Cond.instanceMethod yX4_moveToOrFromRegister, Cond.selects RX4 yX4_moveToOrFromRegister yX4_moveToOrFromRegister, Cond.code yX4_moveToOrFromRegister cX4_moveToOrFromRegister 3 none, Cond.methodLink RX4 242 yX4_registerOfLetter, Cond.instanceMethod yX4_registerOfLetter, Cond.selects RX4 yX4_registerOfLetter yX4_registerOfLetter, Cond.code yX4_registerOfLetter cX4_registerOfLetter 2 (some (.object "DeskStack$Shelf")), Cond.methodLink RX4 107 yX4_registerNumbered, Cond.instanceMethod yX4_registerNumbered, Cond.selects RX4 yX4_registerNumbered yX4_registerNumbered, Cond.code yX4_registerNumbered cX4_registerNumbered 2 (some (.object "DeskStack$Shelf"))]
def wsL_run_r11 : List Cond := [Cond.fieldLink RX4 18 "DeskStack" "registers" "[LDeskStack$Shelf;", Cond.methodLink RX4 225 yX3_putTopOf, Cond.instanceMethod yX3_putTopOf, Cond.selects RX3 yX3_putTopOf yX3_putTopOf, Cond.code yX3_putTopOf cX3_putTopOf 3 none, Cond.methodLink RX3 40 yX3_slotBelowTop, Cond.methodLink RX3 44 yX3_valueAt, Cond.methodLink RX3 48 yX3_placesAt, Cond.methodLink RX3 51 yX3_rowAt, Cond.methodLink RX3 55 yX3_startAt, Cond.instanceMethod yX3_startAt, Cond.selects RX3 yX3_startAt yX3_startAt, Cond.code yX3_startAt cX3_startAt 2 (some .int), Cond.methodLink RX4 246 yX4_needHeld, Cond.static yX4_needHeld, Cond.code yX4_needHeld cX4_needHeld 1 none, Cond.methodLink RX4 133 yX4_runIfOrdered, Cond.instanceMethod yX4_runIfOrdered, Cond.selects RX4 yX4_runIfOrdered yX4_runIfOrdered, Cond.code yX4_runIfOrdered cX4_runIfOrdered 9 none, Cond.methodLink RX4 255 yX0_order, Cond.static yX0_order, Cond.code yX0_order cX0_order 7 (some .int), Cond.methodLink RX0 25 yJ13_compare_74951]
def wsL_run_r12 : List Cond := [Cond.static yJ13_compare_74951, Cond.initialized RJ13, Cond.code yJ13_compare_74951 cJ13_compare_74951 4 (some .int), Cond.methodLink RX4 249 yX3_startAt, Cond.methodLink RX4 252 yX1_enterMacro, Cond.instanceMethod yX1_enterMacro, Cond.selects RX1 yX1_enterMacro yX1_enterMacro, Cond.code yX1_enterMacro cX1_enterMacro 4 none, Cond.methodLink RX1 35 yX1_skipBlanks, Cond.methodLink RX1 42 yX1_leave, Cond.methodLink RX1 45 yX1_enter, Cond.methodLink RX4 136 yX4_runTop, Cond.instanceMethod yX4_runTop, Cond.selects RX4 yX4_runTop yX4_runTop, Cond.code yX4_runTop cX4_runTop 3 none, Cond.methodLink RX4 139 yX4_arrangeStack, Cond.instanceMethod yX4_arrangeStack, Cond.selects RX4 yX4_arrangeStack yX4_arrangeStack, Cond.code yX4_arrangeStack cX4_arrangeStack 2 none, Cond.methodLink RX4 229 yX3_swapTopTwo, Cond.instanceMethod yX3_swapTopTwo, Cond.selects RX3 yX3_swapTopTwo yX3_swapTopTwo, Cond.code yX3_swapTopTwo cX3_swapTopTwo 8 none, Cond.methodLink RX4 232 yX3_isFull]
def wsL_run : List Cond := .codeWith yL_run cL_run 4 (some .int) [(0, 9, 12, 13), (0, 9, 15, 15), (0, 9, 18, 17), (0, 9, 21, 19), (0, 9, 24, 21)] :: ((wsL_run_r1 ++ (wsL_run_r2 ++ (wsL_run_r3 ++ (wsL_run_r4 ++ (wsL_run_r5 ++ (wsL_run_r6 ++ (wsL_run_r7 ++ (wsL_run_r8 ++ (wsL_run_r9 ++ (wsL_run_r10 ++ (wsL_run_r11 ++ wsL_run_r12))))))))))) ++ wsX40 ++ wsX20 ++ wsX10 ++ wsX30 ++ (vx_atS RX4 60 "java/lang/IllegalArgumentException" ["java/lang/RuntimeException", "java/lang/Exception"]).filter goodWord ++ (vx_atS RX4 91 "java/lang/UnsupportedOperationException" ["java/lang/RuntimeException", "java/lang/Exception"]).filter goodWord ++ (vx_atS RX1 32 "java/lang/UnsupportedOperationException" ["java/lang/RuntimeException", "java/lang/Exception"]).filter goodWord ++ (vx_atS RX3 66 "java/lang/UnsupportedOperationException" ["java/lang/RuntimeException", "java/lang/Exception"]).filter goodWord ++ (vx_atS RX4 181 "java/lang/IndexOutOfBoundsException" ["java/lang/RuntimeException", "java/lang/Exception"]).filter goodWord ++ (vx_atS RX4 169 "java/lang/IllegalStateException" ["java/lang/RuntimeException", "java/lang/Exception"]).filter goodWord ++ (vx_atS RX0 40 "java/lang/UnsupportedOperationException" ["java/lang/RuntimeException", "java/lang/Exception"]).filter goodWord ++ (vx_atS RX0 47 "java/lang/ArithmeticException" ["java/lang/RuntimeException", "java/lang/Exception"]).filter goodWord)
abbrev vwCl : List vw_C := [(RX1, TX1, 4), (RX2, TX2, 2), (RX3, TX3, 5), (RX4, TX4, 7), (RX5, TX5, 21)]
end
section
theorem dX5_init_0 : decode cX5_init 0 = .ok (.aload_n 0, 1) := by decide +kernel
theorem dX5_init_1 : decode cX5_init 1 = .ok (.invokespecial 1, 3) := by decide +kernel
theorem dX5_init_4 : decode cX5_init 4 = .ok (.aload_n 0, 1) := by decide +kernel
theorem dX5_init_5 : decode cX5_init 5 = .ok (.sipush 160, 3) := by decide +kernel
theorem dX5_init_8 : decode cX5_init 8 = .ok (.newarray .int, 2) := by decide +kernel
theorem dX5_init_10 : decode cX5_init 10 = .ok (.putfield 7, 3) := by decide +kernel
theorem dX5_init_13 : decode cX5_init 13 = .ok (.aload_n 0, 1) := by decide +kernel
theorem dX5_init_14 : decode cX5_init 14 = .ok (.bipush 82, 2) := by decide +kernel
theorem dX5_init_16 : decode cX5_init 16 = .ok (.newarray .long, 2) := by decide +kernel
theorem dX5_init_18 : decode cX5_init 18 = .ok (.putfield 13, 3) := by decide +kernel
theorem dX5_init_21 : decode cX5_init 21 = .ok (.aload_n 0, 1) := by decide +kernel
theorem dX5_init_22 : decode cX5_init 22 = .ok (.bipush 82, 2) := by decide +kernel
theorem dX5_init_24 : decode cX5_init 24 = .ok (.newarray .int, 2) := by decide +kernel
theorem dX5_init_26 : decode cX5_init 26 = .ok (.putfield 17, 3) := by decide +kernel
theorem dX5_init_29 : decode cX5_init 29 = .ok (.aload_n 0, 1) := by decide +kernel
theorem dX5_init_30 : decode cX5_init 30 = .ok (.sipush 13120, 3) := by decide +kernel
theorem dX5_init_33 : decode cX5_init 33 = .ok (.newarray .int, 2) := by decide +kernel
theorem dX5_init_35 : decode cX5_init 35 = .ok (.putfield 20, 3) := by decide +kernel
theorem dX5_init_38 : decode cX5_init 38 = .ok (.aload_n 0, 1) := by decide +kernel
theorem dX5_init_39 : decode cX5_init 39 = .ok (.iconst 4, 1) := by decide +kernel
theorem dX5_init_40 : decode cX5_init 40 = .ok (.newarray .int, 2) := by decide +kernel
theorem dX5_init_42 : decode cX5_init 42 = .ok (.putfield 23, 3) := by decide +kernel
theorem dX5_init_45 : decode cX5_init 45 = .ok (.aload_n 0, 1) := by decide +kernel
theorem dX5_init_46 : decode cX5_init 46 = .ok (.sipush 1920, 3) := by decide +kernel
theorem dX5_init_49 : decode cX5_init 49 = .ok (.newarray .int, 2) := by decide +kernel
theorem dX5_init_51 : decode cX5_init 51 = .ok (.putfield 26, 3) := by decide +kernel
theorem dX5_init_54 : decode cX5_init 54 = .ok (.aload_n 0, 1) := by decide +kernel
theorem dX5_init_55 : decode cX5_init 55 = .ok (.bipush 12, 2) := by decide +kernel
theorem dX5_init_57 : decode cX5_init 57 = .ok (.newarray .int, 2) := by decide +kernel
theorem dX5_init_59 : decode cX5_init 59 = .ok (.putfield 29, 3) := by decide +kernel
theorem dX5_init_62 : decode cX5_init 62 = .ok (.aload_n 0, 1) := by decide +kernel
theorem dX5_init_63 : decode cX5_init 63 = .ok (.bipush 12, 2) := by decide +kernel
theorem dX5_init_65 : decode cX5_init 65 = .ok (.newarray .int, 2) := by decide +kernel
theorem dX5_init_67 : decode cX5_init 67 = .ok (.putfield 32, 3) := by decide +kernel
theorem dX5_init_70 : decode cX5_init 70 = .ok (.aload_n 0, 1) := by decide +kernel
theorem dX5_init_71 : decode cX5_init 71 = .ok (.bipush 40, 2) := by decide +kernel
theorem dX5_init_73 : decode cX5_init 73 = .ok (.newarray .long, 2) := by decide +kernel
theorem dX5_init_75 : decode cX5_init 75 = .ok (.putfield 35, 3) := by decide +kernel
theorem dX5_init_78 : decode cX5_init 78 = .ok (.aload_n 0, 1) := by decide +kernel
theorem dX5_init_79 : decode cX5_init 79 = .ok (.bipush 40, 2) := by decide +kernel
theorem dX5_init_81 : decode cX5_init 81 = .ok (.newarray .int, 2) := by decide +kernel
theorem dX5_init_83 : decode cX5_init 83 = .ok (.putfield 38, 3) := by decide +kernel
theorem dX5_init_86 : decode cX5_init 86 = .ok (.return_, 1) := by decide +kernel
theorem dX5_thrown_0 : decode cX5_thrown 0 = .ok (.aload_n 0, 1) := by decide +kernel
theorem dX5_thrown_1 : decode cX5_thrown 1 = .ok (.getfield 41, 3) := by decide +kernel
theorem dX5_thrown_4 : decode cX5_thrown 4 = .ok (.ireturn, 1) := by decide +kernel
theorem dX5_within_0 : decode cX5_within 0 = .ok (.lload_n 0, 1) := by decide +kernel
theorem dX5_within_1 : decode cX5_within 1 = .ok (.lload_n 2, 1) := by decide +kernel
theorem dX5_within_2 : decode cX5_within 2 = .ok (.lcmp, 1) := by decide +kernel
theorem dX5_within_3 : decode cX5_within 3 = .ok (.ifCond .lt 14, 3) := by decide +kernel
theorem dX5_within_6 : decode cX5_within 6 = .ok (.lload_n 0, 1) := by decide +kernel
theorem dX5_within_7 : decode cX5_within 7 = .ok (.lload 4, 2) := by decide +kernel
theorem dX5_within_9 : decode cX5_within 9 = .ok (.lcmp, 1) := by decide +kernel
theorem dX5_within_10 : decode cX5_within 10 = .ok (.ifCond .gt 7, 3) := by decide +kernel
theorem dX5_within_13 : decode cX5_within 13 = .ok (.iconst 1, 1) := by decide +kernel
theorem dX5_within_14 : decode cX5_within 14 = .ok (.goto 4, 3) := by decide +kernel
theorem dX5_within_17 : decode cX5_within 17 = .ok (.iconst 0, 1) := by decide +kernel
theorem dX5_within_18 : decode cX5_within 18 = .ok (.ireturn, 1) := by decide +kernel
theorem dX5_write_0 : decode cX5_write 0 = .ok (.aload_n 0, 1) := by decide +kernel
theorem dX5_write_1 : decode cX5_write 1 = .ok (.iconst 0, 1) := by decide +kernel
theorem dX5_write_2 : decode cX5_write 2 = .ok (.putfield 41, 3) := by decide +kernel
theorem dX5_write_5 : decode cX5_write 5 = .ok (.iconst 0, 1) := by decide +kernel
theorem dX5_write_6 : decode cX5_write 6 = .ok (.istore_n 3, 1) := by decide +kernel
theorem dX5_write_7 : decode cX5_write 7 = .ok (.iconst 0, 1) := by decide +kernel
theorem dX5_write_8 : decode cX5_write 8 = .ok (.istore 4, 2) := by decide +kernel
theorem dX5_write_10 : decode cX5_write 10 = .ok (.iload 4, 2) := by decide +kernel
theorem dX5_write_12 : decode cX5_write 12 = .ok (.bipush 8, 2) := by decide +kernel
theorem dX5_write_14 : decode cX5_write 14 = .ok (.if_icmp .ge 43, 3) := by decide +kernel
theorem dX5_write_17 : decode cX5_write 17 = .ok (.lload_n 1, 1) := by decide +kernel
theorem dX5_write_18 : decode cX5_write 18 = .ok (.bipush 8, 2) := by decide +kernel
theorem dX5_write_20 : decode cX5_write 20 = .ok (.iload 4, 2) := by decide +kernel
theorem dX5_write_22 : decode cX5_write 22 = .ok (.imul, 1) := by decide +kernel
theorem dX5_write_23 : decode cX5_write 23 = .ok (.lshr, 1) := by decide +kernel
theorem dX5_write_24 : decode cX5_write 24 = .ok (.l2i, 1) := by decide +kernel
theorem dX5_write_25 : decode cX5_write 25 = .ok (.sipush 255, 3) := by decide +kernel
theorem dX5_write_28 : decode cX5_write 28 = .ok (.iand, 1) := by decide +kernel
theorem dX5_write_29 : decode cX5_write 29 = .ok (.istore 5, 2) := by decide +kernel
theorem dX5_write_31 : decode cX5_write 31 = .ok (.iload 5, 2) := by decide +kernel
theorem dX5_write_33 : decode cX5_write 33 = .ok (.ifCond .ne 6, 3) := by decide +kernel
theorem dX5_write_36 : decode cX5_write 36 = .ok (.goto 21, 3) := by decide +kernel
theorem dX5_write_39 : decode cX5_write 39 = .ok (.iload 5, 2) := by decide +kernel
theorem dX5_write_41 : decode cX5_write 41 = .ok (.bipush 127, 2) := by decide +kernel
theorem dX5_write_43 : decode cX5_write 43 = .ok (.if_icmp .le 5, 3) := by decide +kernel
theorem dX5_write_46 : decode cX5_write 46 = .ok (.iconst (-1), 1) := by decide +kernel
theorem dX5_write_47 : decode cX5_write 47 = .ok (.ireturn, 1) := by decide +kernel
theorem dX5_write_48 : decode cX5_write 48 = .ok (.iinc 3 1, 3) := by decide +kernel
theorem dX5_write_51 : decode cX5_write 51 = .ok (.iinc 4 1, 3) := by decide +kernel
theorem dX5_write_54 : decode cX5_write 54 = .ok (.goto (-44), 3) := by decide +kernel
theorem dX5_write_57 : decode cX5_write 57 = .ok (.aload_n 0, 1) := by decide +kernel
theorem dX5_write_58 : decode cX5_write 58 = .ok (.getfield 45, 3) := by decide +kernel
theorem dX5_write_61 : decode cX5_write 61 = .ok (.iload_n 3, 1) := by decide +kernel
theorem dX5_write_62 : decode cX5_write 62 = .ok (.iadd, 1) := by decide +kernel
theorem dX5_write_63 : decode cX5_write 63 = .ok (.sipush 160, 3) := by decide +kernel
theorem dX5_write_66 : decode cX5_write 66 = .ok (.if_icmp .le 5, 3) := by decide +kernel
theorem dX5_write_69 : decode cX5_write 69 = .ok (.iconst (-1), 1) := by decide +kernel
theorem dX5_write_70 : decode cX5_write 70 = .ok (.ireturn, 1) := by decide +kernel
theorem dX5_write_71 : decode cX5_write 71 = .ok (.iconst 0, 1) := by decide +kernel
theorem dX5_write_72 : decode cX5_write 72 = .ok (.istore 4, 2) := by decide +kernel
theorem dX5_write_74 : decode cX5_write 74 = .ok (.iload 4, 2) := by decide +kernel
theorem dX5_write_76 : decode cX5_write 76 = .ok (.iload_n 3, 1) := by decide +kernel
theorem dX5_write_77 : decode cX5_write 77 = .ok (.if_icmp .ge 32, 3) := by decide +kernel
theorem dX5_write_80 : decode cX5_write 80 = .ok (.aload_n 0, 1) := by decide +kernel
theorem dX5_write_81 : decode cX5_write 81 = .ok (.getfield 7, 3) := by decide +kernel
theorem dX5_write_84 : decode cX5_write 84 = .ok (.aload_n 0, 1) := by decide +kernel
theorem dX5_write_85 : decode cX5_write 85 = .ok (.getfield 45, 3) := by decide +kernel
theorem dX5_write_88 : decode cX5_write 88 = .ok (.iload 4, 2) := by decide +kernel
theorem dX5_write_90 : decode cX5_write 90 = .ok (.iadd, 1) := by decide +kernel
theorem dX5_write_91 : decode cX5_write 91 = .ok (.lload_n 1, 1) := by decide +kernel
theorem dX5_write_92 : decode cX5_write 92 = .ok (.bipush 8, 2) := by decide +kernel
theorem dX5_write_94 : decode cX5_write 94 = .ok (.iload 4, 2) := by decide +kernel
theorem dX5_write_96 : decode cX5_write 96 = .ok (.imul, 1) := by decide +kernel
theorem dX5_write_97 : decode cX5_write 97 = .ok (.lshr, 1) := by decide +kernel
theorem dX5_write_98 : decode cX5_write 98 = .ok (.l2i, 1) := by decide +kernel
theorem dX5_write_99 : decode cX5_write 99 = .ok (.bipush 127, 2) := by decide +kernel
theorem dX5_write_101 : decode cX5_write 101 = .ok (.iand, 1) := by decide +kernel
theorem dX5_write_102 : decode cX5_write 102 = .ok (.iastore, 1) := by decide +kernel
theorem dX5_write_103 : decode cX5_write 103 = .ok (.iinc 4 1, 3) := by decide +kernel
theorem dX5_write_106 : decode cX5_write 106 = .ok (.goto (-32), 3) := by decide +kernel
theorem dX5_write_109 : decode cX5_write 109 = .ok (.aload_n 0, 1) := by decide +kernel
theorem dX5_write_110 : decode cX5_write 110 = .ok (.dup, 1) := by decide +kernel
theorem dX5_write_111 : decode cX5_write 111 = .ok (.getfield 45, 3) := by decide +kernel
theorem dX5_write_114 : decode cX5_write 114 = .ok (.iload_n 3, 1) := by decide +kernel
theorem dX5_write_115 : decode cX5_write 115 = .ok (.iadd, 1) := by decide +kernel
theorem dX5_write_116 : decode cX5_write 116 = .ok (.putfield 45, 3) := by decide +kernel
theorem dX5_write_119 : decode cX5_write 119 = .ok (.iload_n 3, 1) := by decide +kernel
theorem dX5_write_120 : decode cX5_write 120 = .ok (.ireturn, 1) := by decide +kernel
theorem dX5_erase_0 : decode cX5_erase 0 = .ok (.aload_n 0, 1) := by decide +kernel
theorem dX5_erase_1 : decode cX5_erase 1 = .ok (.iconst 0, 1) := by decide +kernel
theorem dX5_erase_2 : decode cX5_erase 2 = .ok (.putfield 41, 3) := by decide +kernel
theorem dX5_erase_5 : decode cX5_erase 5 = .ok (.aload_n 0, 1) := by decide +kernel
theorem dX5_erase_6 : decode cX5_erase 6 = .ok (.getfield 45, 3) := by decide +kernel
theorem dX5_erase_9 : decode cX5_erase 9 = .ok (.istore_n 1, 1) := by decide +kernel
theorem dX5_erase_10 : decode cX5_erase 10 = .ok (.aload_n 0, 1) := by decide +kernel
theorem dX5_erase_11 : decode cX5_erase 11 = .ok (.iconst 0, 1) := by decide +kernel
theorem dX5_erase_12 : decode cX5_erase 12 = .ok (.putfield 45, 3) := by decide +kernel
theorem dX5_erase_15 : decode cX5_erase 15 = .ok (.iload_n 1, 1) := by decide +kernel
theorem dX5_erase_16 : decode cX5_erase 16 = .ok (.ireturn, 1) := by decide +kernel
theorem dX5_copy_0 : decode cX5_copy 0 = .ok (.aload_n 0, 1) := by decide +kernel
theorem dX5_copy_1 : decode cX5_copy 1 = .ok (.getfield 13, 3) := by decide +kernel
theorem dX5_copy_4 : decode cX5_copy 4 = .ok (.iload_n 2, 1) := by decide +kernel
theorem dX5_copy_5 : decode cX5_copy 5 = .ok (.aload_n 0, 1) := by decide +kernel
theorem dX5_copy_6 : decode cX5_copy 6 = .ok (.getfield 13, 3) := by decide +kernel
theorem dX5_copy_9 : decode cX5_copy 9 = .ok (.iload_n 1, 1) := by decide +kernel
theorem dX5_copy_10 : decode cX5_copy 10 = .ok (.laload, 1) := by decide +kernel
theorem dX5_copy_11 : decode cX5_copy 11 = .ok (.lastore, 1) := by decide +kernel
theorem dX5_copy_12 : decode cX5_copy 12 = .ok (.aload_n 0, 1) := by decide +kernel
theorem dX5_copy_13 : decode cX5_copy 13 = .ok (.getfield 17, 3) := by decide +kernel
theorem dX5_copy_16 : decode cX5_copy 16 = .ok (.iload_n 2, 1) := by decide +kernel
theorem dX5_copy_17 : decode cX5_copy 17 = .ok (.aload_n 0, 1) := by decide +kernel
theorem dX5_copy_18 : decode cX5_copy 18 = .ok (.getfield 17, 3) := by decide +kernel
theorem dX5_copy_21 : decode cX5_copy 21 = .ok (.iload_n 1, 1) := by decide +kernel
theorem dX5_copy_22 : decode cX5_copy 22 = .ok (.iaload, 1) := by decide +kernel
theorem dX5_copy_23 : decode cX5_copy 23 = .ok (.iastore, 1) := by decide +kernel
theorem dX5_copy_24 : decode cX5_copy 24 = .ok (.iconst 0, 1) := by decide +kernel
theorem dX5_copy_25 : decode cX5_copy 25 = .ok (.istore_n 3, 1) := by decide +kernel
theorem dX5_copy_26 : decode cX5_copy 26 = .ok (.iload_n 3, 1) := by decide +kernel
theorem dX5_copy_27 : decode cX5_copy 27 = .ok (.i2l, 1) := by decide +kernel
theorem dX5_copy_28 : decode cX5_copy 28 = .ok (.aload_n 0, 1) := by decide +kernel
theorem dX5_copy_29 : decode cX5_copy 29 = .ok (.getfield 13, 3) := by decide +kernel
theorem dX5_copy_32 : decode cX5_copy 32 = .ok (.iload_n 1, 1) := by decide +kernel
theorem dX5_copy_33 : decode cX5_copy 33 = .ok (.laload, 1) := by decide +kernel
theorem dX5_copy_34 : decode cX5_copy 34 = .ok (.lcmp, 1) := by decide +kernel
theorem dX5_copy_35 : decode cX5_copy 35 = .ok (.ifCond .ge 42, 3) := by decide +kernel
theorem dX5_copy_38 : decode cX5_copy 38 = .ok (.aload_n 0, 1) := by decide +kernel
theorem dX5_copy_39 : decode cX5_copy 39 = .ok (.getfield 17, 3) := by decide +kernel
theorem dX5_copy_42 : decode cX5_copy 42 = .ok (.iload_n 1, 1) := by decide +kernel
theorem dX5_copy_43 : decode cX5_copy 43 = .ok (.iaload, 1) := by decide +kernel
theorem dX5_copy_44 : decode cX5_copy 44 = .ok (.ifCond .ge 33, 3) := by decide +kernel
theorem dX5_copy_47 : decode cX5_copy 47 = .ok (.aload_n 0, 1) := by decide +kernel
theorem dX5_copy_48 : decode cX5_copy 48 = .ok (.getfield 20, 3) := by decide +kernel
theorem dX5_copy_51 : decode cX5_copy 51 = .ok (.sipush 160, 3) := by decide +kernel
theorem dX5_copy_54 : decode cX5_copy 54 = .ok (.iload_n 2, 1) := by decide +kernel
theorem dX5_copy_55 : decode cX5_copy 55 = .ok (.imul, 1) := by decide +kernel
theorem dX5_copy_56 : decode cX5_copy 56 = .ok (.iload_n 3, 1) := by decide +kernel
theorem dX5_copy_57 : decode cX5_copy 57 = .ok (.iadd, 1) := by decide +kernel
theorem dX5_copy_58 : decode cX5_copy 58 = .ok (.aload_n 0, 1) := by decide +kernel
theorem dX5_copy_59 : decode cX5_copy 59 = .ok (.getfield 20, 3) := by decide +kernel
theorem dX5_copy_62 : decode cX5_copy 62 = .ok (.sipush 160, 3) := by decide +kernel
theorem dX5_copy_65 : decode cX5_copy 65 = .ok (.iload_n 1, 1) := by decide +kernel
theorem dX5_copy_66 : decode cX5_copy 66 = .ok (.imul, 1) := by decide +kernel
theorem dX5_copy_67 : decode cX5_copy 67 = .ok (.iload_n 3, 1) := by decide +kernel
theorem dX5_copy_68 : decode cX5_copy 68 = .ok (.iadd, 1) := by decide +kernel
theorem dX5_copy_69 : decode cX5_copy 69 = .ok (.iaload, 1) := by decide +kernel
theorem dX5_copy_70 : decode cX5_copy 70 = .ok (.iastore, 1) := by decide +kernel
theorem dX5_copy_71 : decode cX5_copy 71 = .ok (.iinc 3 1, 3) := by decide +kernel
theorem dX5_copy_74 : decode cX5_copy 74 = .ok (.goto (-48), 3) := by decide +kernel
theorem dX5_copy_77 : decode cX5_copy 77 = .ok (.return_, 1) := by decide +kernel
theorem dX5_fail_0 : decode cX5_fail 0 = .ok (.aload_n 0, 1) := by decide +kernel
theorem dX5_fail_1 : decode cX5_fail 1 = .ok (.iload_n 1, 1) := by decide +kernel
theorem dX5_fail_2 : decode cX5_fail 2 = .ok (.putfield 48, 3) := by decide +kernel
theorem dX5_fail_5 : decode cX5_fail 5 = .ok (.iconst 0, 1) := by decide +kernel
theorem dX5_fail_6 : decode cX5_fail 6 = .ok (.ireturn, 1) := by decide +kernel
set_option maxRecDepth 20000 in
theorem ggX5_have_X5_fail : GoodIn wsX5_have wsX5_fail := goodIn_r _ [6, 7, 8, 9, 10, 11, 12, 13, 14, 15, 16, 17, 18, 19, 20, 21, 22, 23, 24, 25, 26, 27, 28] (by decide +kernel) (by decide +kernel)
set_option maxRecDepth 20000 in
theorem gX5_have_X5_fail : GoodIn wsX5_have (wsV RX5 54 RX5 yX5_fail wsX5_fail) := goodIn_app (goodIn_of _ (by decide +kernel)) ggX5_have_X5_fail
theorem dX5_have_0 : decode cX5_have 0 = .ok (.aload_n 0, 1) := by decide +kernel
theorem dX5_have_1 : decode cX5_have 1 = .ok (.getfield 51, 3) := by decide +kernel
theorem dX5_have_4 : decode cX5_have 4 = .ok (.iload_n 1, 1) := by decide +kernel
theorem dX5_have_5 : decode cX5_have 5 = .ok (.if_icmp .ge 11, 3) := by decide +kernel
theorem dX5_have_8 : decode cX5_have 8 = .ok (.aload_n 0, 1) := by decide +kernel
theorem dX5_have_9 : decode cX5_have 9 = .ok (.iconst 2, 1) := by decide +kernel
theorem dX5_have_10 : decode cX5_have 10 = .ok (.invokevirtual 54, 3) := by decide +kernel
theorem dX5_have_13 : decode cX5_have 13 = .ok (.ifCond .eq 7, 3) := by decide +kernel
theorem dX5_have_16 : decode cX5_have 16 = .ok (.iconst 1, 1) := by decide +kernel
theorem dX5_have_17 : decode cX5_have 17 = .ok (.goto 4, 3) := by decide +kernel
theorem dX5_have_20 : decode cX5_have 20 = .ok (.iconst 0, 1) := by decide +kernel
theorem dX5_have_21 : decode cX5_have 21 = .ok (.ireturn, 1) := by decide +kernel
set_option maxRecDepth 20000 in
theorem ggX5_numbers_X5_have : GoodIn wsX5_numbers wsX5_have := goodIn_r _ [7, 2, 8, 9, 10, 6, 11, 12, 13, 14, 15, 16, 17, 18, 19, 20, 21, 22, 23, 24, 25, 26, 27, 28, 29, 30, 31, 32, 33] (by decide +kernel) (by decide +kernel)
set_option maxRecDepth 20000 in
theorem gX5_numbers_X5_have : GoodIn wsX5_numbers (wsV RX5 58 RX5 yX5_have wsX5_have) := goodIn_app (goodIn_of _ (by decide +kernel)) ggX5_numbers_X5_have
set_option maxRecDepth 20000 in
theorem ggX5_numbers_X5_fail : GoodIn wsX5_numbers wsX5_fail := goodIn_r _ [11, 12, 13, 14, 15, 16, 17, 18, 19, 20, 21, 22, 23, 24, 25, 26, 27, 28, 29, 30, 31, 32, 33] (by decide +kernel) (by decide +kernel)
set_option maxRecDepth 20000 in
theorem gX5_numbers_X5_fail : GoodIn wsX5_numbers (wsV RX5 54 RX5 yX5_fail wsX5_fail) := goodIn_app (goodIn_of _ (by decide +kernel)) ggX5_numbers_X5_fail
theorem dX5_numbers_0 : decode cX5_numbers 0 = .ok (.aload_n 0, 1) := by decide +kernel
theorem dX5_numbers_1 : decode cX5_numbers 1 = .ok (.iload_n 1, 1) := by decide +kernel
theorem dX5_numbers_2 : decode cX5_numbers 2 = .ok (.invokevirtual 58, 3) := by decide +kernel
theorem dX5_numbers_5 : decode cX5_numbers 5 = .ok (.ifCond .ne 5, 3) := by decide +kernel
theorem dX5_numbers_8 : decode cX5_numbers 8 = .ok (.iconst 0, 1) := by decide +kernel
theorem dX5_numbers_9 : decode cX5_numbers 9 = .ok (.ireturn, 1) := by decide +kernel
theorem dX5_numbers_10 : decode cX5_numbers 10 = .ok (.iconst 1, 1) := by decide +kernel
theorem dX5_numbers_11 : decode cX5_numbers 11 = .ok (.istore_n 2, 1) := by decide +kernel
theorem dX5_numbers_12 : decode cX5_numbers 12 = .ok (.iload_n 2, 1) := by decide +kernel
theorem dX5_numbers_13 : decode cX5_numbers 13 = .ok (.iload_n 1, 1) := by decide +kernel
theorem dX5_numbers_14 : decode cX5_numbers 14 = .ok (.if_icmp .gt 29, 3) := by decide +kernel
theorem dX5_numbers_17 : decode cX5_numbers 17 = .ok (.aload_n 0, 1) := by decide +kernel
theorem dX5_numbers_18 : decode cX5_numbers 18 = .ok (.getfield 17, 3) := by decide +kernel
theorem dX5_numbers_21 : decode cX5_numbers 21 = .ok (.aload_n 0, 1) := by decide +kernel
theorem dX5_numbers_22 : decode cX5_numbers 22 = .ok (.getfield 51, 3) := by decide +kernel
theorem dX5_numbers_25 : decode cX5_numbers 25 = .ok (.iload_n 2, 1) := by decide +kernel
theorem dX5_numbers_26 : decode cX5_numbers 26 = .ok (.isub, 1) := by decide +kernel
theorem dX5_numbers_27 : decode cX5_numbers 27 = .ok (.iaload, 1) := by decide +kernel
theorem dX5_numbers_28 : decode cX5_numbers 28 = .ok (.ifCond .ge 9, 3) := by decide +kernel
theorem dX5_numbers_31 : decode cX5_numbers 31 = .ok (.aload_n 0, 1) := by decide +kernel
theorem dX5_numbers_32 : decode cX5_numbers 32 = .ok (.iconst 3, 1) := by decide +kernel
theorem dX5_numbers_33 : decode cX5_numbers 33 = .ok (.invokevirtual 54, 3) := by decide +kernel
theorem dX5_numbers_36 : decode cX5_numbers 36 = .ok (.ireturn, 1) := by decide +kernel
theorem dX5_numbers_37 : decode cX5_numbers 37 = .ok (.iinc 2 1, 3) := by decide +kernel
theorem dX5_numbers_40 : decode cX5_numbers 40 = .ok (.goto (-28), 3) := by decide +kernel
theorem dX5_numbers_43 : decode cX5_numbers 43 = .ok (.iconst 1, 1) := by decide +kernel
theorem dX5_numbers_44 : decode cX5_numbers 44 = .ok (.ireturn, 1) := by decide +kernel
set_option maxRecDepth 20000 in
theorem ggX5_room_X5_fail : GoodIn wsX5_room wsX5_fail := goodIn_r _ [6, 7, 8, 9, 10, 11, 12, 13, 14, 15, 16, 17, 18, 19, 20, 21, 22, 23, 24, 25, 26, 27, 28] (by decide +kernel) (by decide +kernel)
set_option maxRecDepth 20000 in
theorem gX5_room_X5_fail : GoodIn wsX5_room (wsV RX5 54 RX5 yX5_fail wsX5_fail) := goodIn_app (goodIn_of _ (by decide +kernel)) ggX5_room_X5_fail
theorem dX5_room_0 : decode cX5_room 0 = .ok (.aload_n 0, 1) := by decide +kernel
theorem dX5_room_1 : decode cX5_room 1 = .ok (.getfield 51, 3) := by decide +kernel
theorem dX5_room_4 : decode cX5_room 4 = .ok (.bipush 40, 2) := by decide +kernel
theorem dX5_room_6 : decode cX5_room 6 = .ok (.if_icmp .lt 11, 3) := by decide +kernel
theorem dX5_room_9 : decode cX5_room 9 = .ok (.aload_n 0, 1) := by decide +kernel
theorem dX5_room_10 : decode cX5_room 10 = .ok (.iconst 5, 1) := by decide +kernel
theorem dX5_room_11 : decode cX5_room 11 = .ok (.invokevirtual 54, 3) := by decide +kernel
theorem dX5_room_14 : decode cX5_room 14 = .ok (.ifCond .eq 7, 3) := by decide +kernel
theorem dX5_room_17 : decode cX5_room 17 = .ok (.iconst 1, 1) := by decide +kernel
theorem dX5_room_18 : decode cX5_room 18 = .ok (.goto 4, 3) := by decide +kernel
theorem dX5_room_21 : decode cX5_room 21 = .ok (.iconst 0, 1) := by decide +kernel
theorem dX5_room_22 : decode cX5_room 22 = .ok (.ireturn, 1) := by decide +kernel
theorem dX5_put_0 : decode cX5_put 0 = .ok (.aload_n 0, 1) := by decide +kernel
theorem dX5_put_1 : decode cX5_put 1 = .ok (.dup, 1) := by decide +kernel
theorem dX5_put_2 : decode cX5_put 2 = .ok (.getfield 51, 3) := by decide +kernel
theorem dX5_put_5 : decode cX5_put 5 = .ok (.iload_n 1, 1) := by decide +kernel
theorem dX5_put_6 : decode cX5_put 6 = .ok (.isub, 1) := by decide +kernel
theorem dX5_put_7 : decode cX5_put 7 = .ok (.putfield 51, 3) := by decide +kernel
theorem dX5_put_10 : decode cX5_put 10 = .ok (.aload_n 0, 1) := by decide +kernel
theorem dX5_put_11 : decode cX5_put 11 = .ok (.getfield 13, 3) := by decide +kernel
theorem dX5_put_14 : decode cX5_put 14 = .ok (.aload_n 0, 1) := by decide +kernel
theorem dX5_put_15 : decode cX5_put 15 = .ok (.getfield 51, 3) := by decide +kernel
theorem dX5_put_18 : decode cX5_put 18 = .ok (.lload_n 2, 1) := by decide +kernel
theorem dX5_put_19 : decode cX5_put 19 = .ok (.lastore, 1) := by decide +kernel
theorem dX5_put_20 : decode cX5_put 20 = .ok (.aload_n 0, 1) := by decide +kernel
theorem dX5_put_21 : decode cX5_put 21 = .ok (.getfield 17, 3) := by decide +kernel
theorem dX5_put_24 : decode cX5_put 24 = .ok (.aload_n 0, 1) := by decide +kernel
theorem dX5_put_25 : decode cX5_put 25 = .ok (.getfield 51, 3) := by decide +kernel
theorem dX5_put_28 : decode cX5_put 28 = .ok (.iload 4, 2) := by decide +kernel
theorem dX5_put_30 : decode cX5_put 30 = .ok (.iastore, 1) := by decide +kernel
theorem dX5_put_31 : decode cX5_put 31 = .ok (.aload_n 0, 1) := by decide +kernel
theorem dX5_put_32 : decode cX5_put 32 = .ok (.dup, 1) := by decide +kernel
theorem dX5_put_33 : decode cX5_put 33 = .ok (.getfield 51, 3) := by decide +kernel
theorem dX5_put_36 : decode cX5_put 36 = .ok (.iconst 1, 1) := by decide +kernel
theorem dX5_put_37 : decode cX5_put 37 = .ok (.iadd, 1) := by decide +kernel
theorem dX5_put_38 : decode cX5_put 38 = .ok (.putfield 51, 3) := by decide +kernel
theorem dX5_put_41 : decode cX5_put 41 = .ok (.return_, 1) := by decide +kernel
theorem dX5_register_0 : decode cX5_register 0 = .ok (.iload_n 0, 1) := by decide +kernel
theorem dX5_register_1 : decode cX5_register 1 = .ok (.bipush 97, 2) := by decide +kernel
theorem dX5_register_3 : decode cX5_register 3 = .ok (.isub, 1) := by decide +kernel
theorem dX5_register_4 : decode cX5_register 4 = .ok (.ireturn, 1) := by decide +kernel
theorem dX5_topOf_0 : decode cX5_topOf 0 = .ok (.bipush 40, 2) := by decide +kernel
theorem dX5_topOf_2 : decode cX5_topOf 2 = .ok (.bipush 10, 2) := by decide +kernel
theorem dX5_topOf_4 : decode cX5_topOf 4 = .ok (.iload_n 1, 1) := by decide +kernel
theorem dX5_topOf_5 : decode cX5_topOf 5 = .ok (.imul, 1) := by decide +kernel
theorem dX5_topOf_6 : decode cX5_topOf 6 = .ok (.iadd, 1) := by decide +kernel
theorem dX5_topOf_7 : decode cX5_topOf 7 = .ok (.aload_n 0, 1) := by decide +kernel
theorem dX5_topOf_8 : decode cX5_topOf 8 = .ok (.getfield 23, 3) := by decide +kernel
theorem dX5_topOf_11 : decode cX5_topOf 11 = .ok (.iload_n 1, 1) := by decide +kernel
theorem dX5_topOf_12 : decode cX5_topOf 12 = .ok (.iaload, 1) := by decide +kernel
theorem dX5_topOf_13 : decode cX5_topOf 13 = .ok (.iadd, 1) := by decide +kernel
theorem dX5_topOf_14 : decode cX5_topOf 14 = .ok (.iconst 1, 1) := by decide +kernel
theorem dX5_topOf_15 : decode cX5_topOf 15 = .ok (.isub, 1) := by decide +kernel
theorem dX5_topOf_16 : decode cX5_topOf 16 = .ok (.ireturn, 1) := by decide +kernel
theorem dX5_isBig_0 : decode cX5_isBig 0 = .ok (.lload_n 0, 1) := by decide +kernel
theorem dX5_isBig_1 : decode cX5_isBig 1 = .ok (.ldc2_w 61, 3) := by decide +kernel
theorem dX5_isBig_4 : decode cX5_isBig 4 = .ok (.lcmp, 1) := by decide +kernel
theorem dX5_isBig_5 : decode cX5_isBig 5 = .ok (.ifCond .gt 11, 3) := by decide +kernel
theorem dX5_isBig_8 : decode cX5_isBig 8 = .ok (.lload_n 0, 1) := by decide +kernel
theorem dX5_isBig_9 : decode cX5_isBig 9 = .ok (.ldc2_w 63, 3) := by decide +kernel
theorem dX5_isBig_12 : decode cX5_isBig 12 = .ok (.lcmp, 1) := by decide +kernel
theorem dX5_isBig_13 : decode cX5_isBig 13 = .ok (.ifCond .ge 7, 3) := by decide +kernel
theorem dX5_isBig_16 : decode cX5_isBig 16 = .ok (.iconst 1, 1) := by decide +kernel
theorem dX5_isBig_17 : decode cX5_isBig 17 = .ok (.goto 4, 3) := by decide +kernel
theorem dX5_isBig_20 : decode cX5_isBig 20 = .ok (.iconst 0, 1) := by decide +kernel
theorem dX5_isBig_21 : decode cX5_isBig 21 = .ok (.ireturn, 1) := by decide +kernel
theorem dX5_raised_0 : decode cX5_raised 0 = .ok (.lload_n 1, 1) := by decide +kernel
theorem dX5_raised_1 : decode cX5_raised 1 = .ok (.lstore 4, 2) := by decide +kernel
theorem dX5_raised_3 : decode cX5_raised 3 = .ok (.iconst 0, 1) := by decide +kernel
theorem dX5_raised_4 : decode cX5_raised 4 = .ok (.istore 6, 2) := by decide +kernel
theorem dX5_raised_6 : decode cX5_raised 6 = .ok (.iload 6, 2) := by decide +kernel
theorem dX5_raised_8 : decode cX5_raised 8 = .ok (.iload_n 3, 1) := by decide +kernel
theorem dX5_raised_9 : decode cX5_raised 9 = .ok (.if_icmp .ge 50, 3) := by decide +kernel
theorem dX5_raised_12 : decode cX5_raised 12 = .ok (.aload_n 0, 1) := by decide +kernel
theorem dX5_raised_13 : decode cX5_raised 13 = .ok (.getfield 48, 3) := by decide +kernel
theorem dX5_raised_16 : decode cX5_raised 16 = .ok (.ifCond .ne 43, 3) := by decide +kernel
theorem dX5_raised_19 : decode cX5_raised 19 = .ok (.lload 4, 2) := by decide +kernel
theorem dX5_raised_21 : decode cX5_raised 21 = .ok (.ldc2_w 65, 3) := by decide +kernel
theorem dX5_raised_24 : decode cX5_raised 24 = .ok (.lcmp, 1) := by decide +kernel
theorem dX5_raised_25 : decode cX5_raised 25 = .ok (.ifCond .gt 12, 3) := by decide +kernel
theorem dX5_raised_28 : decode cX5_raised 28 = .ok (.lload 4, 2) := by decide +kernel
theorem dX5_raised_30 : decode cX5_raised 30 = .ok (.ldc2_w 67, 3) := by decide +kernel
theorem dX5_raised_33 : decode cX5_raised 33 = .ok (.lcmp, 1) := by decide +kernel
theorem dX5_raised_34 : decode cX5_raised 34 = .ok (.ifCond .ge 11, 3) := by decide +kernel
theorem dX5_raised_37 : decode cX5_raised 37 = .ok (.aload_n 0, 1) := by decide +kernel
theorem dX5_raised_38 : decode cX5_raised 38 = .ok (.iconst 5, 1) := by decide +kernel
theorem dX5_raised_39 : decode cX5_raised 39 = .ok (.putfield 48, 3) := by decide +kernel
theorem dX5_raised_42 : decode cX5_raised 42 = .ok (.goto 11, 3) := by decide +kernel
theorem dX5_raised_45 : decode cX5_raised 45 = .ok (.lload 4, 2) := by decide +kernel
theorem dX5_raised_47 : decode cX5_raised 47 = .ok (.ldc2_w 69, 3) := by decide +kernel
theorem dX5_raised_50 : decode cX5_raised 50 = .ok (.lmul, 1) := by decide +kernel
theorem dX5_raised_51 : decode cX5_raised 51 = .ok (.lstore 4, 2) := by decide +kernel
theorem dX5_raised_53 : decode cX5_raised 53 = .ok (.iinc 6 1, 3) := by decide +kernel
theorem dX5_raised_56 : decode cX5_raised 56 = .ok (.goto (-50), 3) := by decide +kernel
theorem dX5_raised_59 : decode cX5_raised 59 = .ok (.lload 4, 2) := by decide +kernel
theorem dX5_raised_61 : decode cX5_raised 61 = .ok (.lreturn, 1) := by decide +kernel
theorem dX5_cut_0 : decode cX5_cut 0 = .ok (.lload_n 0, 1) := by decide +kernel
theorem dX5_cut_1 : decode cX5_cut 1 = .ok (.lstore_n 3, 1) := by decide +kernel
theorem dX5_cut_2 : decode cX5_cut 2 = .ok (.iconst 0, 1) := by decide +kernel
theorem dX5_cut_3 : decode cX5_cut 3 = .ok (.istore 5, 2) := by decide +kernel
theorem dX5_cut_5 : decode cX5_cut 5 = .ok (.iload 5, 2) := by decide +kernel
theorem dX5_cut_7 : decode cX5_cut 7 = .ok (.iload_n 2, 1) := by decide +kernel
theorem dX5_cut_8 : decode cX5_cut 8 = .ok (.if_icmp .ge 15, 3) := by decide +kernel
theorem dX5_cut_11 : decode cX5_cut 11 = .ok (.lload_n 3, 1) := by decide +kernel
theorem dX5_cut_12 : decode cX5_cut 12 = .ok (.ldc2_w 69, 3) := by decide +kernel
theorem dX5_cut_15 : decode cX5_cut 15 = .ok (.ldiv, 1) := by decide +kernel
theorem dX5_cut_16 : decode cX5_cut 16 = .ok (.lstore_n 3, 1) := by decide +kernel
theorem dX5_cut_17 : decode cX5_cut 17 = .ok (.iinc 5 1, 3) := by decide +kernel
theorem dX5_cut_20 : decode cX5_cut 20 = .ok (.goto (-15), 3) := by decide +kernel
theorem dX5_cut_23 : decode cX5_cut 23 = .ok (.lload_n 3, 1) := by decide +kernel
theorem dX5_cut_24 : decode cX5_cut 24 = .ok (.lreturn, 1) := by decide +kernel
theorem dX5_product_0 : decode cX5_product 0 = .ok (.lload_n 1, 1) := by decide +kernel
theorem dX5_product_1 : decode cX5_product 1 = .ok (.lconst 0, 1) := by decide +kernel
theorem dX5_product_2 : decode cX5_product 2 = .ok (.lcmp, 1) := by decide +kernel
theorem dX5_product_3 : decode cX5_product 3 = .ok (.ifCond .ge 8, 3) := by decide +kernel
theorem dX5_product_6 : decode cX5_product 6 = .ok (.lload_n 1, 1) := by decide +kernel
theorem dX5_product_7 : decode cX5_product 7 = .ok (.lneg, 1) := by decide +kernel
theorem dX5_product_8 : decode cX5_product 8 = .ok (.goto 4, 3) := by decide +kernel
theorem dX5_product_11 : decode cX5_product 11 = .ok (.lload_n 1, 1) := by decide +kernel
theorem dX5_product_12 : decode cX5_product 12 = .ok (.lstore 5, 2) := by decide +kernel
theorem dX5_product_14 : decode cX5_product 14 = .ok (.lload_n 3, 1) := by decide +kernel
theorem dX5_product_15 : decode cX5_product 15 = .ok (.lconst 0, 1) := by decide +kernel
theorem dX5_product_16 : decode cX5_product 16 = .ok (.lcmp, 1) := by decide +kernel
theorem dX5_product_17 : decode cX5_product 17 = .ok (.ifCond .ge 8, 3) := by decide +kernel
theorem dX5_product_20 : decode cX5_product 20 = .ok (.lload_n 3, 1) := by decide +kernel
theorem dX5_product_21 : decode cX5_product 21 = .ok (.lneg, 1) := by decide +kernel
theorem dX5_product_22 : decode cX5_product 22 = .ok (.goto 4, 3) := by decide +kernel
theorem dX5_product_25 : decode cX5_product 25 = .ok (.lload_n 3, 1) := by decide +kernel
theorem dX5_product_26 : decode cX5_product 26 = .ok (.lstore 7, 2) := by decide +kernel
theorem dX5_product_28 : decode cX5_product 28 = .ok (.lload 5, 2) := by decide +kernel
theorem dX5_product_30 : decode cX5_product 30 = .ok (.lconst 0, 1) := by decide +kernel
theorem dX5_product_31 : decode cX5_product 31 = .ok (.lcmp, 1) := by decide +kernel
theorem dX5_product_32 : decode cX5_product 32 = .ok (.ifCond .le 22, 3) := by decide +kernel
theorem dX5_product_35 : decode cX5_product 35 = .ok (.lload 7, 2) := by decide +kernel
theorem dX5_product_37 : decode cX5_product 37 = .ok (.ldc2_w 61, 3) := by decide +kernel
theorem dX5_product_40 : decode cX5_product 40 = .ok (.lload 5, 2) := by decide +kernel
theorem dX5_product_42 : decode cX5_product 42 = .ok (.ldiv, 1) := by decide +kernel
theorem dX5_product_43 : decode cX5_product 43 = .ok (.lcmp, 1) := by decide +kernel
theorem dX5_product_44 : decode cX5_product 44 = .ok (.ifCond .le 10, 3) := by decide +kernel
theorem dX5_product_47 : decode cX5_product 47 = .ok (.aload_n 0, 1) := by decide +kernel
theorem dX5_product_48 : decode cX5_product 48 = .ok (.iconst 5, 1) := by decide +kernel
theorem dX5_product_49 : decode cX5_product 49 = .ok (.putfield 48, 3) := by decide +kernel
theorem dX5_product_52 : decode cX5_product 52 = .ok (.lconst 0, 1) := by decide +kernel
theorem dX5_product_53 : decode cX5_product 53 = .ok (.lreturn, 1) := by decide +kernel
theorem dX5_product_54 : decode cX5_product 54 = .ok (.lload_n 1, 1) := by decide +kernel
theorem dX5_product_55 : decode cX5_product 55 = .ok (.lload_n 3, 1) := by decide +kernel
theorem dX5_product_56 : decode cX5_product 56 = .ok (.lmul, 1) := by decide +kernel
theorem dX5_product_57 : decode cX5_product 57 = .ok (.lreturn, 1) := by decide +kernel
theorem dX5_greater_0 : decode cX5_greater 0 = .ok (.iload_n 0, 1) := by decide +kernel
theorem dX5_greater_1 : decode cX5_greater 1 = .ok (.iload_n 1, 1) := by decide +kernel
theorem dX5_greater_2 : decode cX5_greater 2 = .ok (.if_icmp .le 7, 3) := by decide +kernel
theorem dX5_greater_5 : decode cX5_greater 5 = .ok (.iload_n 0, 1) := by decide +kernel
theorem dX5_greater_6 : decode cX5_greater 6 = .ok (.goto 4, 3) := by decide +kernel
theorem dX5_greater_9 : decode cX5_greater 9 = .ok (.iload_n 1, 1) := by decide +kernel
theorem dX5_greater_10 : decode cX5_greater 10 = .ok (.ireturn, 1) := by decide +kernel
set_option maxRecDepth 20000 in
theorem ggX5_sum_X5_numbers : GoodIn wsX5_sum wsX5_numbers := goodIn_r _ [11, 1, 2, 12, 13, 14, 10, 15, 16, 17, 18, 19, 5, 35, 36, 37, 38, 39, 40, 41, 42, 43, 44, 45, 46, 47, 48, 49, 50, 51, 52, 53, 54, 55] (by decide +kernel) (by decide +kernel)
set_option maxRecDepth 20000 in
theorem gX5_sum_X5_numbers : GoodIn wsX5_sum (wsV RX5 71 RX5 yX5_numbers wsX5_numbers) := goodIn_app (goodIn_of _ (by decide +kernel)) ggX5_sum_X5_numbers
set_option maxRecDepth 20000 in
theorem ggX5_sum_X5_greater : GoodIn wsX5_sum wsX5_greater := goodIn_r _ [22] (by decide +kernel) (by decide +kernel)
set_option maxRecDepth 20000 in
theorem gX5_sum_X5_greater : GoodIn wsX5_sum (va_wsS RX5 74 yX5_greater wsX5_greater) := goodIn_app (goodIn_of _ (by decide +kernel)) ggX5_sum_X5_greater
set_option maxRecDepth 20000 in
theorem ggX5_sum_X5_raised : GoodIn wsX5_sum wsX5_raised := goodIn_r _ [26, 5, 27, 28, 29, 35, 36, 37, 38, 39, 40, 41, 42, 43, 44, 45, 46, 47, 48, 49, 50, 51, 52, 53, 54, 55] (by decide +kernel) (by decide +kernel)
set_option maxRecDepth 20000 in
theorem gX5_sum_X5_raised : GoodIn wsX5_sum (wsV RX5 81 RX5 yX5_raised wsX5_raised) := goodIn_app (goodIn_of _ (by decide +kernel)) ggX5_sum_X5_raised
set_option maxRecDepth 20000 in
theorem ggX5_sum_X5_isBig : GoodIn wsX5_sum wsX5_isBig := goodIn_r _ [32, 33, 34] (by decide +kernel) (by decide +kernel)
set_option maxRecDepth 20000 in
theorem gX5_sum_X5_isBig : GoodIn wsX5_sum (va_wsS RX5 89 yX5_isBig wsX5_isBig) := goodIn_app (goodIn_of _ (by decide +kernel)) ggX5_sum_X5_isBig
set_option maxRecDepth 20000 in
theorem ggX5_sum_X5_fail : GoodIn wsX5_sum wsX5_fail := goodIn_r _ [19, 5, 35, 36, 37, 38, 39, 40, 41, 42, 43, 44, 45, 46, 47, 48, 49, 50, 51, 52, 53, 54, 55] (by decide +kernel) (by decide +kernel)
set_option maxRecDepth 20000 in
theorem gX5_sum_X5_fail : GoodIn wsX5_sum (wsV RX5 54 RX5 yX5_fail wsX5_fail) := goodIn_app (goodIn_of _ (by decide +kernel)) ggX5_sum_X5_fail
theorem dX5_sum_0 : decode cX5_sum 0 = .ok (.aload_n 0, 1) := by decide +kernel
theorem dX5_sum_1 : decode cX5_sum 1 = .ok (.iconst 2, 1) := by decide +kernel
theorem dX5_sum_2 : decode cX5_sum 2 = .ok (.invokevirtual 71, 3) := by decide +kernel
theorem dX5_sum_5 : decode cX5_sum 5 = .ok (.ifCond .ne 5, 3) := by decide +kernel
theorem dX5_sum_8 : decode cX5_sum 8 = .ok (.iconst 0, 1) := by decide +kernel
theorem dX5_sum_9 : decode cX5_sum 9 = .ok (.ireturn, 1) := by decide +kernel
theorem dX5_sum_10 : decode cX5_sum 10 = .ok (.aload_n 0, 1) := by decide +kernel
theorem dX5_sum_11 : decode cX5_sum 11 = .ok (.aload_n 0, 1) := by decide +kernel
theorem dX5_sum_12 : decode cX5_sum 12 = .ok (.getfield 17, 3) := by decide +kernel
theorem dX5_sum_15 : decode cX5_sum 15 = .ok (.aload_n 0, 1) := by decide +kernel
theorem dX5_sum_16 : decode cX5_sum 16 = .ok (.getfield 51, 3) := by decide +kernel
theorem dX5_sum_19 : decode cX5_sum 19 = .ok (.iconst 1, 1) := by decide +kernel
theorem dX5_sum_20 : decode cX5_sum 20 = .ok (.isub, 1) := by decide +kernel
theorem dX5_sum_21 : decode cX5_sum 21 = .ok (.iaload, 1) := by decide +kernel
theorem dX5_sum_22 : decode cX5_sum 22 = .ok (.aload_n 0, 1) := by decide +kernel
theorem dX5_sum_23 : decode cX5_sum 23 = .ok (.getfield 17, 3) := by decide +kernel
theorem dX5_sum_26 : decode cX5_sum 26 = .ok (.aload_n 0, 1) := by decide +kernel
theorem dX5_sum_27 : decode cX5_sum 27 = .ok (.getfield 51, 3) := by decide +kernel
theorem dX5_sum_30 : decode cX5_sum 30 = .ok (.iconst 2, 1) := by decide +kernel
theorem dX5_sum_31 : decode cX5_sum 31 = .ok (.isub, 1) := by decide +kernel
theorem dX5_sum_32 : decode cX5_sum 32 = .ok (.iaload, 1) := by decide +kernel
theorem dX5_sum_33 : decode cX5_sum 33 = .ok (.invokestatic 74, 3) := by decide +kernel
theorem dX5_sum_36 : decode cX5_sum 36 = .ok (.putfield 78, 3) := by decide +kernel
theorem dX5_sum_39 : decode cX5_sum 39 = .ok (.aload_n 0, 1) := by decide +kernel
theorem dX5_sum_40 : decode cX5_sum 40 = .ok (.aload_n 0, 1) := by decide +kernel
theorem dX5_sum_41 : decode cX5_sum 41 = .ok (.getfield 13, 3) := by decide +kernel
theorem dX5_sum_44 : decode cX5_sum 44 = .ok (.aload_n 0, 1) := by decide +kernel
theorem dX5_sum_45 : decode cX5_sum 45 = .ok (.getfield 51, 3) := by decide +kernel
theorem dX5_sum_48 : decode cX5_sum 48 = .ok (.iconst 2, 1) := by decide +kernel
theorem dX5_sum_49 : decode cX5_sum 49 = .ok (.isub, 1) := by decide +kernel
theorem dX5_sum_50 : decode cX5_sum 50 = .ok (.laload, 1) := by decide +kernel
theorem dX5_sum_51 : decode cX5_sum 51 = .ok (.aload_n 0, 1) := by decide +kernel
theorem dX5_sum_52 : decode cX5_sum 52 = .ok (.getfield 78, 3) := by decide +kernel
theorem dX5_sum_55 : decode cX5_sum 55 = .ok (.aload_n 0, 1) := by decide +kernel
theorem dX5_sum_56 : decode cX5_sum 56 = .ok (.getfield 17, 3) := by decide +kernel
theorem dX5_sum_59 : decode cX5_sum 59 = .ok (.aload_n 0, 1) := by decide +kernel
theorem dX5_sum_60 : decode cX5_sum 60 = .ok (.getfield 51, 3) := by decide +kernel
theorem dX5_sum_63 : decode cX5_sum 63 = .ok (.iconst 2, 1) := by decide +kernel
theorem dX5_sum_64 : decode cX5_sum 64 = .ok (.isub, 1) := by decide +kernel
theorem dX5_sum_65 : decode cX5_sum 65 = .ok (.iaload, 1) := by decide +kernel
theorem dX5_sum_66 : decode cX5_sum 66 = .ok (.isub, 1) := by decide +kernel
theorem dX5_sum_67 : decode cX5_sum 67 = .ok (.invokevirtual 81, 3) := by decide +kernel
theorem dX5_sum_70 : decode cX5_sum 70 = .ok (.lstore_n 2, 1) := by decide +kernel
theorem dX5_sum_71 : decode cX5_sum 71 = .ok (.aload_n 0, 1) := by decide +kernel
theorem dX5_sum_72 : decode cX5_sum 72 = .ok (.aload_n 0, 1) := by decide +kernel
theorem dX5_sum_73 : decode cX5_sum 73 = .ok (.getfield 13, 3) := by decide +kernel
end
section
theorem dX5_sum_76 : decode cX5_sum 76 = .ok (.aload_n 0, 1) := by decide +kernel
theorem dX5_sum_77 : decode cX5_sum 77 = .ok (.getfield 51, 3) := by decide +kernel
theorem dX5_sum_80 : decode cX5_sum 80 = .ok (.iconst 1, 1) := by decide +kernel
theorem dX5_sum_81 : decode cX5_sum 81 = .ok (.isub, 1) := by decide +kernel
theorem dX5_sum_82 : decode cX5_sum 82 = .ok (.laload, 1) := by decide +kernel
theorem dX5_sum_83 : decode cX5_sum 83 = .ok (.aload_n 0, 1) := by decide +kernel
theorem dX5_sum_84 : decode cX5_sum 84 = .ok (.getfield 78, 3) := by decide +kernel
theorem dX5_sum_87 : decode cX5_sum 87 = .ok (.aload_n 0, 1) := by decide +kernel
theorem dX5_sum_88 : decode cX5_sum 88 = .ok (.getfield 17, 3) := by decide +kernel
theorem dX5_sum_91 : decode cX5_sum 91 = .ok (.aload_n 0, 1) := by decide +kernel
theorem dX5_sum_92 : decode cX5_sum 92 = .ok (.getfield 51, 3) := by decide +kernel
theorem dX5_sum_95 : decode cX5_sum 95 = .ok (.iconst 1, 1) := by decide +kernel
theorem dX5_sum_96 : decode cX5_sum 96 = .ok (.isub, 1) := by decide +kernel
theorem dX5_sum_97 : decode cX5_sum 97 = .ok (.iaload, 1) := by decide +kernel
theorem dX5_sum_98 : decode cX5_sum 98 = .ok (.isub, 1) := by decide +kernel
theorem dX5_sum_99 : decode cX5_sum 99 = .ok (.invokevirtual 81, 3) := by decide +kernel
theorem dX5_sum_102 : decode cX5_sum 102 = .ok (.lstore 4, 2) := by decide +kernel
theorem dX5_sum_104 : decode cX5_sum 104 = .ok (.aload_n 0, 1) := by decide +kernel
theorem dX5_sum_105 : decode cX5_sum 105 = .ok (.getfield 48, 3) := by decide +kernel
theorem dX5_sum_108 : decode cX5_sum 108 = .ok (.ifCond .le 5, 3) := by decide +kernel
theorem dX5_sum_111 : decode cX5_sum 111 = .ok (.iconst 0, 1) := by decide +kernel
theorem dX5_sum_112 : decode cX5_sum 112 = .ok (.ireturn, 1) := by decide +kernel
theorem dX5_sum_113 : decode cX5_sum 113 = .ok (.aload_n 0, 1) := by decide +kernel
theorem dX5_sum_114 : decode cX5_sum 114 = .ok (.iload_n 1, 1) := by decide +kernel
theorem dX5_sum_115 : decode cX5_sum 115 = .ok (.ifCond .eq 10, 3) := by decide +kernel
theorem dX5_sum_118 : decode cX5_sum 118 = .ok (.lload_n 2, 1) := by decide +kernel
theorem dX5_sum_119 : decode cX5_sum 119 = .ok (.lload 4, 2) := by decide +kernel
theorem dX5_sum_121 : decode cX5_sum 121 = .ok (.lsub, 1) := by decide +kernel
theorem dX5_sum_122 : decode cX5_sum 122 = .ok (.goto 7, 3) := by decide +kernel
theorem dX5_sum_125 : decode cX5_sum 125 = .ok (.lload_n 2, 1) := by decide +kernel
theorem dX5_sum_126 : decode cX5_sum 126 = .ok (.lload 4, 2) := by decide +kernel
theorem dX5_sum_128 : decode cX5_sum 128 = .ok (.ladd, 1) := by decide +kernel
theorem dX5_sum_129 : decode cX5_sum 129 = .ok (.putfield 85, 3) := by decide +kernel
theorem dX5_sum_132 : decode cX5_sum 132 = .ok (.aload_n 0, 1) := by decide +kernel
theorem dX5_sum_133 : decode cX5_sum 133 = .ok (.getfield 85, 3) := by decide +kernel
theorem dX5_sum_136 : decode cX5_sum 136 = .ok (.invokestatic 89, 3) := by decide +kernel
theorem dX5_sum_139 : decode cX5_sum 139 = .ok (.ifCond .eq 11, 3) := by decide +kernel
theorem dX5_sum_142 : decode cX5_sum 142 = .ok (.aload_n 0, 1) := by decide +kernel
theorem dX5_sum_143 : decode cX5_sum 143 = .ok (.iconst 5, 1) := by decide +kernel
theorem dX5_sum_144 : decode cX5_sum 144 = .ok (.invokevirtual 54, 3) := by decide +kernel
theorem dX5_sum_147 : decode cX5_sum 147 = .ok (.ifCond .eq 7, 3) := by decide +kernel
theorem dX5_sum_150 : decode cX5_sum 150 = .ok (.iconst 1, 1) := by decide +kernel
theorem dX5_sum_151 : decode cX5_sum 151 = .ok (.goto 4, 3) := by decide +kernel
theorem dX5_sum_154 : decode cX5_sum 154 = .ok (.iconst 0, 1) := by decide +kernel
theorem dX5_sum_155 : decode cX5_sum 155 = .ok (.ireturn, 1) := by decide +kernel
set_option maxRecDepth 20000 in
theorem ggX5_times_X5_numbers : GoodIn wsX5_times wsX5_numbers := goodIn_r _ [12, 1, 2, 13, 14, 15, 11, 16, 17, 18, 19, 20, 7, 33, 34, 35, 36, 37, 38, 39, 40, 41, 42, 43, 44, 45, 46, 47, 48, 49, 50, 51, 52, 53] (by decide +kernel) (by decide +kernel)
set_option maxRecDepth 20000 in
theorem gX5_times_X5_numbers : GoodIn wsX5_times (wsV RX5 71 RX5 yX5_numbers wsX5_numbers) := goodIn_app (goodIn_of _ (by decide +kernel)) ggX5_times_X5_numbers
set_option maxRecDepth 20000 in
theorem ggX5_times_X5_greater : GoodIn wsX5_times wsX5_greater := goodIn_r _ [23] (by decide +kernel) (by decide +kernel)
set_option maxRecDepth 20000 in
theorem gX5_times_X5_greater : GoodIn wsX5_times (va_wsS RX5 74 yX5_greater wsX5_greater) := goodIn_app (goodIn_of _ (by decide +kernel)) ggX5_times_X5_greater
set_option maxRecDepth 20000 in
theorem ggX5_times_X5_product : GoodIn wsX5_times wsX5_product := goodIn_r _ [27, 28, 7, 33, 34, 35, 36, 37, 38, 39, 40, 41, 42, 43, 44, 45, 46, 47, 48, 49, 50, 51, 52, 53] (by decide +kernel) (by decide +kernel)
set_option maxRecDepth 20000 in
theorem gX5_times_X5_product : GoodIn wsX5_times (wsV RX5 96 RX5 yX5_product wsX5_product) := goodIn_app (goodIn_of _ (by decide +kernel)) ggX5_times_X5_product
set_option maxRecDepth 20000 in
theorem ggX5_times_X5_cut : GoodIn wsX5_times wsX5_cut := goodIn_r _ [31, 32] (by decide +kernel) (by decide +kernel)
set_option maxRecDepth 20000 in
theorem gX5_times_X5_cut : GoodIn wsX5_times (va_wsS RX5 100 yX5_cut wsX5_cut) := goodIn_app (goodIn_of _ (by decide +kernel)) ggX5_times_X5_cut
theorem dX5_times_0 : decode cX5_times 0 = .ok (.aload_n 0, 1) := by decide +kernel
theorem dX5_times_1 : decode cX5_times 1 = .ok (.iconst 2, 1) := by decide +kernel
theorem dX5_times_2 : decode cX5_times 2 = .ok (.invokevirtual 71, 3) := by decide +kernel
theorem dX5_times_5 : decode cX5_times 5 = .ok (.ifCond .ne 5, 3) := by decide +kernel
theorem dX5_times_8 : decode cX5_times 8 = .ok (.iconst 0, 1) := by decide +kernel
theorem dX5_times_9 : decode cX5_times 9 = .ok (.ireturn, 1) := by decide +kernel
theorem dX5_times_10 : decode cX5_times 10 = .ok (.aload_n 0, 1) := by decide +kernel
theorem dX5_times_11 : decode cX5_times 11 = .ok (.getfield 17, 3) := by decide +kernel
theorem dX5_times_14 : decode cX5_times 14 = .ok (.aload_n 0, 1) := by decide +kernel
theorem dX5_times_15 : decode cX5_times 15 = .ok (.getfield 51, 3) := by decide +kernel
theorem dX5_times_18 : decode cX5_times 18 = .ok (.iconst 1, 1) := by decide +kernel
theorem dX5_times_19 : decode cX5_times 19 = .ok (.isub, 1) := by decide +kernel
theorem dX5_times_20 : decode cX5_times 20 = .ok (.iaload, 1) := by decide +kernel
theorem dX5_times_21 : decode cX5_times 21 = .ok (.istore_n 1, 1) := by decide +kernel
theorem dX5_times_22 : decode cX5_times 22 = .ok (.aload_n 0, 1) := by decide +kernel
theorem dX5_times_23 : decode cX5_times 23 = .ok (.getfield 17, 3) := by decide +kernel
theorem dX5_times_26 : decode cX5_times 26 = .ok (.aload_n 0, 1) := by decide +kernel
theorem dX5_times_27 : decode cX5_times 27 = .ok (.getfield 51, 3) := by decide +kernel
theorem dX5_times_30 : decode cX5_times 30 = .ok (.iconst 2, 1) := by decide +kernel
theorem dX5_times_31 : decode cX5_times 31 = .ok (.isub, 1) := by decide +kernel
theorem dX5_times_32 : decode cX5_times 32 = .ok (.iaload, 1) := by decide +kernel
theorem dX5_times_33 : decode cX5_times 33 = .ok (.istore_n 2, 1) := by decide +kernel
theorem dX5_times_34 : decode cX5_times 34 = .ok (.aload_n 0, 1) := by decide +kernel
theorem dX5_times_35 : decode cX5_times 35 = .ok (.aload_n 0, 1) := by decide +kernel
theorem dX5_times_36 : decode cX5_times 36 = .ok (.getfield 93, 3) := by decide +kernel
theorem dX5_times_39 : decode cX5_times 39 = .ok (.iload_n 1, 1) := by decide +kernel
theorem dX5_times_40 : decode cX5_times 40 = .ok (.iload_n 2, 1) := by decide +kernel
theorem dX5_times_41 : decode cX5_times 41 = .ok (.invokestatic 74, 3) := by decide +kernel
theorem dX5_times_44 : decode cX5_times 44 = .ok (.invokestatic 74, 3) := by decide +kernel
theorem dX5_times_47 : decode cX5_times 47 = .ok (.putfield 78, 3) := by decide +kernel
theorem dX5_times_50 : decode cX5_times 50 = .ok (.iload_n 1, 1) := by decide +kernel
theorem dX5_times_51 : decode cX5_times 51 = .ok (.iload_n 2, 1) := by decide +kernel
theorem dX5_times_52 : decode cX5_times 52 = .ok (.iadd, 1) := by decide +kernel
theorem dX5_times_53 : decode cX5_times 53 = .ok (.aload_n 0, 1) := by decide +kernel
theorem dX5_times_54 : decode cX5_times 54 = .ok (.getfield 78, 3) := by decide +kernel
theorem dX5_times_57 : decode cX5_times 57 = .ok (.if_icmp .ge 10, 3) := by decide +kernel
theorem dX5_times_60 : decode cX5_times 60 = .ok (.aload_n 0, 1) := by decide +kernel
theorem dX5_times_61 : decode cX5_times 61 = .ok (.iload_n 1, 1) := by decide +kernel
theorem dX5_times_62 : decode cX5_times 62 = .ok (.iload_n 2, 1) := by decide +kernel
theorem dX5_times_63 : decode cX5_times 63 = .ok (.iadd, 1) := by decide +kernel
theorem dX5_times_64 : decode cX5_times 64 = .ok (.putfield 78, 3) := by decide +kernel
theorem dX5_times_67 : decode cX5_times 67 = .ok (.aload_n 0, 1) := by decide +kernel
theorem dX5_times_68 : decode cX5_times 68 = .ok (.aload_n 0, 1) := by decide +kernel
theorem dX5_times_69 : decode cX5_times 69 = .ok (.aload_n 0, 1) := by decide +kernel
theorem dX5_times_70 : decode cX5_times 70 = .ok (.getfield 13, 3) := by decide +kernel
theorem dX5_times_73 : decode cX5_times 73 = .ok (.aload_n 0, 1) := by decide +kernel
theorem dX5_times_74 : decode cX5_times 74 = .ok (.getfield 51, 3) := by decide +kernel
theorem dX5_times_77 : decode cX5_times 77 = .ok (.iconst 2, 1) := by decide +kernel
theorem dX5_times_78 : decode cX5_times 78 = .ok (.isub, 1) := by decide +kernel
theorem dX5_times_79 : decode cX5_times 79 = .ok (.laload, 1) := by decide +kernel
theorem dX5_times_80 : decode cX5_times 80 = .ok (.aload_n 0, 1) := by decide +kernel
theorem dX5_times_81 : decode cX5_times 81 = .ok (.getfield 13, 3) := by decide +kernel
theorem dX5_times_84 : decode cX5_times 84 = .ok (.aload_n 0, 1) := by decide +kernel
theorem dX5_times_85 : decode cX5_times 85 = .ok (.getfield 51, 3) := by decide +kernel
theorem dX5_times_88 : decode cX5_times 88 = .ok (.iconst 1, 1) := by decide +kernel
theorem dX5_times_89 : decode cX5_times 89 = .ok (.isub, 1) := by decide +kernel
theorem dX5_times_90 : decode cX5_times 90 = .ok (.laload, 1) := by decide +kernel
theorem dX5_times_91 : decode cX5_times 91 = .ok (.invokevirtual 96, 3) := by decide +kernel
theorem dX5_times_94 : decode cX5_times 94 = .ok (.iload_n 1, 1) := by decide +kernel
theorem dX5_times_95 : decode cX5_times 95 = .ok (.iload_n 2, 1) := by decide +kernel
theorem dX5_times_96 : decode cX5_times 96 = .ok (.iadd, 1) := by decide +kernel
theorem dX5_times_97 : decode cX5_times 97 = .ok (.aload_n 0, 1) := by decide +kernel
theorem dX5_times_98 : decode cX5_times 98 = .ok (.getfield 78, 3) := by decide +kernel
theorem dX5_times_101 : decode cX5_times 101 = .ok (.isub, 1) := by decide +kernel
theorem dX5_times_102 : decode cX5_times 102 = .ok (.invokestatic 100, 3) := by decide +kernel
theorem dX5_times_105 : decode cX5_times 105 = .ok (.putfield 85, 3) := by decide +kernel
theorem dX5_times_108 : decode cX5_times 108 = .ok (.aload_n 0, 1) := by decide +kernel
theorem dX5_times_109 : decode cX5_times 109 = .ok (.getfield 48, 3) := by decide +kernel
theorem dX5_times_112 : decode cX5_times 112 = .ok (.ifCond .ne 7, 3) := by decide +kernel
theorem dX5_times_115 : decode cX5_times 115 = .ok (.iconst 1, 1) := by decide +kernel
theorem dX5_times_116 : decode cX5_times 116 = .ok (.goto 4, 3) := by decide +kernel
theorem dX5_times_119 : decode cX5_times 119 = .ok (.iconst 0, 1) := by decide +kernel
theorem dX5_times_120 : decode cX5_times 120 = .ok (.ireturn, 1) := by decide +kernel
set_option maxRecDepth 20000 in
theorem ggX5_quotient_X5_numbers : GoodIn wsX5_quotient wsX5_numbers := goodIn_r _ [12, 4, 2, 13, 14, 15, 11, 16, 17, 18, 19, 20, 5, 28, 29, 30, 31, 32, 33, 34, 35, 36, 37, 38, 39, 40, 41, 42, 43, 44, 45, 46, 47, 48] (by decide +kernel) (by decide +kernel)
set_option maxRecDepth 20000 in
theorem gX5_quotient_X5_numbers : GoodIn wsX5_quotient (wsV RX5 71 RX5 yX5_numbers wsX5_numbers) := goodIn_app (goodIn_of _ (by decide +kernel)) ggX5_quotient_X5_numbers
set_option maxRecDepth 20000 in
theorem ggX5_quotient_X5_fail : GoodIn wsX5_quotient wsX5_fail := goodIn_r _ [20, 5, 28, 29, 30, 31, 32, 33, 34, 35, 36, 37, 38, 39, 40, 41, 42, 43, 44, 45, 46, 47, 48] (by decide +kernel) (by decide +kernel)
set_option maxRecDepth 20000 in
theorem gX5_quotient_X5_fail : GoodIn wsX5_quotient (wsV RX5 54 RX5 yX5_fail wsX5_fail) := goodIn_app (goodIn_of _ (by decide +kernel)) ggX5_quotient_X5_fail
set_option maxRecDepth 20000 in
theorem ggX5_quotient_X5_raised : GoodIn wsX5_quotient wsX5_raised := goodIn_r _ [24, 5, 25, 26, 27, 28, 29, 30, 31, 32, 33, 34, 35, 36, 37, 38, 39, 40, 41, 42, 43, 44, 45, 46, 47, 48] (by decide +kernel) (by decide +kernel)
set_option maxRecDepth 20000 in
theorem gX5_quotient_X5_raised : GoodIn wsX5_quotient (wsV RX5 81 RX5 yX5_raised wsX5_raised) := goodIn_app (goodIn_of _ (by decide +kernel)) ggX5_quotient_X5_raised
theorem dX5_quotient_0 : decode cX5_quotient 0 = .ok (.aload_n 0, 1) := by decide +kernel
theorem dX5_quotient_1 : decode cX5_quotient 1 = .ok (.iconst 2, 1) := by decide +kernel
theorem dX5_quotient_2 : decode cX5_quotient 2 = .ok (.invokevirtual 71, 3) := by decide +kernel
theorem dX5_quotient_5 : decode cX5_quotient 5 = .ok (.ifCond .ne 5, 3) := by decide +kernel
theorem dX5_quotient_8 : decode cX5_quotient 8 = .ok (.iconst 0, 1) := by decide +kernel
theorem dX5_quotient_9 : decode cX5_quotient 9 = .ok (.ireturn, 1) := by decide +kernel
theorem dX5_quotient_10 : decode cX5_quotient 10 = .ok (.aload_n 0, 1) := by decide +kernel
theorem dX5_quotient_11 : decode cX5_quotient 11 = .ok (.getfield 13, 3) := by decide +kernel
theorem dX5_quotient_14 : decode cX5_quotient 14 = .ok (.aload_n 0, 1) := by decide +kernel
theorem dX5_quotient_15 : decode cX5_quotient 15 = .ok (.getfield 51, 3) := by decide +kernel
theorem dX5_quotient_18 : decode cX5_quotient 18 = .ok (.iconst 2, 1) := by decide +kernel
theorem dX5_quotient_19 : decode cX5_quotient 19 = .ok (.isub, 1) := by decide +kernel
theorem dX5_quotient_20 : decode cX5_quotient 20 = .ok (.laload, 1) := by decide +kernel
theorem dX5_quotient_21 : decode cX5_quotient 21 = .ok (.lstore_n 1, 1) := by decide +kernel
theorem dX5_quotient_22 : decode cX5_quotient 22 = .ok (.aload_n 0, 1) := by decide +kernel
theorem dX5_quotient_23 : decode cX5_quotient 23 = .ok (.getfield 13, 3) := by decide +kernel
theorem dX5_quotient_26 : decode cX5_quotient 26 = .ok (.aload_n 0, 1) := by decide +kernel
theorem dX5_quotient_27 : decode cX5_quotient 27 = .ok (.getfield 51, 3) := by decide +kernel
theorem dX5_quotient_30 : decode cX5_quotient 30 = .ok (.iconst 1, 1) := by decide +kernel
theorem dX5_quotient_31 : decode cX5_quotient 31 = .ok (.isub, 1) := by decide +kernel
theorem dX5_quotient_32 : decode cX5_quotient 32 = .ok (.laload, 1) := by decide +kernel
theorem dX5_quotient_33 : decode cX5_quotient 33 = .ok (.lstore_n 3, 1) := by decide +kernel
theorem dX5_quotient_34 : decode cX5_quotient 34 = .ok (.lload_n 3, 1) := by decide +kernel
theorem dX5_quotient_35 : decode cX5_quotient 35 = .ok (.lconst 0, 1) := by decide +kernel
theorem dX5_quotient_36 : decode cX5_quotient 36 = .ok (.lcmp, 1) := by decide +kernel
theorem dX5_quotient_37 : decode cX5_quotient 37 = .ok (.ifCond .ne 9, 3) := by decide +kernel
theorem dX5_quotient_40 : decode cX5_quotient 40 = .ok (.aload_n 0, 1) := by decide +kernel
theorem dX5_quotient_41 : decode cX5_quotient 41 = .ok (.iconst 4, 1) := by decide +kernel
theorem dX5_quotient_42 : decode cX5_quotient 42 = .ok (.invokevirtual 54, 3) := by decide +kernel
theorem dX5_quotient_45 : decode cX5_quotient 45 = .ok (.ireturn, 1) := by decide +kernel
theorem dX5_quotient_46 : decode cX5_quotient 46 = .ok (.aload_n 0, 1) := by decide +kernel
theorem dX5_quotient_47 : decode cX5_quotient 47 = .ok (.getfield 93, 3) := by decide +kernel
theorem dX5_quotient_50 : decode cX5_quotient 50 = .ok (.aload_n 0, 1) := by decide +kernel
theorem dX5_quotient_51 : decode cX5_quotient 51 = .ok (.getfield 17, 3) := by decide +kernel
theorem dX5_quotient_54 : decode cX5_quotient 54 = .ok (.aload_n 0, 1) := by decide +kernel
theorem dX5_quotient_55 : decode cX5_quotient 55 = .ok (.getfield 51, 3) := by decide +kernel
theorem dX5_quotient_58 : decode cX5_quotient 58 = .ok (.iconst 1, 1) := by decide +kernel
theorem dX5_quotient_59 : decode cX5_quotient 59 = .ok (.isub, 1) := by decide +kernel
theorem dX5_quotient_60 : decode cX5_quotient 60 = .ok (.iaload, 1) := by decide +kernel
theorem dX5_quotient_61 : decode cX5_quotient 61 = .ok (.iadd, 1) := by decide +kernel
theorem dX5_quotient_62 : decode cX5_quotient 62 = .ok (.aload_n 0, 1) := by decide +kernel
theorem dX5_quotient_63 : decode cX5_quotient 63 = .ok (.getfield 17, 3) := by decide +kernel
theorem dX5_quotient_66 : decode cX5_quotient 66 = .ok (.aload_n 0, 1) := by decide +kernel
theorem dX5_quotient_67 : decode cX5_quotient 67 = .ok (.getfield 51, 3) := by decide +kernel
theorem dX5_quotient_70 : decode cX5_quotient 70 = .ok (.iconst 2, 1) := by decide +kernel
theorem dX5_quotient_71 : decode cX5_quotient 71 = .ok (.isub, 1) := by decide +kernel
theorem dX5_quotient_72 : decode cX5_quotient 72 = .ok (.iaload, 1) := by decide +kernel
theorem dX5_quotient_73 : decode cX5_quotient 73 = .ok (.isub, 1) := by decide +kernel
theorem dX5_quotient_74 : decode cX5_quotient 74 = .ok (.istore 5, 2) := by decide +kernel
theorem dX5_quotient_76 : decode cX5_quotient 76 = .ok (.aload_n 0, 1) := by decide +kernel
theorem dX5_quotient_77 : decode cX5_quotient 77 = .ok (.lload_n 1, 1) := by decide +kernel
theorem dX5_quotient_78 : decode cX5_quotient 78 = .ok (.iload 5, 2) := by decide +kernel
theorem dX5_quotient_80 : decode cX5_quotient 80 = .ok (.invokevirtual 81, 3) := by decide +kernel
theorem dX5_quotient_83 : decode cX5_quotient 83 = .ok (.lstore_n 1, 1) := by decide +kernel
theorem dX5_quotient_84 : decode cX5_quotient 84 = .ok (.aload_n 0, 1) := by decide +kernel
theorem dX5_quotient_85 : decode cX5_quotient 85 = .ok (.lload_n 3, 1) := by decide +kernel
theorem dX5_quotient_86 : decode cX5_quotient 86 = .ok (.iload 5, 2) := by decide +kernel
theorem dX5_quotient_88 : decode cX5_quotient 88 = .ok (.ineg, 1) := by decide +kernel
theorem dX5_quotient_89 : decode cX5_quotient 89 = .ok (.invokevirtual 81, 3) := by decide +kernel
theorem dX5_quotient_92 : decode cX5_quotient 92 = .ok (.lstore_n 3, 1) := by decide +kernel
theorem dX5_quotient_93 : decode cX5_quotient 93 = .ok (.aload_n 0, 1) := by decide +kernel
theorem dX5_quotient_94 : decode cX5_quotient 94 = .ok (.getfield 48, 3) := by decide +kernel
theorem dX5_quotient_97 : decode cX5_quotient 97 = .ok (.ifCond .le 5, 3) := by decide +kernel
theorem dX5_quotient_100 : decode cX5_quotient 100 = .ok (.iconst 0, 1) := by decide +kernel
theorem dX5_quotient_101 : decode cX5_quotient 101 = .ok (.ireturn, 1) := by decide +kernel
theorem dX5_quotient_102 : decode cX5_quotient 102 = .ok (.aload_n 0, 1) := by decide +kernel
theorem dX5_quotient_103 : decode cX5_quotient 103 = .ok (.lload_n 1, 1) := by decide +kernel
theorem dX5_quotient_104 : decode cX5_quotient 104 = .ok (.lload_n 3, 1) := by decide +kernel
theorem dX5_quotient_105 : decode cX5_quotient 105 = .ok (.ldiv, 1) := by decide +kernel
theorem dX5_quotient_106 : decode cX5_quotient 106 = .ok (.putfield 85, 3) := by decide +kernel
theorem dX5_quotient_109 : decode cX5_quotient 109 = .ok (.aload_n 0, 1) := by decide +kernel
theorem dX5_quotient_110 : decode cX5_quotient 110 = .ok (.aload_n 0, 1) := by decide +kernel
theorem dX5_quotient_111 : decode cX5_quotient 111 = .ok (.getfield 93, 3) := by decide +kernel
theorem dX5_quotient_114 : decode cX5_quotient 114 = .ok (.putfield 78, 3) := by decide +kernel
theorem dX5_quotient_117 : decode cX5_quotient 117 = .ok (.iconst 1, 1) := by decide +kernel
theorem dX5_quotient_118 : decode cX5_quotient 118 = .ok (.ireturn, 1) := by decide +kernel
set_option maxRecDepth 20000 in
theorem ggX5_rest_X5_quotient : GoodIn wsX5_rest wsX5_quotient := goodIn_r _ [12, 6, 3, 1, 2, 7, 5, 4, 13, 14, 15, 11, 16, 17, 18, 19, 20, 21, 22, 23, 24, 25, 26, 27, 28, 29, 30, 31, 44, 45, 46, 47, 48, 49, 50, 51, 52, 53, 54, 55, 56, 57, 58, 59, 60, 61, 62, 63, 64] (by decide +kernel) (by decide +kernel)
set_option maxRecDepth 20000 in
theorem gX5_rest_X5_quotient : GoodIn wsX5_rest (wsV RX5 103 RX5 yX5_quotient wsX5_quotient) := goodIn_app (goodIn_of _ (by decide +kernel)) ggX5_rest_X5_quotient
set_option maxRecDepth 20000 in
theorem ggX5_rest_X5_greater : GoodIn wsX5_rest wsX5_greater := goodIn_r _ [34] (by decide +kernel) (by decide +kernel)
set_option maxRecDepth 20000 in
theorem gX5_rest_X5_greater : GoodIn wsX5_rest (va_wsS RX5 74 yX5_greater wsX5_greater) := goodIn_app (goodIn_of _ (by decide +kernel)) ggX5_rest_X5_greater
set_option maxRecDepth 20000 in
theorem ggX5_rest_X5_product : GoodIn wsX5_rest wsX5_product := goodIn_r _ [38, 39, 7, 44, 45, 46, 47, 48, 49, 50, 51, 52, 53, 54, 55, 56, 57, 58, 59, 60, 61, 62, 63, 64] (by decide +kernel) (by decide +kernel)
set_option maxRecDepth 20000 in
theorem gX5_rest_X5_product : GoodIn wsX5_rest (wsV RX5 96 RX5 yX5_product wsX5_product) := goodIn_app (goodIn_of _ (by decide +kernel)) ggX5_rest_X5_product
set_option maxRecDepth 20000 in
theorem ggX5_rest_X5_raised : GoodIn wsX5_rest wsX5_raised := goodIn_r _ [28, 7, 29, 30, 31, 44, 45, 46, 47, 48, 49, 50, 51, 52, 53, 54, 55, 56, 57, 58, 59, 60, 61, 62, 63, 64] (by decide +kernel) (by decide +kernel)
set_option maxRecDepth 20000 in
theorem gX5_rest_X5_raised : GoodIn wsX5_rest (wsV RX5 81 RX5 yX5_raised wsX5_raised) := goodIn_app (goodIn_of _ (by decide +kernel)) ggX5_rest_X5_raised
set_option maxRecDepth 20000 in
theorem ggX5_rest_X5_isBig : GoodIn wsX5_rest wsX5_isBig := goodIn_r _ [42, 39, 43] (by decide +kernel) (by decide +kernel)
set_option maxRecDepth 20000 in
theorem gX5_rest_X5_isBig : GoodIn wsX5_rest (va_wsS RX5 89 yX5_isBig wsX5_isBig) := goodIn_app (goodIn_of _ (by decide +kernel)) ggX5_rest_X5_isBig
theorem dX5_rest_0 : decode cX5_rest 0 = .ok (.aload_n 0, 1) := by decide +kernel
theorem dX5_rest_1 : decode cX5_rest 1 = .ok (.invokevirtual 103, 3) := by decide +kernel
theorem dX5_rest_4 : decode cX5_rest 4 = .ok (.ifCond .ne 5, 3) := by decide +kernel
theorem dX5_rest_7 : decode cX5_rest 7 = .ok (.iconst 0, 1) := by decide +kernel
theorem dX5_rest_8 : decode cX5_rest 8 = .ok (.ireturn, 1) := by decide +kernel
theorem dX5_rest_9 : decode cX5_rest 9 = .ok (.aload_n 0, 1) := by decide +kernel
theorem dX5_rest_10 : decode cX5_rest 10 = .ok (.getfield 93, 3) := by decide +kernel
theorem dX5_rest_13 : decode cX5_rest 13 = .ok (.aload_n 0, 1) := by decide +kernel
theorem dX5_rest_14 : decode cX5_rest 14 = .ok (.getfield 17, 3) := by decide +kernel
theorem dX5_rest_17 : decode cX5_rest 17 = .ok (.aload_n 0, 1) := by decide +kernel
theorem dX5_rest_18 : decode cX5_rest 18 = .ok (.getfield 51, 3) := by decide +kernel
theorem dX5_rest_21 : decode cX5_rest 21 = .ok (.iconst 1, 1) := by decide +kernel
theorem dX5_rest_22 : decode cX5_rest 22 = .ok (.isub, 1) := by decide +kernel
theorem dX5_rest_23 : decode cX5_rest 23 = .ok (.iaload, 1) := by decide +kernel
theorem dX5_rest_24 : decode cX5_rest 24 = .ok (.iadd, 1) := by decide +kernel
theorem dX5_rest_25 : decode cX5_rest 25 = .ok (.istore_n 1, 1) := by decide +kernel
theorem dX5_rest_26 : decode cX5_rest 26 = .ok (.aload_n 0, 1) := by decide +kernel
theorem dX5_rest_27 : decode cX5_rest 27 = .ok (.getfield 17, 3) := by decide +kernel
theorem dX5_rest_30 : decode cX5_rest 30 = .ok (.aload_n 0, 1) := by decide +kernel
theorem dX5_rest_31 : decode cX5_rest 31 = .ok (.getfield 51, 3) := by decide +kernel
theorem dX5_rest_34 : decode cX5_rest 34 = .ok (.iconst 2, 1) := by decide +kernel
theorem dX5_rest_35 : decode cX5_rest 35 = .ok (.isub, 1) := by decide +kernel
theorem dX5_rest_36 : decode cX5_rest 36 = .ok (.iaload, 1) := by decide +kernel
theorem dX5_rest_37 : decode cX5_rest 37 = .ok (.istore_n 2, 1) := by decide +kernel
theorem dX5_rest_38 : decode cX5_rest 38 = .ok (.aload_n 0, 1) := by decide +kernel
theorem dX5_rest_39 : decode cX5_rest 39 = .ok (.iload_n 1, 1) := by decide +kernel
theorem dX5_rest_40 : decode cX5_rest 40 = .ok (.iload_n 2, 1) := by decide +kernel
theorem dX5_rest_41 : decode cX5_rest 41 = .ok (.invokestatic 74, 3) := by decide +kernel
theorem dX5_rest_44 : decode cX5_rest 44 = .ok (.putfield 78, 3) := by decide +kernel
theorem dX5_rest_47 : decode cX5_rest 47 = .ok (.aload_n 0, 1) := by decide +kernel
theorem dX5_rest_48 : decode cX5_rest 48 = .ok (.aload_n 0, 1) := by decide +kernel
theorem dX5_rest_49 : decode cX5_rest 49 = .ok (.aload_n 0, 1) := by decide +kernel
theorem dX5_rest_50 : decode cX5_rest 50 = .ok (.getfield 85, 3) := by decide +kernel
theorem dX5_rest_53 : decode cX5_rest 53 = .ok (.aload_n 0, 1) := by decide +kernel
theorem dX5_rest_54 : decode cX5_rest 54 = .ok (.getfield 13, 3) := by decide +kernel
theorem dX5_rest_57 : decode cX5_rest 57 = .ok (.aload_n 0, 1) := by decide +kernel
theorem dX5_rest_58 : decode cX5_rest 58 = .ok (.getfield 51, 3) := by decide +kernel
theorem dX5_rest_61 : decode cX5_rest 61 = .ok (.iconst 1, 1) := by decide +kernel
theorem dX5_rest_62 : decode cX5_rest 62 = .ok (.isub, 1) := by decide +kernel
theorem dX5_rest_63 : decode cX5_rest 63 = .ok (.laload, 1) := by decide +kernel
theorem dX5_rest_64 : decode cX5_rest 64 = .ok (.invokevirtual 96, 3) := by decide +kernel
theorem dX5_rest_67 : decode cX5_rest 67 = .ok (.aload_n 0, 1) := by decide +kernel
theorem dX5_rest_68 : decode cX5_rest 68 = .ok (.getfield 78, 3) := by decide +kernel
theorem dX5_rest_71 : decode cX5_rest 71 = .ok (.iload_n 1, 1) := by decide +kernel
theorem dX5_rest_72 : decode cX5_rest 72 = .ok (.isub, 1) := by decide +kernel
theorem dX5_rest_73 : decode cX5_rest 73 = .ok (.invokevirtual 81, 3) := by decide +kernel
theorem dX5_rest_76 : decode cX5_rest 76 = .ok (.lstore_n 3, 1) := by decide +kernel
theorem dX5_rest_77 : decode cX5_rest 77 = .ok (.aload_n 0, 1) := by decide +kernel
theorem dX5_rest_78 : decode cX5_rest 78 = .ok (.aload_n 0, 1) := by decide +kernel
theorem dX5_rest_79 : decode cX5_rest 79 = .ok (.getfield 13, 3) := by decide +kernel
theorem dX5_rest_82 : decode cX5_rest 82 = .ok (.aload_n 0, 1) := by decide +kernel
theorem dX5_rest_83 : decode cX5_rest 83 = .ok (.getfield 51, 3) := by decide +kernel
theorem dX5_rest_86 : decode cX5_rest 86 = .ok (.iconst 2, 1) := by decide +kernel
theorem dX5_rest_87 : decode cX5_rest 87 = .ok (.isub, 1) := by decide +kernel
theorem dX5_rest_88 : decode cX5_rest 88 = .ok (.laload, 1) := by decide +kernel
theorem dX5_rest_89 : decode cX5_rest 89 = .ok (.aload_n 0, 1) := by decide +kernel
theorem dX5_rest_90 : decode cX5_rest 90 = .ok (.getfield 78, 3) := by decide +kernel
theorem dX5_rest_93 : decode cX5_rest 93 = .ok (.iload_n 2, 1) := by decide +kernel
theorem dX5_rest_94 : decode cX5_rest 94 = .ok (.isub, 1) := by decide +kernel
theorem dX5_rest_95 : decode cX5_rest 95 = .ok (.invokevirtual 81, 3) := by decide +kernel
theorem dX5_rest_98 : decode cX5_rest 98 = .ok (.lstore 5, 2) := by decide +kernel
theorem dX5_rest_100 : decode cX5_rest 100 = .ok (.aload_n 0, 1) := by decide +kernel
theorem dX5_rest_101 : decode cX5_rest 101 = .ok (.lload 5, 2) := by decide +kernel
theorem dX5_rest_103 : decode cX5_rest 103 = .ok (.lload_n 3, 1) := by decide +kernel
theorem dX5_rest_104 : decode cX5_rest 104 = .ok (.lsub, 1) := by decide +kernel
theorem dX5_rest_105 : decode cX5_rest 105 = .ok (.putfield 85, 3) := by decide +kernel
theorem dX5_rest_108 : decode cX5_rest 108 = .ok (.aload_n 0, 1) := by decide +kernel
theorem dX5_rest_109 : decode cX5_rest 109 = .ok (.getfield 48, 3) := by decide +kernel
theorem dX5_rest_112 : decode cX5_rest 112 = .ok (.ifCond .ne 27, 3) := by decide +kernel
theorem dX5_rest_115 : decode cX5_rest 115 = .ok (.aload_n 0, 1) := by decide +kernel
theorem dX5_rest_116 : decode cX5_rest 116 = .ok (.getfield 78, 3) := by decide +kernel
theorem dX5_rest_119 : decode cX5_rest 119 = .ok (.bipush 9, 2) := by decide +kernel
theorem dX5_rest_121 : decode cX5_rest 121 = .ok (.if_icmp .gt 13, 3) := by decide +kernel
theorem dX5_rest_124 : decode cX5_rest 124 = .ok (.aload_n 0, 1) := by decide +kernel
theorem dX5_rest_125 : decode cX5_rest 125 = .ok (.getfield 85, 3) := by decide +kernel
theorem dX5_rest_128 : decode cX5_rest 128 = .ok (.invokestatic 89, 3) := by decide +kernel
theorem dX5_rest_131 : decode cX5_rest 131 = .ok (.ifCond .eq 8, 3) := by decide +kernel
theorem dX5_rest_134 : decode cX5_rest 134 = .ok (.aload_n 0, 1) := by decide +kernel
theorem dX5_rest_135 : decode cX5_rest 135 = .ok (.iconst 5, 1) := by decide +kernel
theorem dX5_rest_136 : decode cX5_rest 136 = .ok (.putfield 48, 3) := by decide +kernel
theorem dX5_rest_139 : decode cX5_rest 139 = .ok (.aload_n 0, 1) := by decide +kernel
theorem dX5_rest_140 : decode cX5_rest 140 = .ok (.getfield 48, 3) := by decide +kernel
theorem dX5_rest_143 : decode cX5_rest 143 = .ok (.ifCond .ne 7, 3) := by decide +kernel
theorem dX5_rest_146 : decode cX5_rest 146 = .ok (.iconst 1, 1) := by decide +kernel
theorem dX5_rest_147 : decode cX5_rest 147 = .ok (.goto 4, 3) := by decide +kernel
theorem dX5_rest_150 : decode cX5_rest 150 = .ok (.iconst 0, 1) := by decide +kernel
theorem dX5_rest_151 : decode cX5_rest 151 = .ok (.ireturn, 1) := by decide +kernel
set_option maxRecDepth 20000 in
theorem ggX5_root_X5_numbers : GoodIn wsX5_root wsX5_numbers := goodIn_r _ [14, 4, 2, 15, 16, 17, 13, 18, 19, 20, 21, 22, 6, 33, 34, 35, 36, 37, 38, 39, 40, 41, 42, 43, 44, 45, 46, 47, 48, 49, 50, 51, 52, 53] (by decide +kernel) (by decide +kernel)
set_option maxRecDepth 20000 in
theorem gX5_root_X5_numbers : GoodIn wsX5_root (wsV RX5 71 RX5 yX5_numbers wsX5_numbers) := goodIn_app (goodIn_of _ (by decide +kernel)) ggX5_root_X5_numbers
set_option maxRecDepth 20000 in
theorem ggX5_root_X5_fail : GoodIn wsX5_root wsX5_fail := goodIn_r _ [22, 6, 33, 34, 35, 36, 37, 38, 39, 40, 41, 42, 43, 44, 45, 46, 47, 48, 49, 50, 51, 52, 53] (by decide +kernel) (by decide +kernel)
set_option maxRecDepth 20000 in
theorem gX5_root_X5_fail : GoodIn wsX5_root (wsV RX5 54 RX5 yX5_fail wsX5_fail) := goodIn_app (goodIn_of _ (by decide +kernel)) ggX5_root_X5_fail
set_option maxRecDepth 20000 in
theorem ggX5_root_X5_greater : GoodIn wsX5_root wsX5_greater := goodIn_r _ [25] (by decide +kernel) (by decide +kernel)
set_option maxRecDepth 20000 in
theorem gX5_root_X5_greater : GoodIn wsX5_root (va_wsS RX5 74 yX5_greater wsX5_greater) := goodIn_app (goodIn_of _ (by decide +kernel)) ggX5_root_X5_greater
set_option maxRecDepth 20000 in
theorem ggX5_root_X5_raised : GoodIn wsX5_root wsX5_raised := goodIn_r _ [29, 6, 30, 31, 32, 33, 34, 35, 36, 37, 38, 39, 40, 41, 42, 43, 44, 45, 46, 47, 48, 49, 50, 51, 52, 53] (by decide +kernel) (by decide +kernel)
set_option maxRecDepth 20000 in
theorem gX5_root_X5_raised : GoodIn wsX5_root (wsV RX5 81 RX5 yX5_raised wsX5_raised) := goodIn_app (goodIn_of _ (by decide +kernel)) ggX5_root_X5_raised
theorem dX5_root_0 : decode cX5_root 0 = .ok (.aload_n 0, 1) := by decide +kernel
theorem dX5_root_1 : decode cX5_root 1 = .ok (.iconst 1, 1) := by decide +kernel
theorem dX5_root_2 : decode cX5_root 2 = .ok (.invokevirtual 71, 3) := by decide +kernel
theorem dX5_root_5 : decode cX5_root 5 = .ok (.ifCond .ne 5, 3) := by decide +kernel
theorem dX5_root_8 : decode cX5_root 8 = .ok (.iconst 0, 1) := by decide +kernel
theorem dX5_root_9 : decode cX5_root 9 = .ok (.ireturn, 1) := by decide +kernel
theorem dX5_root_10 : decode cX5_root 10 = .ok (.aload_n 0, 1) := by decide +kernel
theorem dX5_root_11 : decode cX5_root 11 = .ok (.getfield 13, 3) := by decide +kernel
theorem dX5_root_14 : decode cX5_root 14 = .ok (.aload_n 0, 1) := by decide +kernel
theorem dX5_root_15 : decode cX5_root 15 = .ok (.getfield 51, 3) := by decide +kernel
theorem dX5_root_18 : decode cX5_root 18 = .ok (.iconst 1, 1) := by decide +kernel
theorem dX5_root_19 : decode cX5_root 19 = .ok (.isub, 1) := by decide +kernel
theorem dX5_root_20 : decode cX5_root 20 = .ok (.laload, 1) := by decide +kernel
theorem dX5_root_21 : decode cX5_root 21 = .ok (.lconst 0, 1) := by decide +kernel
theorem dX5_root_22 : decode cX5_root 22 = .ok (.lcmp, 1) := by decide +kernel
theorem dX5_root_23 : decode cX5_root 23 = .ok (.ifCond .ge 9, 3) := by decide +kernel
theorem dX5_root_26 : decode cX5_root 26 = .ok (.aload_n 0, 1) := by decide +kernel
theorem dX5_root_27 : decode cX5_root 27 = .ok (.iconst 4, 1) := by decide +kernel
theorem dX5_root_28 : decode cX5_root 28 = .ok (.invokevirtual 54, 3) := by decide +kernel
theorem dX5_root_31 : decode cX5_root 31 = .ok (.ireturn, 1) := by decide +kernel
theorem dX5_root_32 : decode cX5_root 32 = .ok (.aload_n 0, 1) := by decide +kernel
theorem dX5_root_33 : decode cX5_root 33 = .ok (.aload_n 0, 1) := by decide +kernel
theorem dX5_root_34 : decode cX5_root 34 = .ok (.getfield 93, 3) := by decide +kernel
theorem dX5_root_37 : decode cX5_root 37 = .ok (.aload_n 0, 1) := by decide +kernel
theorem dX5_root_38 : decode cX5_root 38 = .ok (.getfield 17, 3) := by decide +kernel
theorem dX5_root_41 : decode cX5_root 41 = .ok (.aload_n 0, 1) := by decide +kernel
theorem dX5_root_42 : decode cX5_root 42 = .ok (.getfield 51, 3) := by decide +kernel
theorem dX5_root_45 : decode cX5_root 45 = .ok (.iconst 1, 1) := by decide +kernel
theorem dX5_root_46 : decode cX5_root 46 = .ok (.isub, 1) := by decide +kernel
theorem dX5_root_47 : decode cX5_root 47 = .ok (.iaload, 1) := by decide +kernel
theorem dX5_root_48 : decode cX5_root 48 = .ok (.invokestatic 74, 3) := by decide +kernel
theorem dX5_root_51 : decode cX5_root 51 = .ok (.putfield 78, 3) := by decide +kernel
theorem dX5_root_54 : decode cX5_root 54 = .ok (.aload_n 0, 1) := by decide +kernel
theorem dX5_root_55 : decode cX5_root 55 = .ok (.aload_n 0, 1) := by decide +kernel
theorem dX5_root_56 : decode cX5_root 56 = .ok (.getfield 13, 3) := by decide +kernel
theorem dX5_root_59 : decode cX5_root 59 = .ok (.aload_n 0, 1) := by decide +kernel
theorem dX5_root_60 : decode cX5_root 60 = .ok (.getfield 51, 3) := by decide +kernel
theorem dX5_root_63 : decode cX5_root 63 = .ok (.iconst 1, 1) := by decide +kernel
theorem dX5_root_64 : decode cX5_root 64 = .ok (.isub, 1) := by decide +kernel
theorem dX5_root_65 : decode cX5_root 65 = .ok (.laload, 1) := by decide +kernel
theorem dX5_root_66 : decode cX5_root 66 = .ok (.iconst 2, 1) := by decide +kernel
theorem dX5_root_67 : decode cX5_root 67 = .ok (.aload_n 0, 1) := by decide +kernel
theorem dX5_root_68 : decode cX5_root 68 = .ok (.getfield 78, 3) := by decide +kernel
theorem dX5_root_71 : decode cX5_root 71 = .ok (.imul, 1) := by decide +kernel
theorem dX5_root_72 : decode cX5_root 72 = .ok (.aload_n 0, 1) := by decide +kernel
theorem dX5_root_73 : decode cX5_root 73 = .ok (.getfield 17, 3) := by decide +kernel
theorem dX5_root_76 : decode cX5_root 76 = .ok (.aload_n 0, 1) := by decide +kernel
theorem dX5_root_77 : decode cX5_root 77 = .ok (.getfield 51, 3) := by decide +kernel
theorem dX5_root_80 : decode cX5_root 80 = .ok (.iconst 1, 1) := by decide +kernel
theorem dX5_root_81 : decode cX5_root 81 = .ok (.isub, 1) := by decide +kernel
theorem dX5_root_82 : decode cX5_root 82 = .ok (.iaload, 1) := by decide +kernel
theorem dX5_root_83 : decode cX5_root 83 = .ok (.isub, 1) := by decide +kernel
theorem dX5_root_84 : decode cX5_root 84 = .ok (.invokevirtual 81, 3) := by decide +kernel
theorem dX5_root_87 : decode cX5_root 87 = .ok (.lstore_n 1, 1) := by decide +kernel
theorem dX5_root_88 : decode cX5_root 88 = .ok (.aload_n 0, 1) := by decide +kernel
theorem dX5_root_89 : decode cX5_root 89 = .ok (.getfield 48, 3) := by decide +kernel
theorem dX5_root_92 : decode cX5_root 92 = .ok (.ifCond .le 5, 3) := by decide +kernel
theorem dX5_root_95 : decode cX5_root 95 = .ok (.iconst 0, 1) := by decide +kernel
theorem dX5_root_96 : decode cX5_root 96 = .ok (.ireturn, 1) := by decide +kernel
theorem dX5_root_97 : decode cX5_root 97 = .ok (.lconst 0, 1) := by decide +kernel
theorem dX5_root_98 : decode cX5_root 98 = .ok (.lstore_n 3, 1) := by decide +kernel
theorem dX5_root_99 : decode cX5_root 99 = .ok (.ldc2_w 107, 3) := by decide +kernel
theorem dX5_root_102 : decode cX5_root 102 = .ok (.lstore 5, 2) := by decide +kernel
theorem dX5_root_104 : decode cX5_root 104 = .ok (.iconst 0, 1) := by decide +kernel
theorem dX5_root_105 : decode cX5_root 105 = .ok (.istore 7, 2) := by decide +kernel
theorem dX5_root_107 : decode cX5_root 107 = .ok (.iload 7, 2) := by decide +kernel
theorem dX5_root_109 : decode cX5_root 109 = .ok (.bipush 40, 2) := by decide +kernel
theorem dX5_root_111 : decode cX5_root 111 = .ok (.if_icmp .ge 50, 3) := by decide +kernel
theorem dX5_root_114 : decode cX5_root 114 = .ok (.lload_n 3, 1) := by decide +kernel
theorem dX5_root_115 : decode cX5_root 115 = .ok (.lload 5, 2) := by decide +kernel
theorem dX5_root_117 : decode cX5_root 117 = .ok (.lcmp, 1) := by decide +kernel
theorem dX5_root_118 : decode cX5_root 118 = .ok (.ifCond .ge 43, 3) := by decide +kernel
theorem dX5_root_121 : decode cX5_root 121 = .ok (.lload_n 3, 1) := by decide +kernel
theorem dX5_root_122 : decode cX5_root 122 = .ok (.lload 5, 2) := by decide +kernel
theorem dX5_root_124 : decode cX5_root 124 = .ok (.ladd, 1) := by decide +kernel
theorem dX5_root_125 : decode cX5_root 125 = .ok (.lconst 1, 1) := by decide +kernel
theorem dX5_root_126 : decode cX5_root 126 = .ok (.ladd, 1) := by decide +kernel
theorem dX5_root_127 : decode cX5_root 127 = .ok (.ldc2_w 109, 3) := by decide +kernel
theorem dX5_root_130 : decode cX5_root 130 = .ok (.ldiv, 1) := by decide +kernel
theorem dX5_root_131 : decode cX5_root 131 = .ok (.lstore 8, 2) := by decide +kernel
theorem dX5_root_133 : decode cX5_root 133 = .ok (.lload 8, 2) := by decide +kernel
theorem dX5_root_135 : decode cX5_root 135 = .ok (.lload 8, 2) := by decide +kernel
theorem dX5_root_137 : decode cX5_root 137 = .ok (.lmul, 1) := by decide +kernel
theorem dX5_root_138 : decode cX5_root 138 = .ok (.lload_n 1, 1) := by decide +kernel
theorem dX5_root_139 : decode cX5_root 139 = .ok (.lcmp, 1) := by decide +kernel
theorem dX5_root_140 : decode cX5_root 140 = .ok (.ifCond .gt 9, 3) := by decide +kernel
theorem dX5_root_143 : decode cX5_root 143 = .ok (.lload 8, 2) := by decide +kernel
theorem dX5_root_145 : decode cX5_root 145 = .ok (.lstore_n 3, 1) := by decide +kernel
theorem dX5_root_146 : decode cX5_root 146 = .ok (.goto 9, 3) := by decide +kernel
theorem dX5_root_149 : decode cX5_root 149 = .ok (.lload 8, 2) := by decide +kernel
theorem dX5_root_151 : decode cX5_root 151 = .ok (.lconst 1, 1) := by decide +kernel
theorem dX5_root_152 : decode cX5_root 152 = .ok (.lsub, 1) := by decide +kernel
theorem dX5_root_153 : decode cX5_root 153 = .ok (.lstore 5, 2) := by decide +kernel
theorem dX5_root_155 : decode cX5_root 155 = .ok (.iinc 7 1, 3) := by decide +kernel
theorem dX5_root_158 : decode cX5_root 158 = .ok (.goto (-51), 3) := by decide +kernel
theorem dX5_root_161 : decode cX5_root 161 = .ok (.aload_n 0, 1) := by decide +kernel
theorem dX5_root_162 : decode cX5_root 162 = .ok (.lload_n 3, 1) := by decide +kernel
theorem dX5_root_163 : decode cX5_root 163 = .ok (.putfield 85, 3) := by decide +kernel
theorem dX5_root_166 : decode cX5_root 166 = .ok (.iconst 1, 1) := by decide +kernel
theorem dX5_root_167 : decode cX5_root 167 = .ok (.ireturn, 1) := by decide +kernel
theorem dX5_charAt_0 : decode cX5_charAt 0 = .ok (.iload_n 2, 1) := by decide +kernel
theorem dX5_charAt_1 : decode cX5_charAt 1 = .ok (.aload_n 0, 1) := by decide +kernel
theorem dX5_charAt_2 : decode cX5_charAt 2 = .ok (.getfield 29, 3) := by decide +kernel
theorem dX5_charAt_5 : decode cX5_charAt 5 = .ok (.iload_n 1, 1) := by decide +kernel
theorem dX5_charAt_6 : decode cX5_charAt 6 = .ok (.iaload, 1) := by decide +kernel
theorem dX5_charAt_7 : decode cX5_charAt 7 = .ok (.if_icmp .ge 18, 3) := by decide +kernel
theorem dX5_charAt_10 : decode cX5_charAt 10 = .ok (.aload_n 0, 1) := by decide +kernel
theorem dX5_charAt_11 : decode cX5_charAt 11 = .ok (.getfield 26, 3) := by decide +kernel
theorem dX5_charAt_14 : decode cX5_charAt 14 = .ok (.sipush 160, 3) := by decide +kernel
theorem dX5_charAt_17 : decode cX5_charAt 17 = .ok (.iload_n 1, 1) := by decide +kernel
theorem dX5_charAt_18 : decode cX5_charAt 18 = .ok (.imul, 1) := by decide +kernel
theorem dX5_charAt_19 : decode cX5_charAt 19 = .ok (.iload_n 2, 1) := by decide +kernel
theorem dX5_charAt_20 : decode cX5_charAt 20 = .ok (.iadd, 1) := by decide +kernel
theorem dX5_charAt_21 : decode cX5_charAt 21 = .ok (.iaload, 1) := by decide +kernel
theorem dX5_charAt_22 : decode cX5_charAt 22 = .ok (.goto 4, 3) := by decide +kernel
theorem dX5_charAt_25 : decode cX5_charAt 25 = .ok (.iconst 0, 1) := by decide +kernel
theorem dX5_charAt_26 : decode cX5_charAt 26 = .ok (.ireturn, 1) := by decide +kernel
theorem dX5_isNothing_0 : decode cX5_isNothing 0 = .ok (.iload_n 1, 1) := by decide +kernel
theorem dX5_isNothing_1 : decode cX5_isNothing 1 = .ok (.bipush 32, 2) := by decide +kernel
theorem dX5_isNothing_3 : decode cX5_isNothing 3 = .ok (.if_icmp .eq 9, 3) := by decide +kernel
theorem dX5_isNothing_6 : decode cX5_isNothing 6 = .ok (.iload_n 1, 1) := by decide +kernel
theorem dX5_isNothing_7 : decode cX5_isNothing 7 = .ok (.bipush 10, 2) := by decide +kernel
theorem dX5_isNothing_9 : decode cX5_isNothing 9 = .ok (.if_icmp .ne 7, 3) := by decide +kernel
theorem dX5_isNothing_12 : decode cX5_isNothing 12 = .ok (.iconst 1, 1) := by decide +kernel
theorem dX5_isNothing_13 : decode cX5_isNothing 13 = .ok (.goto 4, 3) := by decide +kernel
theorem dX5_isNothing_16 : decode cX5_isNothing 16 = .ok (.iconst 0, 1) := by decide +kernel
theorem dX5_isNothing_17 : decode cX5_isNothing 17 = .ok (.ireturn, 1) := by decide +kernel
set_option maxRecDepth 20000 in
theorem ggX5_isDone_X5_isNothing : GoodIn wsX5_isDone wsX5_isNothing := goodIn_r _ [8] (by decide +kernel) (by decide +kernel)
set_option maxRecDepth 20000 in
theorem gX5_isDone_X5_isNothing : GoodIn wsX5_isDone (wsV RX5 114 RX5 yX5_isNothing wsX5_isNothing) := goodIn_app (goodIn_of _ (by decide +kernel)) ggX5_isDone_X5_isNothing
theorem dX5_isDone_0 : decode cX5_isDone 0 = .ok (.aload_n 0, 1) := by decide +kernel
theorem dX5_isDone_1 : decode cX5_isDone 1 = .ok (.getfield 111, 3) := by decide +kernel
theorem dX5_isDone_4 : decode cX5_isDone 4 = .ok (.iconst 1, 1) := by decide +kernel
theorem dX5_isDone_5 : decode cX5_isDone 5 = .ok (.isub, 1) := by decide +kernel
theorem dX5_isDone_6 : decode cX5_isDone 6 = .ok (.istore_n 2, 1) := by decide +kernel
theorem dX5_isDone_7 : decode cX5_isDone 7 = .ok (.iload_n 1, 1) := by decide +kernel
theorem dX5_isDone_8 : decode cX5_isDone 8 = .ok (.istore_n 3, 1) := by decide +kernel
theorem dX5_isDone_9 : decode cX5_isDone 9 = .ok (.iload_n 3, 1) := by decide +kernel
end
section
theorem dX5_isDone_10 : decode cX5_isDone 10 = .ok (.aload_n 0, 1) := by decide +kernel
theorem dX5_isDone_11 : decode cX5_isDone 11 = .ok (.getfield 29, 3) := by decide +kernel
theorem dX5_isDone_14 : decode cX5_isDone 14 = .ok (.iload_n 2, 1) := by decide +kernel
theorem dX5_isDone_15 : decode cX5_isDone 15 = .ok (.iaload, 1) := by decide +kernel
theorem dX5_isDone_16 : decode cX5_isDone 16 = .ok (.if_icmp .ge 30, 3) := by decide +kernel
theorem dX5_isDone_19 : decode cX5_isDone 19 = .ok (.aload_n 0, 1) := by decide +kernel
theorem dX5_isDone_20 : decode cX5_isDone 20 = .ok (.aload_n 0, 1) := by decide +kernel
theorem dX5_isDone_21 : decode cX5_isDone 21 = .ok (.getfield 26, 3) := by decide +kernel
theorem dX5_isDone_24 : decode cX5_isDone 24 = .ok (.sipush 160, 3) := by decide +kernel
theorem dX5_isDone_27 : decode cX5_isDone 27 = .ok (.iload_n 2, 1) := by decide +kernel
theorem dX5_isDone_28 : decode cX5_isDone 28 = .ok (.imul, 1) := by decide +kernel
theorem dX5_isDone_29 : decode cX5_isDone 29 = .ok (.iload_n 3, 1) := by decide +kernel
theorem dX5_isDone_30 : decode cX5_isDone 30 = .ok (.iadd, 1) := by decide +kernel
theorem dX5_isDone_31 : decode cX5_isDone 31 = .ok (.iaload, 1) := by decide +kernel
theorem dX5_isDone_32 : decode cX5_isDone 32 = .ok (.invokevirtual 114, 3) := by decide +kernel
theorem dX5_isDone_35 : decode cX5_isDone 35 = .ok (.ifCond .ne 5, 3) := by decide +kernel
theorem dX5_isDone_38 : decode cX5_isDone 38 = .ok (.iconst 0, 1) := by decide +kernel
theorem dX5_isDone_39 : decode cX5_isDone 39 = .ok (.ireturn, 1) := by decide +kernel
theorem dX5_isDone_40 : decode cX5_isDone 40 = .ok (.iinc 3 1, 3) := by decide +kernel
theorem dX5_isDone_43 : decode cX5_isDone 43 = .ok (.goto (-34), 3) := by decide +kernel
theorem dX5_isDone_46 : decode cX5_isDone 46 = .ok (.iconst 1, 1) := by decide +kernel
theorem dX5_isDone_47 : decode cX5_isDone 47 = .ok (.ireturn, 1) := by decide +kernel
set_option maxRecDepth 20000 in
theorem ggX5_mayRun_X5_isDone : GoodIn wsX5_mayRun wsX5_isDone := goodIn_r _ [6, 1, 7, 8, 9, 10, 11, 5, 12, 18, 19, 20, 21, 22, 23, 24, 25, 26, 27, 28, 29, 30, 31, 32, 33, 34, 35, 36, 37, 38] (by decide +kernel) (by decide +kernel)
set_option maxRecDepth 20000 in
theorem gX5_mayRun_X5_isDone : GoodIn wsX5_mayRun (wsV RX5 117 RX5 yX5_isDone wsX5_isDone) := goodIn_app (goodIn_of _ (by decide +kernel)) ggX5_mayRun_X5_isDone
set_option maxRecDepth 20000 in
theorem ggX5_mayRun_X5_fail : GoodIn wsX5_mayRun wsX5_fail := goodIn_r _ [16, 17, 18, 19, 20, 21, 22, 23, 24, 25, 26, 27, 28, 29, 30, 31, 32, 33, 34, 35, 36, 37, 38] (by decide +kernel) (by decide +kernel)
set_option maxRecDepth 20000 in
theorem gX5_mayRun_X5_fail : GoodIn wsX5_mayRun (wsV RX5 54 RX5 yX5_fail wsX5_fail) := goodIn_app (goodIn_of _ (by decide +kernel)) ggX5_mayRun_X5_fail
theorem dX5_mayRun_0 : decode cX5_mayRun 0 = .ok (.aload_n 0, 1) := by decide +kernel
theorem dX5_mayRun_1 : decode cX5_mayRun 1 = .ok (.getfield 111, 3) := by decide +kernel
theorem dX5_mayRun_4 : decode cX5_mayRun 4 = .ok (.bipush 12, 2) := by decide +kernel
theorem dX5_mayRun_6 : decode cX5_mayRun 6 = .ok (.if_icmp .lt 19, 3) := by decide +kernel
theorem dX5_mayRun_9 : decode cX5_mayRun 9 = .ok (.aload_n 0, 1) := by decide +kernel
theorem dX5_mayRun_10 : decode cX5_mayRun 10 = .ok (.iload_n 1, 1) := by decide +kernel
theorem dX5_mayRun_11 : decode cX5_mayRun 11 = .ok (.invokevirtual 117, 3) := by decide +kernel
theorem dX5_mayRun_14 : decode cX5_mayRun 14 = .ok (.ifCond .ne 11, 3) := by decide +kernel
theorem dX5_mayRun_17 : decode cX5_mayRun 17 = .ok (.aload_n 0, 1) := by decide +kernel
theorem dX5_mayRun_18 : decode cX5_mayRun 18 = .ok (.iconst 5, 1) := by decide +kernel
theorem dX5_mayRun_19 : decode cX5_mayRun 19 = .ok (.invokevirtual 54, 3) := by decide +kernel
theorem dX5_mayRun_22 : decode cX5_mayRun 22 = .ok (.ifCond .eq 7, 3) := by decide +kernel
theorem dX5_mayRun_25 : decode cX5_mayRun 25 = .ok (.iconst 1, 1) := by decide +kernel
theorem dX5_mayRun_26 : decode cX5_mayRun 26 = .ok (.goto 4, 3) := by decide +kernel
theorem dX5_mayRun_29 : decode cX5_mayRun 29 = .ok (.iconst 0, 1) := by decide +kernel
theorem dX5_mayRun_30 : decode cX5_mayRun 30 = .ok (.ireturn, 1) := by decide +kernel
set_option maxRecDepth 20000 in
theorem ggX5_begin_X5_isDone : GoodIn wsX5_begin wsX5_isDone := goodIn_r _ [11, 2, 3, 5, 12, 13, 14, 10, 15, 16, 17, 18, 19, 20, 21, 22, 23, 24, 25, 26, 27, 28, 29, 30, 31, 32, 33, 34, 35, 36] (by decide +kernel) (by decide +kernel)
set_option maxRecDepth 20000 in
theorem gX5_begin_X5_isDone : GoodIn wsX5_begin (wsV RX5 117 RX5 yX5_isDone wsX5_isDone) := goodIn_app (goodIn_of _ (by decide +kernel)) ggX5_begin_X5_isDone
theorem dX5_begin_0 : decode cX5_begin 0 = .ok (.aload_n 0, 1) := by decide +kernel
theorem dX5_begin_1 : decode cX5_begin 1 = .ok (.getfield 32, 3) := by decide +kernel
theorem dX5_begin_4 : decode cX5_begin 4 = .ok (.aload_n 0, 1) := by decide +kernel
theorem dX5_begin_5 : decode cX5_begin 5 = .ok (.getfield 111, 3) := by decide +kernel
theorem dX5_begin_8 : decode cX5_begin 8 = .ok (.iconst 1, 1) := by decide +kernel
theorem dX5_begin_9 : decode cX5_begin 9 = .ok (.isub, 1) := by decide +kernel
theorem dX5_begin_10 : decode cX5_begin 10 = .ok (.iload_n 2, 1) := by decide +kernel
theorem dX5_begin_11 : decode cX5_begin 11 = .ok (.iastore, 1) := by decide +kernel
theorem dX5_begin_12 : decode cX5_begin 12 = .ok (.aload_n 0, 1) := by decide +kernel
theorem dX5_begin_13 : decode cX5_begin 13 = .ok (.iload_n 2, 1) := by decide +kernel
theorem dX5_begin_14 : decode cX5_begin 14 = .ok (.invokevirtual 117, 3) := by decide +kernel
theorem dX5_begin_17 : decode cX5_begin 17 = .ok (.ifCond .eq 13, 3) := by decide +kernel
theorem dX5_begin_20 : decode cX5_begin 20 = .ok (.aload_n 0, 1) := by decide +kernel
theorem dX5_begin_21 : decode cX5_begin 21 = .ok (.dup, 1) := by decide +kernel
theorem dX5_begin_22 : decode cX5_begin 22 = .ok (.getfield 111, 3) := by decide +kernel
theorem dX5_begin_25 : decode cX5_begin 25 = .ok (.iconst 1, 1) := by decide +kernel
theorem dX5_begin_26 : decode cX5_begin 26 = .ok (.isub, 1) := by decide +kernel
theorem dX5_begin_27 : decode cX5_begin 27 = .ok (.putfield 111, 3) := by decide +kernel
theorem dX5_begin_30 : decode cX5_begin 30 = .ok (.aload_n 0, 1) := by decide +kernel
theorem dX5_begin_31 : decode cX5_begin 31 = .ok (.getfield 29, 3) := by decide +kernel
theorem dX5_begin_34 : decode cX5_begin 34 = .ok (.aload_n 0, 1) := by decide +kernel
theorem dX5_begin_35 : decode cX5_begin 35 = .ok (.getfield 111, 3) := by decide +kernel
theorem dX5_begin_38 : decode cX5_begin 38 = .ok (.aload_n 0, 1) := by decide +kernel
theorem dX5_begin_39 : decode cX5_begin 39 = .ok (.getfield 13, 3) := by decide +kernel
theorem dX5_begin_42 : decode cX5_begin 42 = .ok (.iload_n 1, 1) := by decide +kernel
theorem dX5_begin_43 : decode cX5_begin 43 = .ok (.laload, 1) := by decide +kernel
theorem dX5_begin_44 : decode cX5_begin 44 = .ok (.l2i, 1) := by decide +kernel
theorem dX5_begin_45 : decode cX5_begin 45 = .ok (.iastore, 1) := by decide +kernel
theorem dX5_begin_46 : decode cX5_begin 46 = .ok (.aload_n 0, 1) := by decide +kernel
theorem dX5_begin_47 : decode cX5_begin 47 = .ok (.getfield 32, 3) := by decide +kernel
theorem dX5_begin_50 : decode cX5_begin 50 = .ok (.aload_n 0, 1) := by decide +kernel
theorem dX5_begin_51 : decode cX5_begin 51 = .ok (.getfield 111, 3) := by decide +kernel
theorem dX5_begin_54 : decode cX5_begin 54 = .ok (.iconst 0, 1) := by decide +kernel
theorem dX5_begin_55 : decode cX5_begin 55 = .ok (.iastore, 1) := by decide +kernel
theorem dX5_begin_56 : decode cX5_begin 56 = .ok (.iconst 0, 1) := by decide +kernel
theorem dX5_begin_57 : decode cX5_begin 57 = .ok (.istore_n 3, 1) := by decide +kernel
theorem dX5_begin_58 : decode cX5_begin 58 = .ok (.iload_n 3, 1) := by decide +kernel
theorem dX5_begin_59 : decode cX5_begin 59 = .ok (.aload_n 0, 1) := by decide +kernel
theorem dX5_begin_60 : decode cX5_begin 60 = .ok (.getfield 29, 3) := by decide +kernel
theorem dX5_begin_63 : decode cX5_begin 63 = .ok (.aload_n 0, 1) := by decide +kernel
theorem dX5_begin_64 : decode cX5_begin 64 = .ok (.getfield 111, 3) := by decide +kernel
theorem dX5_begin_67 : decode cX5_begin 67 = .ok (.iaload, 1) := by decide +kernel
theorem dX5_begin_68 : decode cX5_begin 68 = .ok (.if_icmp .ge 36, 3) := by decide +kernel
theorem dX5_begin_71 : decode cX5_begin 71 = .ok (.aload_n 0, 1) := by decide +kernel
theorem dX5_begin_72 : decode cX5_begin 72 = .ok (.getfield 26, 3) := by decide +kernel
theorem dX5_begin_75 : decode cX5_begin 75 = .ok (.sipush 160, 3) := by decide +kernel
theorem dX5_begin_78 : decode cX5_begin 78 = .ok (.aload_n 0, 1) := by decide +kernel
theorem dX5_begin_79 : decode cX5_begin 79 = .ok (.getfield 111, 3) := by decide +kernel
theorem dX5_begin_82 : decode cX5_begin 82 = .ok (.imul, 1) := by decide +kernel
theorem dX5_begin_83 : decode cX5_begin 83 = .ok (.iload_n 3, 1) := by decide +kernel
theorem dX5_begin_84 : decode cX5_begin 84 = .ok (.iadd, 1) := by decide +kernel
theorem dX5_begin_85 : decode cX5_begin 85 = .ok (.aload_n 0, 1) := by decide +kernel
theorem dX5_begin_86 : decode cX5_begin 86 = .ok (.getfield 20, 3) := by decide +kernel
theorem dX5_begin_89 : decode cX5_begin 89 = .ok (.sipush 160, 3) := by decide +kernel
theorem dX5_begin_92 : decode cX5_begin 92 = .ok (.iload_n 1, 1) := by decide +kernel
theorem dX5_begin_93 : decode cX5_begin 93 = .ok (.imul, 1) := by decide +kernel
theorem dX5_begin_94 : decode cX5_begin 94 = .ok (.iload_n 3, 1) := by decide +kernel
theorem dX5_begin_95 : decode cX5_begin 95 = .ok (.iadd, 1) := by decide +kernel
theorem dX5_begin_96 : decode cX5_begin 96 = .ok (.iaload, 1) := by decide +kernel
theorem dX5_begin_97 : decode cX5_begin 97 = .ok (.iastore, 1) := by decide +kernel
theorem dX5_begin_98 : decode cX5_begin 98 = .ok (.iinc 3 1, 3) := by decide +kernel
theorem dX5_begin_101 : decode cX5_begin 101 = .ok (.goto (-43), 3) := by decide +kernel
theorem dX5_begin_104 : decode cX5_begin 104 = .ok (.aload_n 0, 1) := by decide +kernel
theorem dX5_begin_105 : decode cX5_begin 105 = .ok (.dup, 1) := by decide +kernel
theorem dX5_begin_106 : decode cX5_begin 106 = .ok (.getfield 111, 3) := by decide +kernel
theorem dX5_begin_109 : decode cX5_begin 109 = .ok (.iconst 1, 1) := by decide +kernel
theorem dX5_begin_110 : decode cX5_begin 110 = .ok (.iadd, 1) := by decide +kernel
theorem dX5_begin_111 : decode cX5_begin 111 = .ok (.putfield 111, 3) := by decide +kernel
theorem dX5_begin_114 : decode cX5_begin 114 = .ok (.return_, 1) := by decide +kernel
set_option maxRecDepth 20000 in
theorem ggX5_digits_X5_charAt : GoodIn wsX5_digits wsX5_charAt := goodIn_r _ [10, 11, 12, 32, 33, 34, 35, 36, 37, 38, 39, 40, 41, 42, 43, 44, 45, 46, 47, 48, 49, 50, 51, 52] (by decide +kernel) (by decide +kernel)
set_option maxRecDepth 20000 in
theorem gX5_digits_X5_charAt : GoodIn wsX5_digits (wsV RX5 120 RX5 yX5_charAt wsX5_charAt) := goodIn_app (goodIn_of _ (by decide +kernel)) ggX5_digits_X5_charAt
set_option maxRecDepth 20000 in
theorem ggX5_digits_X5_within : GoodIn wsX5_digits wsX5_within := goodIn_r _ [15] (by decide +kernel) (by decide +kernel)
set_option maxRecDepth 20000 in
theorem gX5_digits_X5_within : GoodIn wsX5_digits (va_wsS RX5 127 yX5_within wsX5_within) := goodIn_app (goodIn_of _ (by decide +kernel)) ggX5_digits_X5_within
set_option maxRecDepth 20000 in
theorem ggX5_digits_X5_fail : GoodIn wsX5_digits wsX5_fail := goodIn_r _ [19, 20, 32, 33, 34, 35, 36, 37, 38, 39, 40, 41, 42, 43, 44, 45, 46, 47, 48, 49, 50, 51, 52] (by decide +kernel) (by decide +kernel)
set_option maxRecDepth 20000 in
theorem gX5_digits_X5_fail : GoodIn wsX5_digits (wsV RX5 54 RX5 yX5_fail wsX5_fail) := goodIn_app (goodIn_of _ (by decide +kernel)) ggX5_digits_X5_fail
set_option maxRecDepth 20000 in
theorem ggX5_digits_X5_room : GoodIn wsX5_digits wsX5_room := goodIn_r _ [24, 25, 16, 17, 18, 9, 19, 20, 32, 33, 34, 35, 36, 37, 38, 39, 40, 41, 42, 43, 44, 45, 46, 47, 48, 49, 50, 51, 52] (by decide +kernel) (by decide +kernel)
set_option maxRecDepth 20000 in
theorem gX5_digits_X5_room : GoodIn wsX5_digits (wsV RX5 131 RX5 yX5_room wsX5_room) := goodIn_app (goodIn_of _ (by decide +kernel)) ggX5_digits_X5_room
set_option maxRecDepth 20000 in
theorem ggX5_digits_X5_put : GoodIn wsX5_digits wsX5_put := goodIn_r _ [29, 25, 30, 31, 32, 33, 34, 35, 36, 37, 38, 39, 40, 41, 42, 43, 44, 45, 46, 47, 48, 49, 50, 51, 52] (by decide +kernel) (by decide +kernel)
set_option maxRecDepth 20000 in
theorem gX5_digits_X5_put : GoodIn wsX5_digits (wsV RX5 134 RX5 yX5_put wsX5_put) := goodIn_app (goodIn_of _ (by decide +kernel)) ggX5_digits_X5_put
theorem dX5_digits_0 : decode cX5_digits 0 = .ok (.aload_n 0, 1) := by decide +kernel
theorem dX5_digits_1 : decode cX5_digits 1 = .ok (.getfield 111, 3) := by decide +kernel
theorem dX5_digits_4 : decode cX5_digits 4 = .ok (.iconst 1, 1) := by decide +kernel
theorem dX5_digits_5 : decode cX5_digits 5 = .ok (.isub, 1) := by decide +kernel
theorem dX5_digits_6 : decode cX5_digits 6 = .ok (.istore_n 2, 1) := by decide +kernel
theorem dX5_digits_7 : decode cX5_digits 7 = .ok (.iload_n 1, 1) := by decide +kernel
theorem dX5_digits_8 : decode cX5_digits 8 = .ok (.istore_n 3, 1) := by decide +kernel
theorem dX5_digits_9 : decode cX5_digits 9 = .ok (.aload_n 0, 1) := by decide +kernel
theorem dX5_digits_10 : decode cX5_digits 10 = .ok (.iload_n 2, 1) := by decide +kernel
theorem dX5_digits_11 : decode cX5_digits 11 = .ok (.iload_n 3, 1) := by decide +kernel
theorem dX5_digits_12 : decode cX5_digits 12 = .ok (.invokevirtual 120, 3) := by decide +kernel
theorem dX5_digits_15 : decode cX5_digits 15 = .ok (.bipush 95, 2) := by decide +kernel
theorem dX5_digits_17 : decode cX5_digits 17 = .ok (.if_icmp .ne 7, 3) := by decide +kernel
theorem dX5_digits_20 : decode cX5_digits 20 = .ok (.iconst 1, 1) := by decide +kernel
theorem dX5_digits_21 : decode cX5_digits 21 = .ok (.goto 4, 3) := by decide +kernel
theorem dX5_digits_24 : decode cX5_digits 24 = .ok (.iconst 0, 1) := by decide +kernel
theorem dX5_digits_25 : decode cX5_digits 25 = .ok (.istore 4, 2) := by decide +kernel
theorem dX5_digits_27 : decode cX5_digits 27 = .ok (.iload 4, 2) := by decide +kernel
theorem dX5_digits_29 : decode cX5_digits 29 = .ok (.ifCond .eq 6, 3) := by decide +kernel
theorem dX5_digits_32 : decode cX5_digits 32 = .ok (.iinc 3 1, 3) := by decide +kernel
theorem dX5_digits_35 : decode cX5_digits 35 = .ok (.lconst 0, 1) := by decide +kernel
theorem dX5_digits_36 : decode cX5_digits 36 = .ok (.lstore 5, 2) := by decide +kernel
theorem dX5_digits_38 : decode cX5_digits 38 = .ok (.iconst 0, 1) := by decide +kernel
theorem dX5_digits_39 : decode cX5_digits 39 = .ok (.istore 7, 2) := by decide +kernel
theorem dX5_digits_41 : decode cX5_digits 41 = .ok (.iconst (-1), 1) := by decide +kernel
theorem dX5_digits_42 : decode cX5_digits 42 = .ok (.istore 8, 2) := by decide +kernel
theorem dX5_digits_44 : decode cX5_digits 44 = .ok (.iconst 0, 1) := by decide +kernel
theorem dX5_digits_45 : decode cX5_digits 45 = .ok (.istore 9, 2) := by decide +kernel
theorem dX5_digits_47 : decode cX5_digits 47 = .ok (.iload 9, 2) := by decide +kernel
theorem dX5_digits_49 : decode cX5_digits 49 = .ok (.sipush 160, 3) := by decide +kernel
theorem dX5_digits_52 : decode cX5_digits 52 = .ok (.if_icmp .ge 87, 3) := by decide +kernel
theorem dX5_digits_55 : decode cX5_digits 55 = .ok (.aload_n 0, 1) := by decide +kernel
theorem dX5_digits_56 : decode cX5_digits 56 = .ok (.iload_n 2, 1) := by decide +kernel
theorem dX5_digits_57 : decode cX5_digits 57 = .ok (.iload_n 3, 1) := by decide +kernel
theorem dX5_digits_58 : decode cX5_digits 58 = .ok (.invokevirtual 120, 3) := by decide +kernel
theorem dX5_digits_61 : decode cX5_digits 61 = .ok (.istore 10, 2) := by decide +kernel
theorem dX5_digits_63 : decode cX5_digits 63 = .ok (.iload 10, 2) := by decide +kernel
theorem dX5_digits_65 : decode cX5_digits 65 = .ok (.bipush 46, 2) := by decide +kernel
theorem dX5_digits_67 : decode cX5_digits 67 = .ok (.if_icmp .ne 14, 3) := by decide +kernel
theorem dX5_digits_70 : decode cX5_digits 70 = .ok (.iload 8, 2) := by decide +kernel
theorem dX5_digits_72 : decode cX5_digits 72 = .ok (.ifCond .ge 9, 3) := by decide +kernel
theorem dX5_digits_75 : decode cX5_digits 75 = .ok (.iconst 0, 1) := by decide +kernel
theorem dX5_digits_76 : decode cX5_digits 76 = .ok (.istore 8, 2) := by decide +kernel
theorem dX5_digits_78 : decode cX5_digits 78 = .ok (.goto 52, 3) := by decide +kernel
theorem dX5_digits_81 : decode cX5_digits 81 = .ok (.iload 10, 2) := by decide +kernel
theorem dX5_digits_83 : decode cX5_digits 83 = .ok (.i2l, 1) := by decide +kernel
theorem dX5_digits_84 : decode cX5_digits 84 = .ok (.ldc2_w 123, 3) := by decide +kernel
theorem dX5_digits_87 : decode cX5_digits 87 = .ok (.ldc2_w 125, 3) := by decide +kernel
theorem dX5_digits_90 : decode cX5_digits 90 = .ok (.invokestatic 127, 3) := by decide +kernel
theorem dX5_digits_93 : decode cX5_digits 93 = .ok (.ifCond .eq 46, 3) := by decide +kernel
theorem dX5_digits_96 : decode cX5_digits 96 = .ok (.iload 7, 2) := by decide +kernel
theorem dX5_digits_98 : decode cX5_digits 98 = .ok (.bipush 18, 2) := by decide +kernel
theorem dX5_digits_100 : decode cX5_digits 100 = .ok (.if_icmp .ge 19, 3) := by decide +kernel
theorem dX5_digits_103 : decode cX5_digits 103 = .ok (.ldc2_w 69, 3) := by decide +kernel
theorem dX5_digits_106 : decode cX5_digits 106 = .ok (.lload 5, 2) := by decide +kernel
theorem dX5_digits_108 : decode cX5_digits 108 = .ok (.lmul, 1) := by decide +kernel
theorem dX5_digits_109 : decode cX5_digits 109 = .ok (.iload 10, 2) := by decide +kernel
theorem dX5_digits_111 : decode cX5_digits 111 = .ok (.i2l, 1) := by decide +kernel
theorem dX5_digits_112 : decode cX5_digits 112 = .ok (.ladd, 1) := by decide +kernel
theorem dX5_digits_113 : decode cX5_digits 113 = .ok (.ldc2_w 123, 3) := by decide +kernel
theorem dX5_digits_116 : decode cX5_digits 116 = .ok (.lsub, 1) := by decide +kernel
theorem dX5_digits_117 : decode cX5_digits 117 = .ok (.lstore 5, 2) := by decide +kernel
theorem dX5_digits_119 : decode cX5_digits 119 = .ok (.iinc 7 1, 3) := by decide +kernel
theorem dX5_digits_122 : decode cX5_digits 122 = .ok (.iload 8, 2) := by decide +kernel
theorem dX5_digits_124 : decode cX5_digits 124 = .ok (.ifCond .lt 6, 3) := by decide +kernel
theorem dX5_digits_127 : decode cX5_digits 127 = .ok (.iinc 8 1, 3) := by decide +kernel
theorem dX5_digits_130 : decode cX5_digits 130 = .ok (.iinc 3 1, 3) := by decide +kernel
theorem dX5_digits_133 : decode cX5_digits 133 = .ok (.iinc 9 1, 3) := by decide +kernel
theorem dX5_digits_136 : decode cX5_digits 136 = .ok (.goto (-89), 3) := by decide +kernel
theorem dX5_digits_139 : decode cX5_digits 139 = .ok (.iload 7, 2) := by decide +kernel
theorem dX5_digits_141 : decode cX5_digits 141 = .ok (.iconst 1, 1) := by decide +kernel
theorem dX5_digits_142 : decode cX5_digits 142 = .ok (.if_icmp .lt 17, 3) := by decide +kernel
theorem dX5_digits_145 : decode cX5_digits 145 = .ok (.iload 7, 2) := by decide +kernel
theorem dX5_digits_147 : decode cX5_digits 147 = .ok (.bipush 18, 2) := by decide +kernel
theorem dX5_digits_149 : decode cX5_digits 149 = .ok (.if_icmp .gt 10, 3) := by decide +kernel
theorem dX5_digits_152 : decode cX5_digits 152 = .ok (.iload 8, 2) := by decide +kernel
theorem dX5_digits_154 : decode cX5_digits 154 = .ok (.bipush 9, 2) := by decide +kernel
theorem dX5_digits_156 : decode cX5_digits 156 = .ok (.if_icmp .le 9, 3) := by decide +kernel
theorem dX5_digits_159 : decode cX5_digits 159 = .ok (.aload_n 0, 1) := by decide +kernel
theorem dX5_digits_160 : decode cX5_digits 160 = .ok (.iconst 1, 1) := by decide +kernel
theorem dX5_digits_161 : decode cX5_digits 161 = .ok (.invokevirtual 54, 3) := by decide +kernel
theorem dX5_digits_164 : decode cX5_digits 164 = .ok (.ireturn, 1) := by decide +kernel
theorem dX5_digits_165 : decode cX5_digits 165 = .ok (.aload_n 0, 1) := by decide +kernel
theorem dX5_digits_166 : decode cX5_digits 166 = .ok (.invokevirtual 131, 3) := by decide +kernel
theorem dX5_digits_169 : decode cX5_digits 169 = .ok (.ifCond .ne 5, 3) := by decide +kernel
theorem dX5_digits_172 : decode cX5_digits 172 = .ok (.iconst 0, 1) := by decide +kernel
theorem dX5_digits_173 : decode cX5_digits 173 = .ok (.ireturn, 1) := by decide +kernel
theorem dX5_digits_174 : decode cX5_digits 174 = .ok (.aload_n 0, 1) := by decide +kernel
theorem dX5_digits_175 : decode cX5_digits 175 = .ok (.iconst 0, 1) := by decide +kernel
theorem dX5_digits_176 : decode cX5_digits 176 = .ok (.iload 4, 2) := by decide +kernel
theorem dX5_digits_178 : decode cX5_digits 178 = .ok (.ifCond .eq 9, 3) := by decide +kernel
theorem dX5_digits_181 : decode cX5_digits 181 = .ok (.lload 5, 2) := by decide +kernel
theorem dX5_digits_183 : decode cX5_digits 183 = .ok (.lneg, 1) := by decide +kernel
theorem dX5_digits_184 : decode cX5_digits 184 = .ok (.goto 5, 3) := by decide +kernel
theorem dX5_digits_187 : decode cX5_digits 187 = .ok (.lload 5, 2) := by decide +kernel
theorem dX5_digits_189 : decode cX5_digits 189 = .ok (.iload 8, 2) := by decide +kernel
theorem dX5_digits_191 : decode cX5_digits 191 = .ok (.ifCond .ge 7, 3) := by decide +kernel
theorem dX5_digits_194 : decode cX5_digits 194 = .ok (.iconst 0, 1) := by decide +kernel
theorem dX5_digits_195 : decode cX5_digits 195 = .ok (.goto 5, 3) := by decide +kernel
theorem dX5_digits_198 : decode cX5_digits 198 = .ok (.iload 8, 2) := by decide +kernel
theorem dX5_digits_200 : decode cX5_digits 200 = .ok (.invokevirtual 134, 3) := by decide +kernel
theorem dX5_digits_203 : decode cX5_digits 203 = .ok (.aload_n 0, 1) := by decide +kernel
theorem dX5_digits_204 : decode cX5_digits 204 = .ok (.getfield 32, 3) := by decide +kernel
theorem dX5_digits_207 : decode cX5_digits 207 = .ok (.iload_n 2, 1) := by decide +kernel
theorem dX5_digits_208 : decode cX5_digits 208 = .ok (.iload_n 3, 1) := by decide +kernel
theorem dX5_digits_209 : decode cX5_digits 209 = .ok (.iastore, 1) := by decide +kernel
theorem dX5_digits_210 : decode cX5_digits 210 = .ok (.iconst 1, 1) := by decide +kernel
theorem dX5_digits_211 : decode cX5_digits 211 = .ok (.ireturn, 1) := by decide +kernel
set_option maxRecDepth 20000 in
theorem ggX5_brackets_X5_fail : GoodIn wsX5_brackets wsX5_fail := goodIn_r _ [11, 12, 23, 24, 25, 26, 27, 28, 29, 30, 31, 32, 33, 34, 35, 36, 37, 38, 39, 40, 41, 42, 43] (by decide +kernel) (by decide +kernel)
set_option maxRecDepth 20000 in
theorem gX5_brackets_X5_fail : GoodIn wsX5_brackets (wsV RX5 54 RX5 yX5_fail wsX5_fail) := goodIn_app (goodIn_of _ (by decide +kernel)) ggX5_brackets_X5_fail
set_option maxRecDepth 20000 in
theorem ggX5_brackets_X5_room : GoodIn wsX5_brackets wsX5_room := goodIn_r _ [16, 5, 7, 8, 9, 10, 11, 12, 23, 24, 25, 26, 27, 28, 29, 30, 31, 32, 33, 34, 35, 36, 37, 38, 39, 40, 41, 42, 43] (by decide +kernel) (by decide +kernel)
set_option maxRecDepth 20000 in
theorem gX5_brackets_X5_room : GoodIn wsX5_brackets (wsV RX5 131 RX5 yX5_room wsX5_room) := goodIn_app (goodIn_of _ (by decide +kernel)) ggX5_brackets_X5_room
set_option maxRecDepth 20000 in
theorem ggX5_brackets_X5_put : GoodIn wsX5_brackets wsX5_put := goodIn_r _ [20, 5, 21, 22, 23, 24, 25, 26, 27, 28, 29, 30, 31, 32, 33, 34, 35, 36, 37, 38, 39, 40, 41, 42, 43] (by decide +kernel) (by decide +kernel)
set_option maxRecDepth 20000 in
theorem gX5_brackets_X5_put : GoodIn wsX5_brackets (wsV RX5 134 RX5 yX5_put wsX5_put) := goodIn_app (goodIn_of _ (by decide +kernel)) ggX5_brackets_X5_put
theorem dX5_brackets_0 : decode cX5_brackets 0 = .ok (.aload_n 0, 1) := by decide +kernel
theorem dX5_brackets_1 : decode cX5_brackets 1 = .ok (.getfield 111, 3) := by decide +kernel
theorem dX5_brackets_4 : decode cX5_brackets 4 = .ok (.iconst 1, 1) := by decide +kernel
theorem dX5_brackets_5 : decode cX5_brackets 5 = .ok (.isub, 1) := by decide +kernel
theorem dX5_brackets_6 : decode cX5_brackets 6 = .ok (.istore_n 2, 1) := by decide +kernel
theorem dX5_brackets_7 : decode cX5_brackets 7 = .ok (.iconst 1, 1) := by decide +kernel
theorem dX5_brackets_8 : decode cX5_brackets 8 = .ok (.istore_n 3, 1) := by decide +kernel
theorem dX5_brackets_9 : decode cX5_brackets 9 = .ok (.iload_n 1, 1) := by decide +kernel
theorem dX5_brackets_10 : decode cX5_brackets 10 = .ok (.iconst 1, 1) := by decide +kernel
theorem dX5_brackets_11 : decode cX5_brackets 11 = .ok (.iadd, 1) := by decide +kernel
theorem dX5_brackets_12 : decode cX5_brackets 12 = .ok (.istore 4, 2) := by decide +kernel
theorem dX5_brackets_14 : decode cX5_brackets 14 = .ok (.iload 4, 2) := by decide +kernel
theorem dX5_brackets_16 : decode cX5_brackets 16 = .ok (.aload_n 0, 1) := by decide +kernel
theorem dX5_brackets_17 : decode cX5_brackets 17 = .ok (.getfield 29, 3) := by decide +kernel
theorem dX5_brackets_20 : decode cX5_brackets 20 = .ok (.iload_n 2, 1) := by decide +kernel
theorem dX5_brackets_21 : decode cX5_brackets 21 = .ok (.iaload, 1) := by decide +kernel
theorem dX5_brackets_22 : decode cX5_brackets 22 = .ok (.if_icmp .ge 48, 3) := by decide +kernel
theorem dX5_brackets_25 : decode cX5_brackets 25 = .ok (.iload_n 3, 1) := by decide +kernel
theorem dX5_brackets_26 : decode cX5_brackets 26 = .ok (.ifCond .le 44, 3) := by decide +kernel
theorem dX5_brackets_29 : decode cX5_brackets 29 = .ok (.aload_n 0, 1) := by decide +kernel
theorem dX5_brackets_30 : decode cX5_brackets 30 = .ok (.getfield 26, 3) := by decide +kernel
theorem dX5_brackets_33 : decode cX5_brackets 33 = .ok (.sipush 160, 3) := by decide +kernel
theorem dX5_brackets_36 : decode cX5_brackets 36 = .ok (.iload_n 2, 1) := by decide +kernel
theorem dX5_brackets_37 : decode cX5_brackets 37 = .ok (.imul, 1) := by decide +kernel
theorem dX5_brackets_38 : decode cX5_brackets 38 = .ok (.iload 4, 2) := by decide +kernel
theorem dX5_brackets_40 : decode cX5_brackets 40 = .ok (.iadd, 1) := by decide +kernel
theorem dX5_brackets_41 : decode cX5_brackets 41 = .ok (.iaload, 1) := by decide +kernel
theorem dX5_brackets_42 : decode cX5_brackets 42 = .ok (.istore 5, 2) := by decide +kernel
theorem dX5_brackets_44 : decode cX5_brackets 44 = .ok (.iload 5, 2) := by decide +kernel
theorem dX5_brackets_46 : decode cX5_brackets 46 = .ok (.bipush 91, 2) := by decide +kernel
theorem dX5_brackets_48 : decode cX5_brackets 48 = .ok (.if_icmp .ne 6, 3) := by decide +kernel
theorem dX5_brackets_51 : decode cX5_brackets 51 = .ok (.iinc 3 1, 3) := by decide +kernel
theorem dX5_brackets_54 : decode cX5_brackets 54 = .ok (.iload 5, 2) := by decide +kernel
theorem dX5_brackets_56 : decode cX5_brackets 56 = .ok (.bipush 93, 2) := by decide +kernel
theorem dX5_brackets_58 : decode cX5_brackets 58 = .ok (.if_icmp .ne 6, 3) := by decide +kernel
theorem dX5_brackets_61 : decode cX5_brackets 61 = .ok (.iinc 3 (-1), 3) := by decide +kernel
theorem dX5_brackets_64 : decode cX5_brackets 64 = .ok (.iinc 4 1, 3) := by decide +kernel
theorem dX5_brackets_67 : decode cX5_brackets 67 = .ok (.goto (-53), 3) := by decide +kernel
theorem dX5_brackets_70 : decode cX5_brackets 70 = .ok (.iload_n 3, 1) := by decide +kernel
theorem dX5_brackets_71 : decode cX5_brackets 71 = .ok (.ifCond .le 9, 3) := by decide +kernel
theorem dX5_brackets_74 : decode cX5_brackets 74 = .ok (.aload_n 0, 1) := by decide +kernel
theorem dX5_brackets_75 : decode cX5_brackets 75 = .ok (.iconst 1, 1) := by decide +kernel
theorem dX5_brackets_76 : decode cX5_brackets 76 = .ok (.invokevirtual 54, 3) := by decide +kernel
theorem dX5_brackets_79 : decode cX5_brackets 79 = .ok (.ireturn, 1) := by decide +kernel
theorem dX5_brackets_80 : decode cX5_brackets 80 = .ok (.aload_n 0, 1) := by decide +kernel
theorem dX5_brackets_81 : decode cX5_brackets 81 = .ok (.invokevirtual 131, 3) := by decide +kernel
theorem dX5_brackets_84 : decode cX5_brackets 84 = .ok (.ifCond .ne 5, 3) := by decide +kernel
theorem dX5_brackets_87 : decode cX5_brackets 87 = .ok (.iconst 0, 1) := by decide +kernel
theorem dX5_brackets_88 : decode cX5_brackets 88 = .ok (.ireturn, 1) := by decide +kernel
theorem dX5_brackets_89 : decode cX5_brackets 89 = .ok (.iload 4, 2) := by decide +kernel
theorem dX5_brackets_91 : decode cX5_brackets 91 = .ok (.iload_n 1, 1) := by decide +kernel
theorem dX5_brackets_92 : decode cX5_brackets 92 = .ok (.isub, 1) := by decide +kernel
theorem dX5_brackets_93 : decode cX5_brackets 93 = .ok (.iconst 2, 1) := by decide +kernel
theorem dX5_brackets_94 : decode cX5_brackets 94 = .ok (.isub, 1) := by decide +kernel
theorem dX5_brackets_95 : decode cX5_brackets 95 = .ok (.istore 5, 2) := by decide +kernel
theorem dX5_brackets_97 : decode cX5_brackets 97 = .ok (.iconst 0, 1) := by decide +kernel
theorem dX5_brackets_98 : decode cX5_brackets 98 = .ok (.istore 6, 2) := by decide +kernel
theorem dX5_brackets_100 : decode cX5_brackets 100 = .ok (.iload 6, 2) := by decide +kernel
theorem dX5_brackets_102 : decode cX5_brackets 102 = .ok (.iload 5, 2) := by decide +kernel
theorem dX5_brackets_104 : decode cX5_brackets 104 = .ok (.if_icmp .ge 42, 3) := by decide +kernel
theorem dX5_brackets_107 : decode cX5_brackets 107 = .ok (.aload_n 0, 1) := by decide +kernel
theorem dX5_brackets_108 : decode cX5_brackets 108 = .ok (.getfield 20, 3) := by decide +kernel
theorem dX5_brackets_111 : decode cX5_brackets 111 = .ok (.sipush 160, 3) := by decide +kernel
theorem dX5_brackets_114 : decode cX5_brackets 114 = .ok (.aload_n 0, 1) := by decide +kernel
theorem dX5_brackets_115 : decode cX5_brackets 115 = .ok (.getfield 51, 3) := by decide +kernel
theorem dX5_brackets_118 : decode cX5_brackets 118 = .ok (.imul, 1) := by decide +kernel
theorem dX5_brackets_119 : decode cX5_brackets 119 = .ok (.iload 6, 2) := by decide +kernel
theorem dX5_brackets_121 : decode cX5_brackets 121 = .ok (.iadd, 1) := by decide +kernel
theorem dX5_brackets_122 : decode cX5_brackets 122 = .ok (.aload_n 0, 1) := by decide +kernel
theorem dX5_brackets_123 : decode cX5_brackets 123 = .ok (.getfield 26, 3) := by decide +kernel
theorem dX5_brackets_126 : decode cX5_brackets 126 = .ok (.sipush 160, 3) := by decide +kernel
theorem dX5_brackets_129 : decode cX5_brackets 129 = .ok (.iload_n 2, 1) := by decide +kernel
theorem dX5_brackets_130 : decode cX5_brackets 130 = .ok (.imul, 1) := by decide +kernel
theorem dX5_brackets_131 : decode cX5_brackets 131 = .ok (.iload_n 1, 1) := by decide +kernel
theorem dX5_brackets_132 : decode cX5_brackets 132 = .ok (.iadd, 1) := by decide +kernel
theorem dX5_brackets_133 : decode cX5_brackets 133 = .ok (.iconst 1, 1) := by decide +kernel
theorem dX5_brackets_134 : decode cX5_brackets 134 = .ok (.iadd, 1) := by decide +kernel
theorem dX5_brackets_135 : decode cX5_brackets 135 = .ok (.iload 6, 2) := by decide +kernel
theorem dX5_brackets_137 : decode cX5_brackets 137 = .ok (.iadd, 1) := by decide +kernel
theorem dX5_brackets_138 : decode cX5_brackets 138 = .ok (.iaload, 1) := by decide +kernel
theorem dX5_brackets_139 : decode cX5_brackets 139 = .ok (.iastore, 1) := by decide +kernel
theorem dX5_brackets_140 : decode cX5_brackets 140 = .ok (.iinc 6 1, 3) := by decide +kernel
theorem dX5_brackets_143 : decode cX5_brackets 143 = .ok (.goto (-43), 3) := by decide +kernel
theorem dX5_brackets_146 : decode cX5_brackets 146 = .ok (.aload_n 0, 1) := by decide +kernel
theorem dX5_brackets_147 : decode cX5_brackets 147 = .ok (.iconst 0, 1) := by decide +kernel
theorem dX5_brackets_148 : decode cX5_brackets 148 = .ok (.iload 5, 2) := by decide +kernel
theorem dX5_brackets_150 : decode cX5_brackets 150 = .ok (.i2l, 1) := by decide +kernel
theorem dX5_brackets_151 : decode cX5_brackets 151 = .ok (.iconst (-1), 1) := by decide +kernel
theorem dX5_brackets_152 : decode cX5_brackets 152 = .ok (.invokevirtual 134, 3) := by decide +kernel
theorem dX5_brackets_155 : decode cX5_brackets 155 = .ok (.aload_n 0, 1) := by decide +kernel
theorem dX5_brackets_156 : decode cX5_brackets 156 = .ok (.getfield 32, 3) := by decide +kernel
theorem dX5_brackets_159 : decode cX5_brackets 159 = .ok (.iload_n 2, 1) := by decide +kernel
theorem dX5_brackets_160 : decode cX5_brackets 160 = .ok (.iload 4, 2) := by decide +kernel
theorem dX5_brackets_162 : decode cX5_brackets 162 = .ok (.iastore, 1) := by decide +kernel
theorem dX5_brackets_163 : decode cX5_brackets 163 = .ok (.iconst 1, 1) := by decide +kernel
theorem dX5_brackets_164 : decode cX5_brackets 164 = .ok (.ireturn, 1) := by decide +kernel
set_option maxRecDepth 20000 in
theorem ggX5_calculates_X5_sum : GoodIn wsX5_calculates wsX5_sum := goodIn_r _ [12, 3, 2, 7, 1, 13, 6, 14, 15, 16, 11, 17, 18, 19, 20, 21, 22, 23, 24, 25, 26, 27, 28, 29, 30, 31, 32, 33, 34, 35, 36, 37, 38, 39, 40, 73, 74, 75, 76, 77, 78, 79, 80, 81, 82, 83, 84, 85, 86, 87, 88, 89, 90, 91, 92, 93] (by decide +kernel) (by decide +kernel)
set_option maxRecDepth 20000 in
theorem gX5_calculates_X5_sum : GoodIn wsX5_calculates (wsV RX5 138 RX5 yX5_sum wsX5_sum) := goodIn_app (goodIn_of _ (by decide +kernel)) ggX5_calculates_X5_sum
set_option maxRecDepth 20000 in
theorem ggX5_calculates_X5_times : GoodIn wsX5_calculates wsX5_times := goodIn_r _ [44, 3, 2, 5, 7, 1, 6, 13, 14, 15, 16, 11, 17, 18, 19, 20, 21, 22, 23, 24, 25, 26, 27, 28, 45, 46, 47, 48, 39, 49, 50, 51, 35, 73, 74, 75, 76, 77, 78, 79, 80, 81, 82, 83, 84, 85, 86, 87, 88, 89, 90, 91, 92, 93] (by decide +kernel) (by decide +kernel)
set_option maxRecDepth 20000 in
theorem gX5_calculates_X5_times : GoodIn wsX5_calculates (wsV RX5 142 RX5 yX5_times wsX5_times) := goodIn_app (goodIn_of _ (by decide +kernel)) ggX5_calculates_X5_times
set_option maxRecDepth 20000 in
theorem ggX5_calculates_X5_quotient : GoodIn wsX5_calculates wsX5_quotient := goodIn_r _ [55, 1, 2, 5, 3, 13, 6, 7, 14, 15, 16, 11, 17, 18, 19, 20, 21, 22, 23, 24, 25, 29, 30, 31, 32, 33, 34, 35, 73, 74, 75, 76, 77, 78, 79, 80, 81, 82, 83, 84, 85, 86, 87, 88, 89, 90, 91, 92, 93] (by decide +kernel) (by decide +kernel)
set_option maxRecDepth 20000 in
theorem gX5_calculates_X5_quotient : GoodIn wsX5_calculates (wsV RX5 103 RX5 yX5_quotient wsX5_quotient) := goodIn_app (goodIn_of _ (by decide +kernel)) ggX5_calculates_X5_quotient
set_option maxRecDepth 20000 in
theorem ggX5_calculates_X5_rest : GoodIn wsX5_calculates wsX5_rest := goodIn_r _ [59, 5, 3, 2, 7, 6, 1, 13, 52, 53, 54, 11, 55, 14, 15, 16, 17, 18, 19, 20, 21, 22, 23, 24, 25, 29, 30, 31, 32, 33, 34, 35, 26, 27, 28, 45, 46, 47, 48, 39, 36, 37, 38, 40, 73, 74, 75, 76, 77, 78, 79, 80, 81, 82, 83, 84, 85, 86, 87, 88, 89, 90, 91, 92, 93] (by decide +kernel) (by decide +kernel)
set_option maxRecDepth 20000 in
theorem gX5_calculates_X5_rest : GoodIn wsX5_calculates (wsV RX5 145 RX5 yX5_rest wsX5_rest) := goodIn_app (goodIn_of _ (by decide +kernel)) ggX5_calculates_X5_rest
set_option maxRecDepth 20000 in
theorem ggX5_calculates_X5_root : GoodIn wsX5_calculates wsX5_root := goodIn_r _ [63, 1, 2, 5, 3, 7, 13, 64, 65, 6, 14, 15, 16, 11, 17, 18, 19, 20, 21, 22, 23, 24, 25, 26, 27, 28, 29, 30, 31, 32, 33, 34, 35, 73, 74, 75, 76, 77, 78, 79, 80, 81, 82, 83, 84, 85, 86, 87, 88, 89, 90, 91, 92, 93] (by decide +kernel) (by decide +kernel)
set_option maxRecDepth 20000 in
theorem gX5_calculates_X5_root : GoodIn wsX5_calculates (wsV RX5 148 RX5 yX5_root wsX5_root) := goodIn_app (goodIn_of _ (by decide +kernel)) ggX5_calculates_X5_root
set_option maxRecDepth 20000 in
theorem ggX5_calculates_X5_numbers : GoodIn wsX5_calculates wsX5_numbers := goodIn_r _ [17, 3, 2, 18, 19, 20, 11, 21, 22, 23, 24, 25, 13, 73, 74, 75, 76, 77, 78, 79, 80, 81, 82, 83, 84, 85, 86, 87, 88, 89, 90, 91, 92, 93] (by decide +kernel) (by decide +kernel)
set_option maxRecDepth 20000 in
theorem gX5_calculates_X5_numbers : GoodIn wsX5_calculates (wsV RX5 71 RX5 yX5_numbers wsX5_numbers) := goodIn_app (goodIn_of _ (by decide +kernel)) ggX5_calculates_X5_numbers
set_option maxRecDepth 20000 in
theorem ggX5_calculates_X5_put : GoodIn wsX5_calculates wsX5_put := goodIn_r _ [69, 2, 1, 3, 73, 74, 75, 76, 77, 78, 79, 80, 81, 82, 83, 84, 85, 86, 87, 88, 89, 90, 91, 92, 93] (by decide +kernel) (by decide +kernel)
set_option maxRecDepth 20000 in
theorem gX5_calculates_X5_put : GoodIn wsX5_calculates (wsV RX5 134 RX5 yX5_put wsX5_put) := goodIn_app (goodIn_of _ (by decide +kernel)) ggX5_calculates_X5_put
set_option maxRecDepth 20000 in
theorem ggX5_calculates_X5_cut : GoodIn wsX5_calculates wsX5_cut := goodIn_r _ [51, 35] (by decide +kernel) (by decide +kernel)
set_option maxRecDepth 20000 in
theorem gX5_calculates_X5_cut : GoodIn wsX5_calculates (va_wsS RX5 100 yX5_cut wsX5_cut) := goodIn_app (goodIn_of _ (by decide +kernel)) ggX5_calculates_X5_cut
set_option maxRecDepth 20000 in
theorem ggX5_calculates_X5_raised : GoodIn wsX5_calculates wsX5_raised := goodIn_r _ [32, 13, 33, 34, 35, 73, 74, 75, 76, 77, 78, 79, 80, 81, 82, 83, 84, 85, 86, 87, 88, 89, 90, 91, 92, 93] (by decide +kernel) (by decide +kernel)
set_option maxRecDepth 20000 in
theorem gX5_calculates_X5_raised : GoodIn wsX5_calculates (wsV RX5 81 RX5 yX5_raised wsX5_raised) := goodIn_app (goodIn_of _ (by decide +kernel)) ggX5_calculates_X5_raised
set_option maxRecDepth 20000 in
theorem ggX5_calculates_X5_within : GoodIn wsX5_calculates wsX5_within := goodIn_r _ [72] (by decide +kernel) (by decide +kernel)
set_option maxRecDepth 20000 in
theorem gX5_calculates_X5_within : GoodIn wsX5_calculates (va_wsS RX5 127 yX5_within wsX5_within) := goodIn_app (goodIn_of _ (by decide +kernel)) ggX5_calculates_X5_within
set_option maxRecDepth 20000 in
theorem ggX5_calculates_X5_fail : GoodIn wsX5_calculates wsX5_fail := goodIn_r _ [25, 13, 73, 74, 75, 76, 77, 78, 79, 80, 81, 82, 83, 84, 85, 86, 87, 88, 89, 90, 91, 92, 93] (by decide +kernel) (by decide +kernel)
set_option maxRecDepth 20000 in
theorem gX5_calculates_X5_fail : GoodIn wsX5_calculates (wsV RX5 54 RX5 yX5_fail wsX5_fail) := goodIn_app (goodIn_of _ (by decide +kernel)) ggX5_calculates_X5_fail
theorem dX5_calculates_0 : decode cX5_calculates 0 = .ok (.iload_n 1, 1) := by decide +kernel
theorem dX5_calculates_1 : decode cX5_calculates 1 = .ok (.bipush 43, 2) := by decide +kernel
theorem dX5_calculates_3 : decode cX5_calculates 3 = .ok (.if_icmp .eq 9, 3) := by decide +kernel
theorem dX5_calculates_6 : decode cX5_calculates 6 = .ok (.iload_n 1, 1) := by decide +kernel
theorem dX5_calculates_7 : decode cX5_calculates 7 = .ok (.bipush 45, 2) := by decide +kernel
theorem dX5_calculates_9 : decode cX5_calculates 9 = .ok (.if_icmp .ne 21, 3) := by decide +kernel
theorem dX5_calculates_12 : decode cX5_calculates 12 = .ok (.aload_n 0, 1) := by decide +kernel
theorem dX5_calculates_13 : decode cX5_calculates 13 = .ok (.iload_n 1, 1) := by decide +kernel
theorem dX5_calculates_14 : decode cX5_calculates 14 = .ok (.bipush 45, 2) := by decide +kernel
theorem dX5_calculates_16 : decode cX5_calculates 16 = .ok (.if_icmp .ne 7, 3) := by decide +kernel
theorem dX5_calculates_19 : decode cX5_calculates 19 = .ok (.iconst 1, 1) := by decide +kernel
theorem dX5_calculates_20 : decode cX5_calculates 20 = .ok (.goto 4, 3) := by decide +kernel
theorem dX5_calculates_23 : decode cX5_calculates 23 = .ok (.iconst 0, 1) := by decide +kernel
theorem dX5_calculates_24 : decode cX5_calculates 24 = .ok (.invokevirtual 138, 3) := by decide +kernel
theorem dX5_calculates_27 : decode cX5_calculates 27 = .ok (.goto 60, 3) := by decide +kernel
theorem dX5_calculates_30 : decode cX5_calculates 30 = .ok (.iload_n 1, 1) := by decide +kernel
theorem dX5_calculates_31 : decode cX5_calculates 31 = .ok (.bipush 42, 2) := by decide +kernel
theorem dX5_calculates_33 : decode cX5_calculates 33 = .ok (.if_icmp .ne 10, 3) := by decide +kernel
theorem dX5_calculates_36 : decode cX5_calculates 36 = .ok (.aload_n 0, 1) := by decide +kernel
theorem dX5_calculates_37 : decode cX5_calculates 37 = .ok (.invokevirtual 142, 3) := by decide +kernel
theorem dX5_calculates_40 : decode cX5_calculates 40 = .ok (.goto 47, 3) := by decide +kernel
theorem dX5_calculates_43 : decode cX5_calculates 43 = .ok (.iload_n 1, 1) := by decide +kernel
theorem dX5_calculates_44 : decode cX5_calculates 44 = .ok (.bipush 47, 2) := by decide +kernel
theorem dX5_calculates_46 : decode cX5_calculates 46 = .ok (.if_icmp .ne 10, 3) := by decide +kernel
theorem dX5_calculates_49 : decode cX5_calculates 49 = .ok (.aload_n 0, 1) := by decide +kernel
theorem dX5_calculates_50 : decode cX5_calculates 50 = .ok (.invokevirtual 103, 3) := by decide +kernel
theorem dX5_calculates_53 : decode cX5_calculates 53 = .ok (.goto 34, 3) := by decide +kernel
theorem dX5_calculates_56 : decode cX5_calculates 56 = .ok (.iload_n 1, 1) := by decide +kernel
theorem dX5_calculates_57 : decode cX5_calculates 57 = .ok (.bipush 37, 2) := by decide +kernel
theorem dX5_calculates_59 : decode cX5_calculates 59 = .ok (.if_icmp .ne 10, 3) := by decide +kernel
theorem dX5_calculates_62 : decode cX5_calculates 62 = .ok (.aload_n 0, 1) := by decide +kernel
theorem dX5_calculates_63 : decode cX5_calculates 63 = .ok (.invokevirtual 145, 3) := by decide +kernel
theorem dX5_calculates_66 : decode cX5_calculates 66 = .ok (.goto 21, 3) := by decide +kernel
theorem dX5_calculates_69 : decode cX5_calculates 69 = .ok (.iload_n 1, 1) := by decide +kernel
theorem dX5_calculates_70 : decode cX5_calculates 70 = .ok (.bipush 118, 2) := by decide +kernel
theorem dX5_calculates_72 : decode cX5_calculates 72 = .ok (.if_icmp .ne 10, 3) := by decide +kernel
theorem dX5_calculates_75 : decode cX5_calculates 75 = .ok (.aload_n 0, 1) := by decide +kernel
theorem dX5_calculates_76 : decode cX5_calculates 76 = .ok (.invokevirtual 148, 3) := by decide +kernel
theorem dX5_calculates_79 : decode cX5_calculates 79 = .ok (.goto 8, 3) := by decide +kernel
theorem dX5_calculates_82 : decode cX5_calculates 82 = .ok (.aload_n 0, 1) := by decide +kernel
theorem dX5_calculates_83 : decode cX5_calculates 83 = .ok (.iconst 1, 1) := by decide +kernel
theorem dX5_calculates_84 : decode cX5_calculates 84 = .ok (.invokevirtual 71, 3) := by decide +kernel
theorem dX5_calculates_87 : decode cX5_calculates 87 = .ok (.istore_n 2, 1) := by decide +kernel
theorem dX5_calculates_88 : decode cX5_calculates 88 = .ok (.iload_n 2, 1) := by decide +kernel
theorem dX5_calculates_89 : decode cX5_calculates 89 = .ok (.ifCond .ne 5, 3) := by decide +kernel
theorem dX5_calculates_92 : decode cX5_calculates 92 = .ok (.iconst 0, 1) := by decide +kernel
theorem dX5_calculates_93 : decode cX5_calculates 93 = .ok (.ireturn, 1) := by decide +kernel
theorem dX5_calculates_94 : decode cX5_calculates 94 = .ok (.iload_n 1, 1) := by decide +kernel
theorem dX5_calculates_95 : decode cX5_calculates 95 = .ok (.bipush 126, 2) := by decide +kernel
theorem dX5_calculates_97 : decode cX5_calculates 97 = .ok (.if_icmp .ne 34, 3) := by decide +kernel
theorem dX5_calculates_100 : decode cX5_calculates 100 = .ok (.aload_n 0, 1) := by decide +kernel
theorem dX5_calculates_101 : decode cX5_calculates 101 = .ok (.iconst 1, 1) := by decide +kernel
theorem dX5_calculates_102 : decode cX5_calculates 102 = .ok (.aload_n 0, 1) := by decide +kernel
theorem dX5_calculates_103 : decode cX5_calculates 103 = .ok (.getfield 13, 3) := by decide +kernel
theorem dX5_calculates_106 : decode cX5_calculates 106 = .ok (.aload_n 0, 1) := by decide +kernel
theorem dX5_calculates_107 : decode cX5_calculates 107 = .ok (.getfield 51, 3) := by decide +kernel
theorem dX5_calculates_110 : decode cX5_calculates 110 = .ok (.iconst 1, 1) := by decide +kernel
theorem dX5_calculates_111 : decode cX5_calculates 111 = .ok (.isub, 1) := by decide +kernel
theorem dX5_calculates_112 : decode cX5_calculates 112 = .ok (.laload, 1) := by decide +kernel
theorem dX5_calculates_113 : decode cX5_calculates 113 = .ok (.lneg, 1) := by decide +kernel
theorem dX5_calculates_114 : decode cX5_calculates 114 = .ok (.aload_n 0, 1) := by decide +kernel
theorem dX5_calculates_115 : decode cX5_calculates 115 = .ok (.getfield 17, 3) := by decide +kernel
theorem dX5_calculates_118 : decode cX5_calculates 118 = .ok (.aload_n 0, 1) := by decide +kernel
theorem dX5_calculates_119 : decode cX5_calculates 119 = .ok (.getfield 51, 3) := by decide +kernel
theorem dX5_calculates_122 : decode cX5_calculates 122 = .ok (.iconst 1, 1) := by decide +kernel
theorem dX5_calculates_123 : decode cX5_calculates 123 = .ok (.isub, 1) := by decide +kernel
theorem dX5_calculates_124 : decode cX5_calculates 124 = .ok (.iaload, 1) := by decide +kernel
theorem dX5_calculates_125 : decode cX5_calculates 125 = .ok (.invokevirtual 134, 3) := by decide +kernel
theorem dX5_calculates_128 : decode cX5_calculates 128 = .ok (.goto 143, 3) := by decide +kernel
theorem dX5_calculates_131 : decode cX5_calculates 131 = .ok (.iload_n 1, 1) := by decide +kernel
theorem dX5_calculates_132 : decode cX5_calculates 132 = .ok (.bipush 88, 2) := by decide +kernel
theorem dX5_calculates_134 : decode cX5_calculates 134 = .ok (.if_icmp .ne 24, 3) := by decide +kernel
theorem dX5_calculates_137 : decode cX5_calculates 137 = .ok (.aload_n 0, 1) := by decide +kernel
theorem dX5_calculates_138 : decode cX5_calculates 138 = .ok (.iconst 1, 1) := by decide +kernel
theorem dX5_calculates_139 : decode cX5_calculates 139 = .ok (.aload_n 0, 1) := by decide +kernel
theorem dX5_calculates_140 : decode cX5_calculates 140 = .ok (.getfield 17, 3) := by decide +kernel
theorem dX5_calculates_143 : decode cX5_calculates 143 = .ok (.aload_n 0, 1) := by decide +kernel
theorem dX5_calculates_144 : decode cX5_calculates 144 = .ok (.getfield 51, 3) := by decide +kernel
theorem dX5_calculates_147 : decode cX5_calculates 147 = .ok (.iconst 1, 1) := by decide +kernel
theorem dX5_calculates_148 : decode cX5_calculates 148 = .ok (.isub, 1) := by decide +kernel
theorem dX5_calculates_149 : decode cX5_calculates 149 = .ok (.iaload, 1) := by decide +kernel
theorem dX5_calculates_150 : decode cX5_calculates 150 = .ok (.i2l, 1) := by decide +kernel
theorem dX5_calculates_151 : decode cX5_calculates 151 = .ok (.iconst 0, 1) := by decide +kernel
theorem dX5_calculates_152 : decode cX5_calculates 152 = .ok (.invokevirtual 134, 3) := by decide +kernel
theorem dX5_calculates_155 : decode cX5_calculates 155 = .ok (.goto 116, 3) := by decide +kernel
theorem dX5_calculates_158 : decode cX5_calculates 158 = .ok (.iload_n 1, 1) := by decide +kernel
theorem dX5_calculates_159 : decode cX5_calculates 159 = .ok (.bipush 107, 2) := by decide +kernel
theorem dX5_calculates_161 : decode cX5_calculates 161 = .ok (.if_icmp .ne 87, 3) := by decide +kernel
theorem dX5_calculates_164 : decode cX5_calculates 164 = .ok (.aload_n 0, 1) := by decide +kernel
theorem dX5_calculates_165 : decode cX5_calculates 165 = .ok (.getfield 13, 3) := by decide +kernel
theorem dX5_calculates_168 : decode cX5_calculates 168 = .ok (.aload_n 0, 1) := by decide +kernel
theorem dX5_calculates_169 : decode cX5_calculates 169 = .ok (.getfield 51, 3) := by decide +kernel
theorem dX5_calculates_172 : decode cX5_calculates 172 = .ok (.iconst 1, 1) := by decide +kernel
theorem dX5_calculates_173 : decode cX5_calculates 173 = .ok (.isub, 1) := by decide +kernel
theorem dX5_calculates_174 : decode cX5_calculates 174 = .ok (.laload, 1) := by decide +kernel
end
section
theorem dX5_calculates_175 : decode cX5_calculates 175 = .ok (.lstore_n 3, 1) := by decide +kernel
theorem dX5_calculates_176 : decode cX5_calculates 176 = .ok (.aload_n 0, 1) := by decide +kernel
theorem dX5_calculates_177 : decode cX5_calculates 177 = .ok (.getfield 17, 3) := by decide +kernel
theorem dX5_calculates_180 : decode cX5_calculates 180 = .ok (.aload_n 0, 1) := by decide +kernel
theorem dX5_calculates_181 : decode cX5_calculates 181 = .ok (.getfield 51, 3) := by decide +kernel
theorem dX5_calculates_184 : decode cX5_calculates 184 = .ok (.iconst 1, 1) := by decide +kernel
theorem dX5_calculates_185 : decode cX5_calculates 185 = .ok (.isub, 1) := by decide +kernel
theorem dX5_calculates_186 : decode cX5_calculates 186 = .ok (.iaload, 1) := by decide +kernel
theorem dX5_calculates_187 : decode cX5_calculates 187 = .ok (.istore 5, 2) := by decide +kernel
theorem dX5_calculates_189 : decode cX5_calculates 189 = .ok (.lload_n 3, 1) := by decide +kernel
theorem dX5_calculates_190 : decode cX5_calculates 190 = .ok (.iload 5, 2) := by decide +kernel
theorem dX5_calculates_192 : decode cX5_calculates 192 = .ok (.invokestatic 100, 3) := by decide +kernel
theorem dX5_calculates_195 : decode cX5_calculates 195 = .ok (.lstore 6, 2) := by decide +kernel
theorem dX5_calculates_197 : decode cX5_calculates 197 = .ok (.aload_n 0, 1) := by decide +kernel
theorem dX5_calculates_198 : decode cX5_calculates 198 = .ok (.lload 6, 2) := by decide +kernel
theorem dX5_calculates_200 : decode cX5_calculates 200 = .ok (.iload 5, 2) := by decide +kernel
theorem dX5_calculates_202 : decode cX5_calculates 202 = .ok (.invokevirtual 81, 3) := by decide +kernel
theorem dX5_calculates_205 : decode cX5_calculates 205 = .ok (.lload_n 3, 1) := by decide +kernel
theorem dX5_calculates_206 : decode cX5_calculates 206 = .ok (.lcmp, 1) := by decide +kernel
theorem dX5_calculates_207 : decode cX5_calculates 207 = .ok (.ifCond .ne 15, 3) := by decide +kernel
theorem dX5_calculates_210 : decode cX5_calculates 210 = .ok (.lload 6, 2) := by decide +kernel
theorem dX5_calculates_212 : decode cX5_calculates 212 = .ok (.lconst 0, 1) := by decide +kernel
theorem dX5_calculates_213 : decode cX5_calculates 213 = .ok (.ldc2_w 151, 3) := by decide +kernel
theorem dX5_calculates_216 : decode cX5_calculates 216 = .ok (.invokestatic 127, 3) := by decide +kernel
theorem dX5_calculates_219 : decode cX5_calculates 219 = .ok (.ifCond .ne 9, 3) := by decide +kernel
theorem dX5_calculates_222 : decode cX5_calculates 222 = .ok (.aload_n 0, 1) := by decide +kernel
theorem dX5_calculates_223 : decode cX5_calculates 223 = .ok (.iconst 4, 1) := by decide +kernel
theorem dX5_calculates_224 : decode cX5_calculates 224 = .ok (.invokevirtual 54, 3) := by decide +kernel
theorem dX5_calculates_227 : decode cX5_calculates 227 = .ok (.ireturn, 1) := by decide +kernel
theorem dX5_calculates_228 : decode cX5_calculates 228 = .ok (.aload_n 0, 1) := by decide +kernel
theorem dX5_calculates_229 : decode cX5_calculates 229 = .ok (.lload 6, 2) := by decide +kernel
theorem dX5_calculates_231 : decode cX5_calculates 231 = .ok (.l2i, 1) := by decide +kernel
theorem dX5_calculates_232 : decode cX5_calculates 232 = .ok (.putfield 93, 3) := by decide +kernel
theorem dX5_calculates_235 : decode cX5_calculates 235 = .ok (.aload_n 0, 1) := by decide +kernel
theorem dX5_calculates_236 : decode cX5_calculates 236 = .ok (.dup, 1) := by decide +kernel
theorem dX5_calculates_237 : decode cX5_calculates 237 = .ok (.getfield 51, 3) := by decide +kernel
theorem dX5_calculates_240 : decode cX5_calculates 240 = .ok (.iconst 1, 1) := by decide +kernel
theorem dX5_calculates_241 : decode cX5_calculates 241 = .ok (.isub, 1) := by decide +kernel
theorem dX5_calculates_242 : decode cX5_calculates 242 = .ok (.putfield 51, 3) := by decide +kernel
theorem dX5_calculates_245 : decode cX5_calculates 245 = .ok (.goto 26, 3) := by decide +kernel
theorem dX5_calculates_248 : decode cX5_calculates 248 = .ok (.aload_n 0, 1) := by decide +kernel
theorem dX5_calculates_249 : decode cX5_calculates 249 = .ok (.iload_n 1, 1) := by decide +kernel
theorem dX5_calculates_250 : decode cX5_calculates 250 = .ok (.bipush 118, 2) := by decide +kernel
theorem dX5_calculates_252 : decode cX5_calculates 252 = .ok (.if_icmp .ne 7, 3) := by decide +kernel
theorem dX5_calculates_255 : decode cX5_calculates 255 = .ok (.iconst 1, 1) := by decide +kernel
theorem dX5_calculates_256 : decode cX5_calculates 256 = .ok (.goto 4, 3) := by decide +kernel
theorem dX5_calculates_259 : decode cX5_calculates 259 = .ok (.iconst 2, 1) := by decide +kernel
theorem dX5_calculates_260 : decode cX5_calculates 260 = .ok (.aload_n 0, 1) := by decide +kernel
theorem dX5_calculates_261 : decode cX5_calculates 261 = .ok (.getfield 85, 3) := by decide +kernel
theorem dX5_calculates_264 : decode cX5_calculates 264 = .ok (.aload_n 0, 1) := by decide +kernel
theorem dX5_calculates_265 : decode cX5_calculates 265 = .ok (.getfield 78, 3) := by decide +kernel
theorem dX5_calculates_268 : decode cX5_calculates 268 = .ok (.invokevirtual 134, 3) := by decide +kernel
theorem dX5_calculates_271 : decode cX5_calculates 271 = .ok (.iconst 1, 1) := by decide +kernel
theorem dX5_calculates_272 : decode cX5_calculates 272 = .ok (.ireturn, 1) := by decide +kernel
set_option maxRecDepth 20000 in
theorem ggX5_moves_X5_room : GoodIn wsX5_moves wsX5_room := goodIn_r _ [12, 1, 13, 14, 15, 11, 16, 17, 31, 32, 33, 34, 35, 36, 37, 38, 39, 40, 41, 42, 43, 44, 45, 46, 47, 48, 49, 50, 51] (by decide +kernel) (by decide +kernel)
set_option maxRecDepth 20000 in
theorem gX5_moves_X5_room : GoodIn wsX5_moves (wsV RX5 131 RX5 yX5_room wsX5_room) := goodIn_app (goodIn_of _ (by decide +kernel)) ggX5_moves_X5_room
set_option maxRecDepth 20000 in
theorem ggX5_moves_X5_put : GoodIn wsX5_moves wsX5_put := goodIn_r _ [21, 1, 5, 7, 31, 32, 33, 34, 35, 36, 37, 38, 39, 40, 41, 42, 43, 44, 45, 46, 47, 48, 49, 50, 51] (by decide +kernel) (by decide +kernel)
set_option maxRecDepth 20000 in
theorem gX5_moves_X5_put : GoodIn wsX5_moves (wsV RX5 134 RX5 yX5_put wsX5_put) := goodIn_app (goodIn_of _ (by decide +kernel)) ggX5_moves_X5_put
set_option maxRecDepth 20000 in
theorem ggX5_moves_X5_have : GoodIn wsX5_moves wsX5_have := goodIn_r _ [25, 1, 13, 14, 15, 11, 16, 17, 31, 32, 33, 34, 35, 36, 37, 38, 39, 40, 41, 42, 43, 44, 45, 46, 47, 48, 49, 50, 51] (by decide +kernel) (by decide +kernel)
set_option maxRecDepth 20000 in
theorem gX5_moves_X5_have : GoodIn wsX5_moves (wsV RX5 58 RX5 yX5_have wsX5_have) := goodIn_app (goodIn_of _ (by decide +kernel)) ggX5_moves_X5_have
set_option maxRecDepth 20000 in
theorem ggX5_moves_X5_copy : GoodIn wsX5_moves wsX5_copy := goodIn_r _ [29, 5, 7, 30, 31, 32, 33, 34, 35, 36, 37, 38, 39, 40, 41, 42, 43, 44, 45, 46, 47, 48, 49, 50, 51] (by decide +kernel) (by decide +kernel)
set_option maxRecDepth 20000 in
theorem gX5_moves_X5_copy : GoodIn wsX5_moves (wsV RX5 153 RX5 yX5_copy wsX5_copy) := goodIn_app (goodIn_of _ (by decide +kernel)) ggX5_moves_X5_copy
theorem dX5_moves_0 : decode cX5_moves 0 = .ok (.iload_n 1, 1) := by decide +kernel
theorem dX5_moves_1 : decode cX5_moves 1 = .ok (.bipush 99, 2) := by decide +kernel
theorem dX5_moves_3 : decode cX5_moves 3 = .ok (.if_icmp .ne 10, 3) := by decide +kernel
theorem dX5_moves_6 : decode cX5_moves 6 = .ok (.aload_n 0, 1) := by decide +kernel
theorem dX5_moves_7 : decode cX5_moves 7 = .ok (.iconst 0, 1) := by decide +kernel
theorem dX5_moves_8 : decode cX5_moves 8 = .ok (.putfield 51, 3) := by decide +kernel
theorem dX5_moves_11 : decode cX5_moves 11 = .ok (.iconst 1, 1) := by decide +kernel
theorem dX5_moves_12 : decode cX5_moves 12 = .ok (.ireturn, 1) := by decide +kernel
theorem dX5_moves_13 : decode cX5_moves 13 = .ok (.iload_n 1, 1) := by decide +kernel
theorem dX5_moves_14 : decode cX5_moves 14 = .ok (.bipush 122, 2) := by decide +kernel
theorem dX5_moves_16 : decode cX5_moves 16 = .ok (.if_icmp .eq 9, 3) := by decide +kernel
theorem dX5_moves_19 : decode cX5_moves 19 = .ok (.iload_n 1, 1) := by decide +kernel
theorem dX5_moves_20 : decode cX5_moves 20 = .ok (.bipush 75, 2) := by decide +kernel
theorem dX5_moves_22 : decode cX5_moves 22 = .ok (.if_icmp .ne 39, 3) := by decide +kernel
theorem dX5_moves_25 : decode cX5_moves 25 = .ok (.aload_n 0, 1) := by decide +kernel
theorem dX5_moves_26 : decode cX5_moves 26 = .ok (.invokevirtual 131, 3) := by decide +kernel
theorem dX5_moves_29 : decode cX5_moves 29 = .ok (.ifCond .ne 5, 3) := by decide +kernel
theorem dX5_moves_32 : decode cX5_moves 32 = .ok (.iconst 0, 1) := by decide +kernel
theorem dX5_moves_33 : decode cX5_moves 33 = .ok (.ireturn, 1) := by decide +kernel
theorem dX5_moves_34 : decode cX5_moves 34 = .ok (.aload_n 0, 1) := by decide +kernel
theorem dX5_moves_35 : decode cX5_moves 35 = .ok (.iconst 0, 1) := by decide +kernel
theorem dX5_moves_36 : decode cX5_moves 36 = .ok (.iload_n 1, 1) := by decide +kernel
theorem dX5_moves_37 : decode cX5_moves 37 = .ok (.bipush 122, 2) := by decide +kernel
theorem dX5_moves_39 : decode cX5_moves 39 = .ok (.if_icmp .ne 11, 3) := by decide +kernel
theorem dX5_moves_42 : decode cX5_moves 42 = .ok (.aload_n 0, 1) := by decide +kernel
theorem dX5_moves_43 : decode cX5_moves 43 = .ok (.getfield 51, 3) := by decide +kernel
theorem dX5_moves_46 : decode cX5_moves 46 = .ok (.i2l, 1) := by decide +kernel
theorem dX5_moves_47 : decode cX5_moves 47 = .ok (.goto 8, 3) := by decide +kernel
theorem dX5_moves_50 : decode cX5_moves 50 = .ok (.aload_n 0, 1) := by decide +kernel
theorem dX5_moves_51 : decode cX5_moves 51 = .ok (.getfield 93, 3) := by decide +kernel
theorem dX5_moves_54 : decode cX5_moves 54 = .ok (.i2l, 1) := by decide +kernel
theorem dX5_moves_55 : decode cX5_moves 55 = .ok (.iconst 0, 1) := by decide +kernel
theorem dX5_moves_56 : decode cX5_moves 56 = .ok (.invokevirtual 134, 3) := by decide +kernel
theorem dX5_moves_59 : decode cX5_moves 59 = .ok (.iconst 1, 1) := by decide +kernel
theorem dX5_moves_60 : decode cX5_moves 60 = .ok (.ireturn, 1) := by decide +kernel
theorem dX5_moves_61 : decode cX5_moves 61 = .ok (.aload_n 0, 1) := by decide +kernel
theorem dX5_moves_62 : decode cX5_moves 62 = .ok (.iload_n 1, 1) := by decide +kernel
theorem dX5_moves_63 : decode cX5_moves 63 = .ok (.bipush 114, 2) := by decide +kernel
theorem dX5_moves_65 : decode cX5_moves 65 = .ok (.if_icmp .ne 7, 3) := by decide +kernel
theorem dX5_moves_68 : decode cX5_moves 68 = .ok (.iconst 2, 1) := by decide +kernel
theorem dX5_moves_69 : decode cX5_moves 69 = .ok (.goto 4, 3) := by decide +kernel
theorem dX5_moves_72 : decode cX5_moves 72 = .ok (.iconst 1, 1) := by decide +kernel
theorem dX5_moves_73 : decode cX5_moves 73 = .ok (.invokevirtual 58, 3) := by decide +kernel
theorem dX5_moves_76 : decode cX5_moves 76 = .ok (.ifCond .ne 5, 3) := by decide +kernel
theorem dX5_moves_79 : decode cX5_moves 79 = .ok (.iconst 0, 1) := by decide +kernel
theorem dX5_moves_80 : decode cX5_moves 80 = .ok (.ireturn, 1) := by decide +kernel
theorem dX5_moves_81 : decode cX5_moves 81 = .ok (.iload_n 1, 1) := by decide +kernel
theorem dX5_moves_82 : decode cX5_moves 82 = .ok (.bipush 100, 2) := by decide +kernel
theorem dX5_moves_84 : decode cX5_moves 84 = .ok (.if_icmp .ne 39, 3) := by decide +kernel
theorem dX5_moves_87 : decode cX5_moves 87 = .ok (.aload_n 0, 1) := by decide +kernel
theorem dX5_moves_88 : decode cX5_moves 88 = .ok (.invokevirtual 131, 3) := by decide +kernel
theorem dX5_moves_91 : decode cX5_moves 91 = .ok (.ifCond .ne 5, 3) := by decide +kernel
theorem dX5_moves_94 : decode cX5_moves 94 = .ok (.iconst 0, 1) := by decide +kernel
theorem dX5_moves_95 : decode cX5_moves 95 = .ok (.ireturn, 1) := by decide +kernel
theorem dX5_moves_96 : decode cX5_moves 96 = .ok (.aload_n 0, 1) := by decide +kernel
theorem dX5_moves_97 : decode cX5_moves 97 = .ok (.aload_n 0, 1) := by decide +kernel
theorem dX5_moves_98 : decode cX5_moves 98 = .ok (.getfield 51, 3) := by decide +kernel
theorem dX5_moves_101 : decode cX5_moves 101 = .ok (.iconst 1, 1) := by decide +kernel
theorem dX5_moves_102 : decode cX5_moves 102 = .ok (.isub, 1) := by decide +kernel
theorem dX5_moves_103 : decode cX5_moves 103 = .ok (.aload_n 0, 1) := by decide +kernel
theorem dX5_moves_104 : decode cX5_moves 104 = .ok (.getfield 51, 3) := by decide +kernel
theorem dX5_moves_107 : decode cX5_moves 107 = .ok (.invokevirtual 153, 3) := by decide +kernel
theorem dX5_moves_110 : decode cX5_moves 110 = .ok (.aload_n 0, 1) := by decide +kernel
theorem dX5_moves_111 : decode cX5_moves 111 = .ok (.dup, 1) := by decide +kernel
theorem dX5_moves_112 : decode cX5_moves 112 = .ok (.getfield 51, 3) := by decide +kernel
theorem dX5_moves_115 : decode cX5_moves 115 = .ok (.iconst 1, 1) := by decide +kernel
theorem dX5_moves_116 : decode cX5_moves 116 = .ok (.iadd, 1) := by decide +kernel
theorem dX5_moves_117 : decode cX5_moves 117 = .ok (.putfield 51, 3) := by decide +kernel
theorem dX5_moves_120 : decode cX5_moves 120 = .ok (.goto 130, 3) := by decide +kernel
theorem dX5_moves_123 : decode cX5_moves 123 = .ok (.iload_n 1, 1) := by decide +kernel
theorem dX5_moves_124 : decode cX5_moves 124 = .ok (.bipush 114, 2) := by decide +kernel
theorem dX5_moves_126 : decode cX5_moves 126 = .ok (.if_icmp .ne 46, 3) := by decide +kernel
theorem dX5_moves_129 : decode cX5_moves 129 = .ok (.aload_n 0, 1) := by decide +kernel
theorem dX5_moves_130 : decode cX5_moves 130 = .ok (.aload_n 0, 1) := by decide +kernel
theorem dX5_moves_131 : decode cX5_moves 131 = .ok (.getfield 51, 3) := by decide +kernel
theorem dX5_moves_134 : decode cX5_moves 134 = .ok (.iconst 1, 1) := by decide +kernel
theorem dX5_moves_135 : decode cX5_moves 135 = .ok (.isub, 1) := by decide +kernel
theorem dX5_moves_136 : decode cX5_moves 136 = .ok (.bipush 80, 2) := by decide +kernel
theorem dX5_moves_138 : decode cX5_moves 138 = .ok (.invokevirtual 153, 3) := by decide +kernel
theorem dX5_moves_141 : decode cX5_moves 141 = .ok (.aload_n 0, 1) := by decide +kernel
theorem dX5_moves_142 : decode cX5_moves 142 = .ok (.aload_n 0, 1) := by decide +kernel
theorem dX5_moves_143 : decode cX5_moves 143 = .ok (.getfield 51, 3) := by decide +kernel
theorem dX5_moves_146 : decode cX5_moves 146 = .ok (.iconst 2, 1) := by decide +kernel
theorem dX5_moves_147 : decode cX5_moves 147 = .ok (.isub, 1) := by decide +kernel
theorem dX5_moves_148 : decode cX5_moves 148 = .ok (.aload_n 0, 1) := by decide +kernel
theorem dX5_moves_149 : decode cX5_moves 149 = .ok (.getfield 51, 3) := by decide +kernel
theorem dX5_moves_152 : decode cX5_moves 152 = .ok (.iconst 1, 1) := by decide +kernel
theorem dX5_moves_153 : decode cX5_moves 153 = .ok (.isub, 1) := by decide +kernel
theorem dX5_moves_154 : decode cX5_moves 154 = .ok (.invokevirtual 153, 3) := by decide +kernel
theorem dX5_moves_157 : decode cX5_moves 157 = .ok (.aload_n 0, 1) := by decide +kernel
theorem dX5_moves_158 : decode cX5_moves 158 = .ok (.bipush 80, 2) := by decide +kernel
theorem dX5_moves_160 : decode cX5_moves 160 = .ok (.aload_n 0, 1) := by decide +kernel
theorem dX5_moves_161 : decode cX5_moves 161 = .ok (.getfield 51, 3) := by decide +kernel
theorem dX5_moves_164 : decode cX5_moves 164 = .ok (.iconst 2, 1) := by decide +kernel
theorem dX5_moves_165 : decode cX5_moves 165 = .ok (.isub, 1) := by decide +kernel
theorem dX5_moves_166 : decode cX5_moves 166 = .ok (.invokevirtual 153, 3) := by decide +kernel
theorem dX5_moves_169 : decode cX5_moves 169 = .ok (.goto 81, 3) := by decide +kernel
theorem dX5_moves_172 : decode cX5_moves 172 = .ok (.iload_n 1, 1) := by decide +kernel
theorem dX5_moves_173 : decode cX5_moves 173 = .ok (.bipush 68, 2) := by decide +kernel
theorem dX5_moves_175 : decode cX5_moves 175 = .ok (.if_icmp .ne 16, 3) := by decide +kernel
theorem dX5_moves_178 : decode cX5_moves 178 = .ok (.aload_n 0, 1) := by decide +kernel
theorem dX5_moves_179 : decode cX5_moves 179 = .ok (.dup, 1) := by decide +kernel
theorem dX5_moves_180 : decode cX5_moves 180 = .ok (.getfield 51, 3) := by decide +kernel
theorem dX5_moves_183 : decode cX5_moves 183 = .ok (.iconst 1, 1) := by decide +kernel
theorem dX5_moves_184 : decode cX5_moves 184 = .ok (.isub, 1) := by decide +kernel
theorem dX5_moves_185 : decode cX5_moves 185 = .ok (.putfield 51, 3) := by decide +kernel
theorem dX5_moves_188 : decode cX5_moves 188 = .ok (.goto 62, 3) := by decide +kernel
theorem dX5_moves_191 : decode cX5_moves 191 = .ok (.aload_n 0, 1) := by decide +kernel
theorem dX5_moves_192 : decode cX5_moves 192 = .ok (.getfield 157, 3) := by decide +kernel
theorem dX5_moves_195 : decode cX5_moves 195 = .ok (.bipush 40, 2) := by decide +kernel
theorem dX5_moves_197 : decode cX5_moves 197 = .ok (.if_icmp .ge 53, 3) := by decide +kernel
theorem dX5_moves_200 : decode cX5_moves 200 = .ok (.aload_n 0, 1) := by decide +kernel
theorem dX5_moves_201 : decode cX5_moves 201 = .ok (.getfield 35, 3) := by decide +kernel
theorem dX5_moves_204 : decode cX5_moves 204 = .ok (.aload_n 0, 1) := by decide +kernel
theorem dX5_moves_205 : decode cX5_moves 205 = .ok (.getfield 157, 3) := by decide +kernel
theorem dX5_moves_208 : decode cX5_moves 208 = .ok (.aload_n 0, 1) := by decide +kernel
theorem dX5_moves_209 : decode cX5_moves 209 = .ok (.getfield 13, 3) := by decide +kernel
theorem dX5_moves_212 : decode cX5_moves 212 = .ok (.aload_n 0, 1) := by decide +kernel
theorem dX5_moves_213 : decode cX5_moves 213 = .ok (.getfield 51, 3) := by decide +kernel
theorem dX5_moves_216 : decode cX5_moves 216 = .ok (.iconst 1, 1) := by decide +kernel
theorem dX5_moves_217 : decode cX5_moves 217 = .ok (.isub, 1) := by decide +kernel
theorem dX5_moves_218 : decode cX5_moves 218 = .ok (.laload, 1) := by decide +kernel
theorem dX5_moves_219 : decode cX5_moves 219 = .ok (.lastore, 1) := by decide +kernel
theorem dX5_moves_220 : decode cX5_moves 220 = .ok (.aload_n 0, 1) := by decide +kernel
theorem dX5_moves_221 : decode cX5_moves 221 = .ok (.getfield 38, 3) := by decide +kernel
theorem dX5_moves_224 : decode cX5_moves 224 = .ok (.aload_n 0, 1) := by decide +kernel
theorem dX5_moves_225 : decode cX5_moves 225 = .ok (.getfield 157, 3) := by decide +kernel
theorem dX5_moves_228 : decode cX5_moves 228 = .ok (.aload_n 0, 1) := by decide +kernel
theorem dX5_moves_229 : decode cX5_moves 229 = .ok (.getfield 17, 3) := by decide +kernel
theorem dX5_moves_232 : decode cX5_moves 232 = .ok (.aload_n 0, 1) := by decide +kernel
theorem dX5_moves_233 : decode cX5_moves 233 = .ok (.getfield 51, 3) := by decide +kernel
theorem dX5_moves_236 : decode cX5_moves 236 = .ok (.iconst 1, 1) := by decide +kernel
theorem dX5_moves_237 : decode cX5_moves 237 = .ok (.isub, 1) := by decide +kernel
theorem dX5_moves_238 : decode cX5_moves 238 = .ok (.iaload, 1) := by decide +kernel
theorem dX5_moves_239 : decode cX5_moves 239 = .ok (.iastore, 1) := by decide +kernel
theorem dX5_moves_240 : decode cX5_moves 240 = .ok (.aload_n 0, 1) := by decide +kernel
theorem dX5_moves_241 : decode cX5_moves 241 = .ok (.dup, 1) := by decide +kernel
theorem dX5_moves_242 : decode cX5_moves 242 = .ok (.getfield 157, 3) := by decide +kernel
theorem dX5_moves_245 : decode cX5_moves 245 = .ok (.iconst 1, 1) := by decide +kernel
theorem dX5_moves_246 : decode cX5_moves 246 = .ok (.iadd, 1) := by decide +kernel
theorem dX5_moves_247 : decode cX5_moves 247 = .ok (.putfield 157, 3) := by decide +kernel
theorem dX5_moves_250 : decode cX5_moves 250 = .ok (.iconst 1, 1) := by decide +kernel
theorem dX5_moves_251 : decode cX5_moves 251 = .ok (.ireturn, 1) := by decide +kernel
set_option maxRecDepth 20000 in
theorem ggX5_stores_X5_have : GoodIn wsX5_stores wsX5_have := goodIn_r _ [7, 2, 8, 9, 10, 6, 11, 12, 28, 29, 30, 31, 32, 33, 34, 35, 36, 37, 38, 39, 40, 41, 42, 43, 44, 45, 46, 47, 48] (by decide +kernel) (by decide +kernel)
set_option maxRecDepth 20000 in
theorem gX5_stores_X5_have : GoodIn wsX5_stores (wsV RX5 58 RX5 yX5_have wsX5_have) := goodIn_app (goodIn_of _ (by decide +kernel)) ggX5_stores_X5_have
set_option maxRecDepth 20000 in
theorem ggX5_stores_X5_fail : GoodIn wsX5_stores wsX5_fail := goodIn_r _ [11, 12, 28, 29, 30, 31, 32, 33, 34, 35, 36, 37, 38, 39, 40, 41, 42, 43, 44, 45, 46, 47, 48] (by decide +kernel) (by decide +kernel)
set_option maxRecDepth 20000 in
theorem gX5_stores_X5_fail : GoodIn wsX5_stores (wsV RX5 54 RX5 yX5_fail wsX5_fail) := goodIn_app (goodIn_of _ (by decide +kernel)) ggX5_stores_X5_fail
set_option maxRecDepth 20000 in
theorem ggX5_stores_X5_topOf : GoodIn wsX5_stores wsX5_topOf := goodIn_r _ [16, 1, 28, 29, 30, 31, 32, 33, 34, 35, 36, 37, 38, 39, 40, 41, 42, 43, 44, 45, 46, 47, 48] (by decide +kernel) (by decide +kernel)
set_option maxRecDepth 20000 in
theorem gX5_stores_X5_topOf : GoodIn wsX5_stores (wsV RX5 160 RX5 yX5_topOf wsX5_topOf) := goodIn_app (goodIn_of _ (by decide +kernel)) ggX5_stores_X5_topOf
set_option maxRecDepth 20000 in
theorem ggX5_stores_X5_copy : GoodIn wsX5_stores wsX5_copy := goodIn_r _ [20, 21, 22, 23, 28, 29, 30, 31, 32, 33, 34, 35, 36, 37, 38, 39, 40, 41, 42, 43, 44, 45, 46, 47, 48] (by decide +kernel) (by decide +kernel)
set_option maxRecDepth 20000 in
theorem gX5_stores_X5_copy : GoodIn wsX5_stores (wsV RX5 153 RX5 yX5_copy wsX5_copy) := goodIn_app (goodIn_of _ (by decide +kernel)) ggX5_stores_X5_copy
set_option maxRecDepth 20000 in
theorem ggX5_stores_X5_room : GoodIn wsX5_stores wsX5_room := goodIn_r _ [27, 2, 8, 9, 10, 6, 11, 12, 28, 29, 30, 31, 32, 33, 34, 35, 36, 37, 38, 39, 40, 41, 42, 43, 44, 45, 46, 47, 48] (by decide +kernel) (by decide +kernel)
set_option maxRecDepth 20000 in
theorem gX5_stores_X5_room : GoodIn wsX5_stores (wsV RX5 131 RX5 yX5_room wsX5_room) := goodIn_app (goodIn_of _ (by decide +kernel)) ggX5_stores_X5_room
theorem dX5_stores_0 : decode cX5_stores 0 = .ok (.iload_n 1, 1) := by decide +kernel
theorem dX5_stores_1 : decode cX5_stores 1 = .ok (.bipush 115, 2) := by decide +kernel
theorem dX5_stores_3 : decode cX5_stores 3 = .ok (.if_icmp .eq 9, 3) := by decide +kernel
theorem dX5_stores_6 : decode cX5_stores 6 = .ok (.iload_n 1, 1) := by decide +kernel
theorem dX5_stores_7 : decode cX5_stores 7 = .ok (.bipush 83, 2) := by decide +kernel
theorem dX5_stores_9 : decode cX5_stores 9 = .ok (.if_icmp .ne 94, 3) := by decide +kernel
theorem dX5_stores_12 : decode cX5_stores 12 = .ok (.aload_n 0, 1) := by decide +kernel
theorem dX5_stores_13 : decode cX5_stores 13 = .ok (.iconst 1, 1) := by decide +kernel
theorem dX5_stores_14 : decode cX5_stores 14 = .ok (.invokevirtual 58, 3) := by decide +kernel
theorem dX5_stores_17 : decode cX5_stores 17 = .ok (.ifCond .ne 5, 3) := by decide +kernel
theorem dX5_stores_20 : decode cX5_stores 20 = .ok (.iconst 0, 1) := by decide +kernel
theorem dX5_stores_21 : decode cX5_stores 21 = .ok (.ireturn, 1) := by decide +kernel
theorem dX5_stores_22 : decode cX5_stores 22 = .ok (.iload_n 1, 1) := by decide +kernel
theorem dX5_stores_23 : decode cX5_stores 23 = .ok (.bipush 83, 2) := by decide +kernel
theorem dX5_stores_25 : decode cX5_stores 25 = .ok (.if_icmp .eq 12, 3) := by decide +kernel
theorem dX5_stores_28 : decode cX5_stores 28 = .ok (.aload_n 0, 1) := by decide +kernel
theorem dX5_stores_29 : decode cX5_stores 29 = .ok (.getfield 23, 3) := by decide +kernel
theorem dX5_stores_32 : decode cX5_stores 32 = .ok (.iload_n 2, 1) := by decide +kernel
theorem dX5_stores_33 : decode cX5_stores 33 = .ok (.iaload, 1) := by decide +kernel
theorem dX5_stores_34 : decode cX5_stores 34 = .ok (.ifCond .ne 7, 3) := by decide +kernel
theorem dX5_stores_37 : decode cX5_stores 37 = .ok (.iconst 1, 1) := by decide +kernel
theorem dX5_stores_38 : decode cX5_stores 38 = .ok (.goto 4, 3) := by decide +kernel
theorem dX5_stores_41 : decode cX5_stores 41 = .ok (.iconst 0, 1) := by decide +kernel
theorem dX5_stores_42 : decode cX5_stores 42 = .ok (.istore_n 3, 1) := by decide +kernel
theorem dX5_stores_43 : decode cX5_stores 43 = .ok (.iload_n 3, 1) := by decide +kernel
theorem dX5_stores_44 : decode cX5_stores 44 = .ok (.ifCond .eq 20, 3) := by decide +kernel
theorem dX5_stores_47 : decode cX5_stores 47 = .ok (.aload_n 0, 1) := by decide +kernel
theorem dX5_stores_48 : decode cX5_stores 48 = .ok (.getfield 23, 3) := by decide +kernel
theorem dX5_stores_51 : decode cX5_stores 51 = .ok (.iload_n 2, 1) := by decide +kernel
theorem dX5_stores_52 : decode cX5_stores 52 = .ok (.iaload, 1) := by decide +kernel
theorem dX5_stores_53 : decode cX5_stores 53 = .ok (.bipush 10, 2) := by decide +kernel
theorem dX5_stores_55 : decode cX5_stores 55 = .ok (.if_icmp .ne 9, 3) := by decide +kernel
theorem dX5_stores_58 : decode cX5_stores 58 = .ok (.aload_n 0, 1) := by decide +kernel
theorem dX5_stores_59 : decode cX5_stores 59 = .ok (.iconst 5, 1) := by decide +kernel
theorem dX5_stores_60 : decode cX5_stores 60 = .ok (.invokevirtual 54, 3) := by decide +kernel
theorem dX5_stores_63 : decode cX5_stores 63 = .ok (.ireturn, 1) := by decide +kernel
theorem dX5_stores_64 : decode cX5_stores 64 = .ok (.iload_n 3, 1) := by decide +kernel
theorem dX5_stores_65 : decode cX5_stores 65 = .ok (.ifCond .eq 13, 3) := by decide +kernel
theorem dX5_stores_68 : decode cX5_stores 68 = .ok (.aload_n 0, 1) := by decide +kernel
theorem dX5_stores_69 : decode cX5_stores 69 = .ok (.getfield 23, 3) := by decide +kernel
theorem dX5_stores_72 : decode cX5_stores 72 = .ok (.iload_n 2, 1) := by decide +kernel
theorem dX5_stores_73 : decode cX5_stores 73 = .ok (.dup2, 1) := by decide +kernel
theorem dX5_stores_74 : decode cX5_stores 74 = .ok (.iaload, 1) := by decide +kernel
theorem dX5_stores_75 : decode cX5_stores 75 = .ok (.iconst 1, 1) := by decide +kernel
theorem dX5_stores_76 : decode cX5_stores 76 = .ok (.iadd, 1) := by decide +kernel
theorem dX5_stores_77 : decode cX5_stores 77 = .ok (.iastore, 1) := by decide +kernel
theorem dX5_stores_78 : decode cX5_stores 78 = .ok (.aload_n 0, 1) := by decide +kernel
theorem dX5_stores_79 : decode cX5_stores 79 = .ok (.dup, 1) := by decide +kernel
theorem dX5_stores_80 : decode cX5_stores 80 = .ok (.getfield 51, 3) := by decide +kernel
theorem dX5_stores_83 : decode cX5_stores 83 = .ok (.iconst 1, 1) := by decide +kernel
theorem dX5_stores_84 : decode cX5_stores 84 = .ok (.isub, 1) := by decide +kernel
theorem dX5_stores_85 : decode cX5_stores 85 = .ok (.putfield 51, 3) := by decide +kernel
theorem dX5_stores_88 : decode cX5_stores 88 = .ok (.aload_n 0, 1) := by decide +kernel
theorem dX5_stores_89 : decode cX5_stores 89 = .ok (.aload_n 0, 1) := by decide +kernel
theorem dX5_stores_90 : decode cX5_stores 90 = .ok (.getfield 51, 3) := by decide +kernel
theorem dX5_stores_93 : decode cX5_stores 93 = .ok (.aload_n 0, 1) := by decide +kernel
theorem dX5_stores_94 : decode cX5_stores 94 = .ok (.iload_n 2, 1) := by decide +kernel
theorem dX5_stores_95 : decode cX5_stores 95 = .ok (.invokevirtual 160, 3) := by decide +kernel
theorem dX5_stores_98 : decode cX5_stores 98 = .ok (.invokevirtual 153, 3) := by decide +kernel
theorem dX5_stores_101 : decode cX5_stores 101 = .ok (.iconst 1, 1) := by decide +kernel
theorem dX5_stores_102 : decode cX5_stores 102 = .ok (.ireturn, 1) := by decide +kernel
theorem dX5_stores_103 : decode cX5_stores 103 = .ok (.aload_n 0, 1) := by decide +kernel
theorem dX5_stores_104 : decode cX5_stores 104 = .ok (.getfield 23, 3) := by decide +kernel
theorem dX5_stores_107 : decode cX5_stores 107 = .ok (.iload_n 2, 1) := by decide +kernel
theorem dX5_stores_108 : decode cX5_stores 108 = .ok (.iaload, 1) := by decide +kernel
theorem dX5_stores_109 : decode cX5_stores 109 = .ok (.ifCond .ne 9, 3) := by decide +kernel
theorem dX5_stores_112 : decode cX5_stores 112 = .ok (.aload_n 0, 1) := by decide +kernel
theorem dX5_stores_113 : decode cX5_stores 113 = .ok (.iconst 2, 1) := by decide +kernel
theorem dX5_stores_114 : decode cX5_stores 114 = .ok (.invokevirtual 54, 3) := by decide +kernel
theorem dX5_stores_117 : decode cX5_stores 117 = .ok (.ireturn, 1) := by decide +kernel
theorem dX5_stores_118 : decode cX5_stores 118 = .ok (.aload_n 0, 1) := by decide +kernel
theorem dX5_stores_119 : decode cX5_stores 119 = .ok (.invokevirtual 131, 3) := by decide +kernel
theorem dX5_stores_122 : decode cX5_stores 122 = .ok (.ifCond .ne 5, 3) := by decide +kernel
theorem dX5_stores_125 : decode cX5_stores 125 = .ok (.iconst 0, 1) := by decide +kernel
theorem dX5_stores_126 : decode cX5_stores 126 = .ok (.ireturn, 1) := by decide +kernel
theorem dX5_stores_127 : decode cX5_stores 127 = .ok (.aload_n 0, 1) := by decide +kernel
theorem dX5_stores_128 : decode cX5_stores 128 = .ok (.aload_n 0, 1) := by decide +kernel
theorem dX5_stores_129 : decode cX5_stores 129 = .ok (.iload_n 2, 1) := by decide +kernel
theorem dX5_stores_130 : decode cX5_stores 130 = .ok (.invokevirtual 160, 3) := by decide +kernel
theorem dX5_stores_133 : decode cX5_stores 133 = .ok (.aload_n 0, 1) := by decide +kernel
theorem dX5_stores_134 : decode cX5_stores 134 = .ok (.getfield 51, 3) := by decide +kernel
theorem dX5_stores_137 : decode cX5_stores 137 = .ok (.invokevirtual 153, 3) := by decide +kernel
theorem dX5_stores_140 : decode cX5_stores 140 = .ok (.aload_n 0, 1) := by decide +kernel
theorem dX5_stores_141 : decode cX5_stores 141 = .ok (.dup, 1) := by decide +kernel
theorem dX5_stores_142 : decode cX5_stores 142 = .ok (.getfield 51, 3) := by decide +kernel
theorem dX5_stores_145 : decode cX5_stores 145 = .ok (.iconst 1, 1) := by decide +kernel
theorem dX5_stores_146 : decode cX5_stores 146 = .ok (.iadd, 1) := by decide +kernel
theorem dX5_stores_147 : decode cX5_stores 147 = .ok (.putfield 51, 3) := by decide +kernel
theorem dX5_stores_150 : decode cX5_stores 150 = .ok (.iload_n 1, 1) := by decide +kernel
theorem dX5_stores_151 : decode cX5_stores 151 = .ok (.bipush 76, 2) := by decide +kernel
theorem dX5_stores_153 : decode cX5_stores 153 = .ok (.if_icmp .ne 13, 3) := by decide +kernel
theorem dX5_stores_156 : decode cX5_stores 156 = .ok (.aload_n 0, 1) := by decide +kernel
theorem dX5_stores_157 : decode cX5_stores 157 = .ok (.getfield 23, 3) := by decide +kernel
theorem dX5_stores_160 : decode cX5_stores 160 = .ok (.iload_n 2, 1) := by decide +kernel
theorem dX5_stores_161 : decode cX5_stores 161 = .ok (.dup2, 1) := by decide +kernel
theorem dX5_stores_162 : decode cX5_stores 162 = .ok (.iaload, 1) := by decide +kernel
theorem dX5_stores_163 : decode cX5_stores 163 = .ok (.iconst 1, 1) := by decide +kernel
theorem dX5_stores_164 : decode cX5_stores 164 = .ok (.isub, 1) := by decide +kernel
theorem dX5_stores_165 : decode cX5_stores 165 = .ok (.iastore, 1) := by decide +kernel
theorem dX5_stores_166 : decode cX5_stores 166 = .ok (.iconst 1, 1) := by decide +kernel
theorem dX5_stores_167 : decode cX5_stores 167 = .ok (.ireturn, 1) := by decide +kernel
set_option maxRecDepth 20000 in
theorem ggX5_tests_X5_numbers : GoodIn wsX5_tests wsX5_numbers := goodIn_r _ [9, 4, 2, 10, 11, 12, 8, 13, 14, 15, 16, 17, 18, 60, 61, 62, 63, 64, 65, 66, 67, 68, 69, 70, 71, 72, 73, 74, 75, 76, 77, 78, 79, 80] (by decide +kernel) (by decide +kernel)
set_option maxRecDepth 20000 in
theorem gX5_tests_X5_numbers : GoodIn wsX5_tests (wsV RX5 71 RX5 yX5_numbers wsX5_numbers) := goodIn_app (goodIn_of _ (by decide +kernel)) ggX5_tests_X5_numbers
set_option maxRecDepth 20000 in
theorem ggX5_tests_X5_compared : GoodIn wsX5_tests wsX5_compared := goodIn_r _ [22, 4, 2, 23, 24, 1, 18, 25, 26, 8, 27, 28, 29, 30, 31, 32, 33, 34, 60, 61, 62, 63, 64, 65, 66, 67, 68, 69, 70, 71, 72, 73, 74, 75, 76, 77, 78, 79, 80] (by decide +kernel) (by decide +kernel)
set_option maxRecDepth 20000 in
theorem gX5_tests_X5_compared : GoodIn wsX5_tests (wsV RX5 164 RX5 yX5_compared wsX5_compared) := goodIn_app (goodIn_of _ (by decide +kernel)) ggX5_tests_X5_compared
set_option maxRecDepth 20000 in
theorem ggX5_tests_X5_fail : GoodIn wsX5_tests wsX5_fail := goodIn_r _ [17, 18, 60, 61, 62, 63, 64, 65, 66, 67, 68, 69, 70, 71, 72, 73, 74, 75, 76, 77, 78, 79, 80] (by decide +kernel) (by decide +kernel)
set_option maxRecDepth 20000 in
theorem gX5_tests_X5_fail : GoodIn wsX5_tests (wsV RX5 54 RX5 yX5_fail wsX5_fail) := goodIn_app (goodIn_of _ (by decide +kernel)) ggX5_tests_X5_fail
set_option maxRecDepth 20000 in
theorem ggX5_tests_X5_topOf : GoodIn wsX5_tests wsX5_topOf := goodIn_r _ [38, 3, 60, 61, 62, 63, 64, 65, 66, 67, 68, 69, 70, 71, 72, 73, 74, 75, 76, 77, 78, 79, 80] (by decide +kernel) (by decide +kernel)
set_option maxRecDepth 20000 in
theorem gX5_tests_X5_topOf : GoodIn wsX5_tests (wsV RX5 160 RX5 yX5_topOf wsX5_topOf) := goodIn_app (goodIn_of _ (by decide +kernel)) ggX5_tests_X5_topOf
set_option maxRecDepth 20000 in
theorem ggX5_tests_X5_mayRun : GoodIn wsX5_tests wsX5_mayRun := goodIn_r _ [42, 43, 44, 45, 46, 8, 47, 48, 49, 50, 51, 52, 53, 14, 15, 16, 17, 18, 60, 61, 62, 63, 64, 65, 66, 67, 68, 69, 70, 71, 72, 73, 74, 75, 76, 77, 78, 79, 80] (by decide +kernel) (by decide +kernel)
set_option maxRecDepth 20000 in
theorem gX5_tests_X5_mayRun : GoodIn wsX5_tests (wsV RX5 167 RX5 yX5_mayRun wsX5_mayRun) := goodIn_app (goodIn_of _ (by decide +kernel)) ggX5_tests_X5_mayRun
set_option maxRecDepth 20000 in
theorem ggX5_tests_X5_begin : GoodIn wsX5_tests wsX5_begin := goodIn_r _ [57, 58, 43, 48, 23, 49, 59, 44, 45, 46, 8, 47, 50, 51, 52, 53, 60, 61, 62, 63, 64, 65, 66, 67, 68, 69, 70, 71, 72, 73, 74, 75, 76, 77, 78, 79, 80] (by decide +kernel) (by decide +kernel)
set_option maxRecDepth 20000 in
theorem gX5_tests_X5_begin : GoodIn wsX5_tests (wsV RX5 170 RX5 yX5_begin wsX5_begin) := goodIn_app (goodIn_of _ (by decide +kernel)) ggX5_tests_X5_begin
theorem dX5_tests_0 : decode cX5_tests 0 = .ok (.aload_n 0, 1) := by decide +kernel
theorem dX5_tests_1 : decode cX5_tests 1 = .ok (.iconst 2, 1) := by decide +kernel
theorem dX5_tests_2 : decode cX5_tests 2 = .ok (.invokevirtual 71, 3) := by decide +kernel
theorem dX5_tests_5 : decode cX5_tests 5 = .ok (.ifCond .eq 10, 3) := by decide +kernel
theorem dX5_tests_8 : decode cX5_tests 8 = .ok (.aload_n 0, 1) := by decide +kernel
theorem dX5_tests_9 : decode cX5_tests 9 = .ok (.invokevirtual 164, 3) := by decide +kernel
theorem dX5_tests_12 : decode cX5_tests 12 = .ok (.ifCond .ne 5, 3) := by decide +kernel
theorem dX5_tests_15 : decode cX5_tests 15 = .ok (.iconst 0, 1) := by decide +kernel
theorem dX5_tests_16 : decode cX5_tests 16 = .ok (.ireturn, 1) := by decide +kernel
theorem dX5_tests_17 : decode cX5_tests 17 = .ok (.iload_n 1, 1) := by decide +kernel
theorem dX5_tests_18 : decode cX5_tests 18 = .ok (.bipush 60, 2) := by decide +kernel
theorem dX5_tests_20 : decode cX5_tests 20 = .ok (.if_icmp .ne 20, 3) := by decide +kernel
theorem dX5_tests_23 : decode cX5_tests 23 = .ok (.aload_n 0, 1) := by decide +kernel
theorem dX5_tests_24 : decode cX5_tests 24 = .ok (.getfield 85, 3) := by decide +kernel
theorem dX5_tests_27 : decode cX5_tests 27 = .ok (.lconst 0, 1) := by decide +kernel
theorem dX5_tests_28 : decode cX5_tests 28 = .ok (.lcmp, 1) := by decide +kernel
theorem dX5_tests_29 : decode cX5_tests 29 = .ok (.ifCond .le 7, 3) := by decide +kernel
theorem dX5_tests_32 : decode cX5_tests 32 = .ok (.iconst 1, 1) := by decide +kernel
theorem dX5_tests_33 : decode cX5_tests 33 = .ok (.goto 44, 3) := by decide +kernel
theorem dX5_tests_36 : decode cX5_tests 36 = .ok (.iconst 0, 1) := by decide +kernel
theorem dX5_tests_37 : decode cX5_tests 37 = .ok (.goto 40, 3) := by decide +kernel
theorem dX5_tests_40 : decode cX5_tests 40 = .ok (.iload_n 1, 1) := by decide +kernel
theorem dX5_tests_41 : decode cX5_tests 41 = .ok (.bipush 62, 2) := by decide +kernel
theorem dX5_tests_43 : decode cX5_tests 43 = .ok (.if_icmp .ne 20, 3) := by decide +kernel
theorem dX5_tests_46 : decode cX5_tests 46 = .ok (.aload_n 0, 1) := by decide +kernel
theorem dX5_tests_47 : decode cX5_tests 47 = .ok (.getfield 85, 3) := by decide +kernel
theorem dX5_tests_50 : decode cX5_tests 50 = .ok (.lconst 0, 1) := by decide +kernel
theorem dX5_tests_51 : decode cX5_tests 51 = .ok (.lcmp, 1) := by decide +kernel
theorem dX5_tests_52 : decode cX5_tests 52 = .ok (.ifCond .ge 7, 3) := by decide +kernel
theorem dX5_tests_55 : decode cX5_tests 55 = .ok (.iconst 1, 1) := by decide +kernel
theorem dX5_tests_56 : decode cX5_tests 56 = .ok (.goto 21, 3) := by decide +kernel
theorem dX5_tests_59 : decode cX5_tests 59 = .ok (.iconst 0, 1) := by decide +kernel
theorem dX5_tests_60 : decode cX5_tests 60 = .ok (.goto 17, 3) := by decide +kernel
theorem dX5_tests_63 : decode cX5_tests 63 = .ok (.aload_n 0, 1) := by decide +kernel
theorem dX5_tests_64 : decode cX5_tests 64 = .ok (.getfield 85, 3) := by decide +kernel
theorem dX5_tests_67 : decode cX5_tests 67 = .ok (.lconst 0, 1) := by decide +kernel
theorem dX5_tests_68 : decode cX5_tests 68 = .ok (.lcmp, 1) := by decide +kernel
theorem dX5_tests_69 : decode cX5_tests 69 = .ok (.ifCond .ne 7, 3) := by decide +kernel
theorem dX5_tests_72 : decode cX5_tests 72 = .ok (.iconst 1, 1) := by decide +kernel
theorem dX5_tests_73 : decode cX5_tests 73 = .ok (.goto 4, 3) := by decide +kernel
theorem dX5_tests_76 : decode cX5_tests 76 = .ok (.iconst 0, 1) := by decide +kernel
theorem dX5_tests_77 : decode cX5_tests 77 = .ok (.istore 4, 2) := by decide +kernel
theorem dX5_tests_79 : decode cX5_tests 79 = .ok (.iload 4, 2) := by decide +kernel
theorem dX5_tests_81 : decode cX5_tests 81 = .ok (.ifCond .ne 15, 3) := by decide +kernel
theorem dX5_tests_84 : decode cX5_tests 84 = .ok (.aload_n 0, 1) := by decide +kernel
theorem dX5_tests_85 : decode cX5_tests 85 = .ok (.dup, 1) := by decide +kernel
theorem dX5_tests_86 : decode cX5_tests 86 = .ok (.getfield 51, 3) := by decide +kernel
theorem dX5_tests_89 : decode cX5_tests 89 = .ok (.iconst 2, 1) := by decide +kernel
theorem dX5_tests_90 : decode cX5_tests 90 = .ok (.isub, 1) := by decide +kernel
theorem dX5_tests_91 : decode cX5_tests 91 = .ok (.putfield 51, 3) := by decide +kernel
theorem dX5_tests_94 : decode cX5_tests 94 = .ok (.iconst 1, 1) := by decide +kernel
theorem dX5_tests_95 : decode cX5_tests 95 = .ok (.ireturn, 1) := by decide +kernel
theorem dX5_tests_96 : decode cX5_tests 96 = .ok (.aload_n 0, 1) := by decide +kernel
theorem dX5_tests_97 : decode cX5_tests 97 = .ok (.getfield 23, 3) := by decide +kernel
theorem dX5_tests_100 : decode cX5_tests 100 = .ok (.iload_n 2, 1) := by decide +kernel
theorem dX5_tests_101 : decode cX5_tests 101 = .ok (.iaload, 1) := by decide +kernel
theorem dX5_tests_102 : decode cX5_tests 102 = .ok (.ifCond .ne 9, 3) := by decide +kernel
theorem dX5_tests_105 : decode cX5_tests 105 = .ok (.aload_n 0, 1) := by decide +kernel
theorem dX5_tests_106 : decode cX5_tests 106 = .ok (.iconst 2, 1) := by decide +kernel
theorem dX5_tests_107 : decode cX5_tests 107 = .ok (.invokevirtual 54, 3) := by decide +kernel
theorem dX5_tests_110 : decode cX5_tests 110 = .ok (.ireturn, 1) := by decide +kernel
theorem dX5_tests_111 : decode cX5_tests 111 = .ok (.aload_n 0, 1) := by decide +kernel
theorem dX5_tests_112 : decode cX5_tests 112 = .ok (.getfield 17, 3) := by decide +kernel
theorem dX5_tests_115 : decode cX5_tests 115 = .ok (.aload_n 0, 1) := by decide +kernel
theorem dX5_tests_116 : decode cX5_tests 116 = .ok (.iload_n 2, 1) := by decide +kernel
theorem dX5_tests_117 : decode cX5_tests 117 = .ok (.invokevirtual 160, 3) := by decide +kernel
theorem dX5_tests_120 : decode cX5_tests 120 = .ok (.iaload, 1) := by decide +kernel
theorem dX5_tests_121 : decode cX5_tests 121 = .ok (.ifCond .lt 9, 3) := by decide +kernel
theorem dX5_tests_124 : decode cX5_tests 124 = .ok (.aload_n 0, 1) := by decide +kernel
theorem dX5_tests_125 : decode cX5_tests 125 = .ok (.iconst 3, 1) := by decide +kernel
theorem dX5_tests_126 : decode cX5_tests 126 = .ok (.invokevirtual 54, 3) := by decide +kernel
theorem dX5_tests_129 : decode cX5_tests 129 = .ok (.ireturn, 1) := by decide +kernel
theorem dX5_tests_130 : decode cX5_tests 130 = .ok (.aload_n 0, 1) := by decide +kernel
theorem dX5_tests_131 : decode cX5_tests 131 = .ok (.iload_n 3, 1) := by decide +kernel
theorem dX5_tests_132 : decode cX5_tests 132 = .ok (.invokevirtual 167, 3) := by decide +kernel
theorem dX5_tests_135 : decode cX5_tests 135 = .ok (.ifCond .ne 5, 3) := by decide +kernel
theorem dX5_tests_138 : decode cX5_tests 138 = .ok (.iconst 0, 1) := by decide +kernel
theorem dX5_tests_139 : decode cX5_tests 139 = .ok (.ireturn, 1) := by decide +kernel
theorem dX5_tests_140 : decode cX5_tests 140 = .ok (.aload_n 0, 1) := by decide +kernel
theorem dX5_tests_141 : decode cX5_tests 141 = .ok (.dup, 1) := by decide +kernel
theorem dX5_tests_142 : decode cX5_tests 142 = .ok (.getfield 51, 3) := by decide +kernel
theorem dX5_tests_145 : decode cX5_tests 145 = .ok (.iconst 2, 1) := by decide +kernel
theorem dX5_tests_146 : decode cX5_tests 146 = .ok (.isub, 1) := by decide +kernel
theorem dX5_tests_147 : decode cX5_tests 147 = .ok (.putfield 51, 3) := by decide +kernel
theorem dX5_tests_150 : decode cX5_tests 150 = .ok (.aload_n 0, 1) := by decide +kernel
theorem dX5_tests_151 : decode cX5_tests 151 = .ok (.aload_n 0, 1) := by decide +kernel
theorem dX5_tests_152 : decode cX5_tests 152 = .ok (.iload_n 2, 1) := by decide +kernel
theorem dX5_tests_153 : decode cX5_tests 153 = .ok (.invokevirtual 160, 3) := by decide +kernel
theorem dX5_tests_156 : decode cX5_tests 156 = .ok (.iload_n 3, 1) := by decide +kernel
theorem dX5_tests_157 : decode cX5_tests 157 = .ok (.invokevirtual 170, 3) := by decide +kernel
theorem dX5_tests_160 : decode cX5_tests 160 = .ok (.iconst 1, 1) := by decide +kernel
theorem dX5_tests_161 : decode cX5_tests 161 = .ok (.ireturn, 1) := by decide +kernel
set_option maxRecDepth 20000 in
theorem ggX5_compared_X5_greater : GoodIn wsX5_compared wsX5_greater := goodIn_r _ [10] (by decide +kernel) (by decide +kernel)
set_option maxRecDepth 20000 in
theorem gX5_compared_X5_greater : GoodIn wsX5_compared (va_wsS RX5 74 yX5_greater wsX5_greater) := goodIn_app (goodIn_of _ (by decide +kernel)) ggX5_compared_X5_greater
set_option maxRecDepth 20000 in
theorem ggX5_compared_X5_raised : GoodIn wsX5_compared wsX5_raised := goodIn_r _ [14, 6, 15, 16, 17, 18, 19, 20, 21, 22, 23, 24, 25, 26, 27, 28, 29, 30, 31, 32, 33, 34, 35, 36, 37, 38] (by decide +kernel) (by decide +kernel)
set_option maxRecDepth 20000 in
theorem gX5_compared_X5_raised : GoodIn wsX5_compared (wsV RX5 81 RX5 yX5_raised wsX5_raised) := goodIn_app (goodIn_of _ (by decide +kernel)) ggX5_compared_X5_raised
theorem dX5_compared_0 : decode cX5_compared 0 = .ok (.aload_n 0, 1) := by decide +kernel
theorem dX5_compared_1 : decode cX5_compared 1 = .ok (.getfield 17, 3) := by decide +kernel
theorem dX5_compared_4 : decode cX5_compared 4 = .ok (.aload_n 0, 1) := by decide +kernel
theorem dX5_compared_5 : decode cX5_compared 5 = .ok (.getfield 51, 3) := by decide +kernel
theorem dX5_compared_8 : decode cX5_compared 8 = .ok (.iconst 1, 1) := by decide +kernel
theorem dX5_compared_9 : decode cX5_compared 9 = .ok (.isub, 1) := by decide +kernel
theorem dX5_compared_10 : decode cX5_compared 10 = .ok (.iaload, 1) := by decide +kernel
theorem dX5_compared_11 : decode cX5_compared 11 = .ok (.aload_n 0, 1) := by decide +kernel
theorem dX5_compared_12 : decode cX5_compared 12 = .ok (.getfield 17, 3) := by decide +kernel
theorem dX5_compared_15 : decode cX5_compared 15 = .ok (.aload_n 0, 1) := by decide +kernel
theorem dX5_compared_16 : decode cX5_compared 16 = .ok (.getfield 51, 3) := by decide +kernel
theorem dX5_compared_19 : decode cX5_compared 19 = .ok (.iconst 2, 1) := by decide +kernel
theorem dX5_compared_20 : decode cX5_compared 20 = .ok (.isub, 1) := by decide +kernel
theorem dX5_compared_21 : decode cX5_compared 21 = .ok (.iaload, 1) := by decide +kernel
theorem dX5_compared_22 : decode cX5_compared 22 = .ok (.invokestatic 74, 3) := by decide +kernel
theorem dX5_compared_25 : decode cX5_compared 25 = .ok (.istore_n 1, 1) := by decide +kernel
theorem dX5_compared_26 : decode cX5_compared 26 = .ok (.aload_n 0, 1) := by decide +kernel
theorem dX5_compared_27 : decode cX5_compared 27 = .ok (.aload_n 0, 1) := by decide +kernel
theorem dX5_compared_28 : decode cX5_compared 28 = .ok (.getfield 13, 3) := by decide +kernel
theorem dX5_compared_31 : decode cX5_compared 31 = .ok (.aload_n 0, 1) := by decide +kernel
theorem dX5_compared_32 : decode cX5_compared 32 = .ok (.getfield 51, 3) := by decide +kernel
theorem dX5_compared_35 : decode cX5_compared 35 = .ok (.iconst 2, 1) := by decide +kernel
theorem dX5_compared_36 : decode cX5_compared 36 = .ok (.isub, 1) := by decide +kernel
theorem dX5_compared_37 : decode cX5_compared 37 = .ok (.laload, 1) := by decide +kernel
theorem dX5_compared_38 : decode cX5_compared 38 = .ok (.iload_n 1, 1) := by decide +kernel
theorem dX5_compared_39 : decode cX5_compared 39 = .ok (.aload_n 0, 1) := by decide +kernel
end
section
theorem dX5_compared_40 : decode cX5_compared 40 = .ok (.getfield 17, 3) := by decide +kernel
theorem dX5_compared_43 : decode cX5_compared 43 = .ok (.aload_n 0, 1) := by decide +kernel
theorem dX5_compared_44 : decode cX5_compared 44 = .ok (.getfield 51, 3) := by decide +kernel
theorem dX5_compared_47 : decode cX5_compared 47 = .ok (.iconst 2, 1) := by decide +kernel
theorem dX5_compared_48 : decode cX5_compared 48 = .ok (.isub, 1) := by decide +kernel
theorem dX5_compared_49 : decode cX5_compared 49 = .ok (.iaload, 1) := by decide +kernel
theorem dX5_compared_50 : decode cX5_compared 50 = .ok (.isub, 1) := by decide +kernel
theorem dX5_compared_51 : decode cX5_compared 51 = .ok (.invokevirtual 81, 3) := by decide +kernel
theorem dX5_compared_54 : decode cX5_compared 54 = .ok (.lstore_n 2, 1) := by decide +kernel
theorem dX5_compared_55 : decode cX5_compared 55 = .ok (.aload_n 0, 1) := by decide +kernel
theorem dX5_compared_56 : decode cX5_compared 56 = .ok (.aload_n 0, 1) := by decide +kernel
theorem dX5_compared_57 : decode cX5_compared 57 = .ok (.getfield 13, 3) := by decide +kernel
theorem dX5_compared_60 : decode cX5_compared 60 = .ok (.aload_n 0, 1) := by decide +kernel
theorem dX5_compared_61 : decode cX5_compared 61 = .ok (.getfield 51, 3) := by decide +kernel
theorem dX5_compared_64 : decode cX5_compared 64 = .ok (.iconst 1, 1) := by decide +kernel
theorem dX5_compared_65 : decode cX5_compared 65 = .ok (.isub, 1) := by decide +kernel
theorem dX5_compared_66 : decode cX5_compared 66 = .ok (.laload, 1) := by decide +kernel
theorem dX5_compared_67 : decode cX5_compared 67 = .ok (.iload_n 1, 1) := by decide +kernel
theorem dX5_compared_68 : decode cX5_compared 68 = .ok (.aload_n 0, 1) := by decide +kernel
theorem dX5_compared_69 : decode cX5_compared 69 = .ok (.getfield 17, 3) := by decide +kernel
theorem dX5_compared_72 : decode cX5_compared 72 = .ok (.aload_n 0, 1) := by decide +kernel
theorem dX5_compared_73 : decode cX5_compared 73 = .ok (.getfield 51, 3) := by decide +kernel
theorem dX5_compared_76 : decode cX5_compared 76 = .ok (.iconst 1, 1) := by decide +kernel
theorem dX5_compared_77 : decode cX5_compared 77 = .ok (.isub, 1) := by decide +kernel
theorem dX5_compared_78 : decode cX5_compared 78 = .ok (.iaload, 1) := by decide +kernel
theorem dX5_compared_79 : decode cX5_compared 79 = .ok (.isub, 1) := by decide +kernel
theorem dX5_compared_80 : decode cX5_compared 80 = .ok (.invokevirtual 81, 3) := by decide +kernel
theorem dX5_compared_83 : decode cX5_compared 83 = .ok (.lstore 4, 2) := by decide +kernel
theorem dX5_compared_85 : decode cX5_compared 85 = .ok (.aload_n 0, 1) := by decide +kernel
theorem dX5_compared_86 : decode cX5_compared 86 = .ok (.lload_n 2, 1) := by decide +kernel
theorem dX5_compared_87 : decode cX5_compared 87 = .ok (.lload 4, 2) := by decide +kernel
theorem dX5_compared_89 : decode cX5_compared 89 = .ok (.lcmp, 1) := by decide +kernel
theorem dX5_compared_90 : decode cX5_compared 90 = .ok (.ifCond .le 7, 3) := by decide +kernel
theorem dX5_compared_93 : decode cX5_compared 93 = .ok (.lconst 1, 1) := by decide +kernel
theorem dX5_compared_94 : decode cX5_compared 94 = .ok (.goto 17, 3) := by decide +kernel
theorem dX5_compared_97 : decode cX5_compared 97 = .ok (.lload_n 2, 1) := by decide +kernel
theorem dX5_compared_98 : decode cX5_compared 98 = .ok (.lload 4, 2) := by decide +kernel
theorem dX5_compared_100 : decode cX5_compared 100 = .ok (.lcmp, 1) := by decide +kernel
theorem dX5_compared_101 : decode cX5_compared 101 = .ok (.ifCond .ge 9, 3) := by decide +kernel
theorem dX5_compared_104 : decode cX5_compared 104 = .ok (.ldc2_w 173, 3) := by decide +kernel
theorem dX5_compared_107 : decode cX5_compared 107 = .ok (.goto 4, 3) := by decide +kernel
theorem dX5_compared_110 : decode cX5_compared 110 = .ok (.lconst 0, 1) := by decide +kernel
theorem dX5_compared_111 : decode cX5_compared 111 = .ok (.putfield 85, 3) := by decide +kernel
theorem dX5_compared_114 : decode cX5_compared 114 = .ok (.aload_n 0, 1) := by decide +kernel
theorem dX5_compared_115 : decode cX5_compared 115 = .ok (.getfield 48, 3) := by decide +kernel
theorem dX5_compared_118 : decode cX5_compared 118 = .ok (.ifCond .ne 7, 3) := by decide +kernel
theorem dX5_compared_121 : decode cX5_compared 121 = .ok (.iconst 1, 1) := by decide +kernel
theorem dX5_compared_122 : decode cX5_compared 122 = .ok (.goto 4, 3) := by decide +kernel
theorem dX5_compared_125 : decode cX5_compared 125 = .ok (.iconst 0, 1) := by decide +kernel
theorem dX5_compared_126 : decode cX5_compared 126 = .ok (.ireturn, 1) := by decide +kernel
set_option maxRecDepth 20000 in
theorem ggX5_runs_X5_have : GoodIn wsX5_runs wsX5_have := goodIn_r _ [7, 2, 8, 9, 10, 6, 11, 12, 35, 36, 37, 38, 39, 40, 41, 42, 43, 44, 45, 46, 47, 48, 49, 50, 51, 52, 53, 54, 55] (by decide +kernel) (by decide +kernel)
set_option maxRecDepth 20000 in
theorem gX5_runs_X5_have : GoodIn wsX5_runs (wsV RX5 58 RX5 yX5_have wsX5_have) := goodIn_app (goodIn_of _ (by decide +kernel)) ggX5_runs_X5_have
set_option maxRecDepth 20000 in
theorem ggX5_runs_X5_mayRun : GoodIn wsX5_runs wsX5_mayRun := goodIn_r _ [16, 17, 18, 19, 20, 6, 21, 22, 23, 24, 25, 26, 27, 8, 9, 10, 11, 12, 35, 36, 37, 38, 39, 40, 41, 42, 43, 44, 45, 46, 47, 48, 49, 50, 51, 52, 53, 54, 55] (by decide +kernel) (by decide +kernel)
set_option maxRecDepth 20000 in
theorem gX5_runs_X5_mayRun : GoodIn wsX5_runs (wsV RX5 167 RX5 yX5_mayRun wsX5_mayRun) := goodIn_app (goodIn_of _ (by decide +kernel)) ggX5_runs_X5_mayRun
set_option maxRecDepth 20000 in
theorem ggX5_runs_X5_begin : GoodIn wsX5_runs wsX5_begin := goodIn_r _ [31, 32, 17, 22, 33, 23, 34, 18, 19, 20, 6, 21, 24, 25, 26, 27, 35, 36, 37, 38, 39, 40, 41, 42, 43, 44, 45, 46, 47, 48, 49, 50, 51, 52, 53, 54, 55] (by decide +kernel) (by decide +kernel)
set_option maxRecDepth 20000 in
theorem gX5_runs_X5_begin : GoodIn wsX5_runs (wsV RX5 170 RX5 yX5_begin wsX5_begin) := goodIn_app (goodIn_of _ (by decide +kernel)) ggX5_runs_X5_begin
theorem dX5_runs_0 : decode cX5_runs 0 = .ok (.aload_n 0, 1) := by decide +kernel
theorem dX5_runs_1 : decode cX5_runs 1 = .ok (.iconst 1, 1) := by decide +kernel
theorem dX5_runs_2 : decode cX5_runs 2 = .ok (.invokevirtual 58, 3) := by decide +kernel
theorem dX5_runs_5 : decode cX5_runs 5 = .ok (.ifCond .ne 5, 3) := by decide +kernel
theorem dX5_runs_8 : decode cX5_runs 8 = .ok (.iconst 0, 1) := by decide +kernel
theorem dX5_runs_9 : decode cX5_runs 9 = .ok (.ireturn, 1) := by decide +kernel
theorem dX5_runs_10 : decode cX5_runs 10 = .ok (.aload_n 0, 1) := by decide +kernel
theorem dX5_runs_11 : decode cX5_runs 11 = .ok (.getfield 17, 3) := by decide +kernel
theorem dX5_runs_14 : decode cX5_runs 14 = .ok (.aload_n 0, 1) := by decide +kernel
theorem dX5_runs_15 : decode cX5_runs 15 = .ok (.getfield 51, 3) := by decide +kernel
theorem dX5_runs_18 : decode cX5_runs 18 = .ok (.iconst 1, 1) := by decide +kernel
theorem dX5_runs_19 : decode cX5_runs 19 = .ok (.isub, 1) := by decide +kernel
theorem dX5_runs_20 : decode cX5_runs 20 = .ok (.iaload, 1) := by decide +kernel
theorem dX5_runs_21 : decode cX5_runs 21 = .ok (.ifCond .lt 5, 3) := by decide +kernel
theorem dX5_runs_24 : decode cX5_runs 24 = .ok (.iconst 1, 1) := by decide +kernel
theorem dX5_runs_25 : decode cX5_runs 25 = .ok (.ireturn, 1) := by decide +kernel
theorem dX5_runs_26 : decode cX5_runs 26 = .ok (.aload_n 0, 1) := by decide +kernel
theorem dX5_runs_27 : decode cX5_runs 27 = .ok (.iload_n 1, 1) := by decide +kernel
theorem dX5_runs_28 : decode cX5_runs 28 = .ok (.invokevirtual 167, 3) := by decide +kernel
theorem dX5_runs_31 : decode cX5_runs 31 = .ok (.ifCond .ne 5, 3) := by decide +kernel
theorem dX5_runs_34 : decode cX5_runs 34 = .ok (.iconst 0, 1) := by decide +kernel
theorem dX5_runs_35 : decode cX5_runs 35 = .ok (.ireturn, 1) := by decide +kernel
theorem dX5_runs_36 : decode cX5_runs 36 = .ok (.aload_n 0, 1) := by decide +kernel
theorem dX5_runs_37 : decode cX5_runs 37 = .ok (.dup, 1) := by decide +kernel
theorem dX5_runs_38 : decode cX5_runs 38 = .ok (.getfield 51, 3) := by decide +kernel
theorem dX5_runs_41 : decode cX5_runs 41 = .ok (.iconst 1, 1) := by decide +kernel
theorem dX5_runs_42 : decode cX5_runs 42 = .ok (.isub, 1) := by decide +kernel
theorem dX5_runs_43 : decode cX5_runs 43 = .ok (.putfield 51, 3) := by decide +kernel
theorem dX5_runs_46 : decode cX5_runs 46 = .ok (.aload_n 0, 1) := by decide +kernel
theorem dX5_runs_47 : decode cX5_runs 47 = .ok (.aload_n 0, 1) := by decide +kernel
theorem dX5_runs_48 : decode cX5_runs 48 = .ok (.getfield 51, 3) := by decide +kernel
theorem dX5_runs_51 : decode cX5_runs 51 = .ok (.iload_n 1, 1) := by decide +kernel
theorem dX5_runs_52 : decode cX5_runs 52 = .ok (.invokevirtual 170, 3) := by decide +kernel
theorem dX5_runs_55 : decode cX5_runs 55 = .ok (.iconst 1, 1) := by decide +kernel
theorem dX5_runs_56 : decode cX5_runs 56 = .ok (.ireturn, 1) := by decide +kernel
theorem dX5_isOne_0 : decode cX5_isOne 0 = .ok (.iload_n 0, 1) := by decide +kernel
theorem dX5_isOne_1 : decode cX5_isOne 1 = .ok (.iload_n 1, 1) := by decide +kernel
theorem dX5_isOne_2 : decode cX5_isOne 2 = .ok (.if_icmp .eq 19, 3) := by decide +kernel
theorem dX5_isOne_5 : decode cX5_isOne 5 = .ok (.iload_n 0, 1) := by decide +kernel
theorem dX5_isOne_6 : decode cX5_isOne 6 = .ok (.iload_n 2, 1) := by decide +kernel
theorem dX5_isOne_7 : decode cX5_isOne 7 = .ok (.if_icmp .eq 14, 3) := by decide +kernel
theorem dX5_isOne_10 : decode cX5_isOne 10 = .ok (.iload_n 0, 1) := by decide +kernel
theorem dX5_isOne_11 : decode cX5_isOne 11 = .ok (.iload_n 3, 1) := by decide +kernel
theorem dX5_isOne_12 : decode cX5_isOne 12 = .ok (.if_icmp .eq 9, 3) := by decide +kernel
theorem dX5_isOne_15 : decode cX5_isOne 15 = .ok (.iload_n 0, 1) := by decide +kernel
theorem dX5_isOne_16 : decode cX5_isOne 16 = .ok (.iload 4, 2) := by decide +kernel
theorem dX5_isOne_18 : decode cX5_isOne 18 = .ok (.if_icmp .ne 7, 3) := by decide +kernel
theorem dX5_isOne_21 : decode cX5_isOne 21 = .ok (.iconst 1, 1) := by decide +kernel
theorem dX5_isOne_22 : decode cX5_isOne 22 = .ok (.goto 4, 3) := by decide +kernel
theorem dX5_isOne_25 : decode cX5_isOne 25 = .ok (.iconst 0, 1) := by decide +kernel
theorem dX5_isOne_26 : decode cX5_isOne 26 = .ok (.ireturn, 1) := by decide +kernel
set_option maxRecDepth 20000 in
theorem ggX5_command_X5_charAt : GoodIn wsX5_command wsX5_charAt := goodIn_r _ [12, 13, 14, 158, 159, 160, 161, 162, 163, 164, 165, 166, 167, 168, 169, 170, 171, 172, 173, 174, 175, 176, 177, 178] (by decide +kernel) (by decide +kernel)
set_option maxRecDepth 20000 in
theorem gX5_command_X5_charAt : GoodIn wsX5_command (wsV RX5 120 RX5 yX5_charAt wsX5_charAt) := goodIn_app (goodIn_of _ (by decide +kernel)) ggX5_command_X5_charAt
set_option maxRecDepth 20000 in
theorem ggX5_command_X5_within : GoodIn wsX5_command wsX5_within := goodIn_r _ [17] (by decide +kernel) (by decide +kernel)
set_option maxRecDepth 20000 in
theorem gX5_command_X5_within : GoodIn wsX5_command (va_wsS RX5 127 yX5_within wsX5_within) := goodIn_app (goodIn_of _ (by decide +kernel)) ggX5_command_X5_within
set_option maxRecDepth 20000 in
theorem ggX5_command_X5_digits : GoodIn wsX5_command wsX5_digits := goodIn_r _ [21, 1, 2, 3, 22, 6, 8, 9, 10, 11, 12, 13, 14, 15, 16, 17, 23, 24, 25, 26, 27, 28, 29, 30, 31, 32, 33, 34, 35, 36, 37, 38, 158, 159, 160, 161, 162, 163, 164, 165, 166, 167, 168, 169, 170, 171, 172, 173, 174, 175, 176, 177, 178] (by decide +kernel) (by decide +kernel)
set_option maxRecDepth 20000 in
theorem gX5_command_X5_digits : GoodIn wsX5_command (wsV RX5 175 RX5 yX5_digits wsX5_digits) := goodIn_app (goodIn_of _ (by decide +kernel)) ggX5_command_X5_digits
set_option maxRecDepth 20000 in
theorem ggX5_command_X5_brackets : GoodIn wsX5_command wsX5_brackets := goodIn_r _ [42, 1, 13, 14, 43, 32, 6, 23, 24, 25, 11, 26, 27, 28, 29, 30, 31, 33, 34, 35, 36, 37, 38, 158, 159, 160, 161, 162, 163, 164, 165, 166, 167, 168, 169, 170, 171, 172, 173, 174, 175, 176, 177, 178] (by decide +kernel) (by decide +kernel)
set_option maxRecDepth 20000 in
theorem gX5_command_X5_brackets : GoodIn wsX5_command (wsV RX5 178 RX5 yX5_brackets wsX5_brackets) := goodIn_app (goodIn_of _ (by decide +kernel)) ggX5_command_X5_brackets
set_option maxRecDepth 20000 in
theorem ggX5_command_X5_isOne : GoodIn wsX5_command wsX5_isOne := goodIn_r _ [46] (by decide +kernel) (by decide +kernel)
set_option maxRecDepth 20000 in
theorem gX5_command_X5_isOne : GoodIn wsX5_command (va_wsS RX5 181 yX5_isOne wsX5_isOne) := goodIn_app (goodIn_of _ (by decide +kernel)) ggX5_command_X5_isOne
set_option maxRecDepth 20000 in
theorem ggX5_command_X5_fail : GoodIn wsX5_command wsX5_fail := goodIn_r _ [26, 27, 158, 159, 160, 161, 162, 163, 164, 165, 166, 167, 168, 169, 170, 171, 172, 173, 174, 175, 176, 177, 178] (by decide +kernel) (by decide +kernel)
set_option maxRecDepth 20000 in
theorem gX5_command_X5_fail : GoodIn wsX5_command (wsV RX5 54 RX5 yX5_fail wsX5_fail) := goodIn_app (goodIn_of _ (by decide +kernel)) ggX5_command_X5_fail
set_option maxRecDepth 20000 in
theorem ggX5_command_X5_register : GoodIn wsX5_command wsX5_register := goodIn_r _ [49] (by decide +kernel) (by decide +kernel)
set_option maxRecDepth 20000 in
theorem gX5_command_X5_register : GoodIn wsX5_command (va_wsS RX5 189 yX5_register wsX5_register) := goodIn_app (goodIn_of _ (by decide +kernel)) ggX5_command_X5_register
set_option maxRecDepth 20000 in
theorem ggX5_command_X5_stores : GoodIn wsX5_command wsX5_stores := goodIn_r _ [53, 54, 32, 55, 56, 57, 11, 58, 23, 24, 25, 26, 27, 59, 60, 61, 62, 63, 64, 65, 66, 37, 38, 43, 28, 29, 30, 31, 158, 159, 160, 161, 162, 163, 164, 165, 166, 167, 168, 169, 170, 171, 172, 173, 174, 175, 176, 177, 178] (by decide +kernel) (by decide +kernel)
set_option maxRecDepth 20000 in
theorem gX5_command_X5_stores : GoodIn wsX5_command (wsV RX5 192 RX5 yX5_stores wsX5_stores) := goodIn_app (goodIn_of _ (by decide +kernel)) ggX5_command_X5_stores
set_option maxRecDepth 20000 in
theorem ggX5_command_X5_tests : GoodIn wsX5_command wsX5_tests := goodIn_r _ [70, 71, 32, 54, 38, 72, 73, 74, 11, 75, 55, 56, 57, 58, 23, 24, 25, 26, 27, 76, 77, 78, 79, 37, 80, 81, 82, 83, 84, 85, 86, 87, 88, 89, 22, 59, 60, 61, 62, 90, 91, 92, 93, 1, 94, 95, 96, 97, 13, 14, 98, 99, 100, 101, 102, 103, 104, 105, 6, 43, 158, 159, 160, 161, 162, 163, 164, 165, 166, 167, 168, 169, 170, 171, 172, 173, 174, 175, 176, 177, 178] rfl (by decide +kernel)
set_option maxRecDepth 20000 in
theorem gX5_command_X5_tests : GoodIn wsX5_command (wsV RX5 196 RX5 yX5_tests wsX5_tests) := goodIn_app (goodIn_of _ (by decide +kernel)) ggX5_command_X5_tests
set_option maxRecDepth 20000 in
theorem ggX5_command_X5_runs : GoodIn wsX5_command wsX5_runs := goodIn_r _ [109, 38, 32, 55, 56, 57, 11, 58, 23, 24, 25, 26, 27, 90, 91, 92, 93, 1, 94, 95, 96, 97, 13, 14, 98, 99, 100, 101, 102, 103, 104, 105, 6, 37, 43, 158, 159, 160, 161, 162, 163, 164, 165, 166, 167, 168, 169, 170, 171, 172, 173, 174, 175, 176, 177, 178] (by decide +kernel) (by decide +kernel)
set_option maxRecDepth 20000 in
theorem gX5_command_X5_runs : GoodIn wsX5_command (wsV RX5 200 RX5 yX5_runs wsX5_runs) := goodIn_app (goodIn_of _ (by decide +kernel)) ggX5_command_X5_runs
set_option maxRecDepth 20000 in
theorem ggX5_command_X5_calculates : GoodIn wsX5_command wsX5_calculates := goodIn_r _ [113, 37, 32, 38, 114, 115, 71, 116, 117, 118, 119, 11, 120, 27, 72, 73, 74, 75, 55, 56, 57, 58, 23, 24, 25, 26, 81, 82, 83, 84, 85, 86, 87, 88, 89, 22, 121, 122, 123, 124, 125, 126, 127, 128, 129, 130, 131, 132, 133, 134, 135, 136, 137, 138, 139, 140, 141, 142, 143, 144, 145, 146, 147, 148, 149, 150, 33, 34, 35, 36, 15, 16, 17, 158, 159, 160, 161, 162, 163, 164, 165, 166, 167, 168, 169, 170, 171, 172, 173, 174, 175, 176, 177, 178] rfl (by decide +kernel)
set_option maxRecDepth 20000 in
theorem gX5_command_X5_calculates : GoodIn wsX5_command (wsV RX5 207 RX5 yX5_calculates wsX5_calculates) := goodIn_app (goodIn_of _ (by decide +kernel)) ggX5_command_X5_calculates
set_option maxRecDepth 20000 in
theorem ggX5_command_X5_moves : GoodIn wsX5_command wsX5_moves := goodIn_r _ [154, 32, 115, 155, 156, 37, 157, 38, 28, 29, 30, 11, 31, 23, 24, 25, 26, 27, 33, 34, 35, 36, 55, 56, 57, 58, 63, 64, 65, 66, 43, 158, 159, 160, 161, 162, 163, 164, 165, 166, 167, 168, 169, 170, 171, 172, 173, 174, 175, 176, 177, 178] (by decide +kernel) (by decide +kernel)
set_option maxRecDepth 20000 in
theorem gX5_command_X5_moves : GoodIn wsX5_command (wsV RX5 210 RX5 yX5_moves wsX5_moves) := goodIn_app (goodIn_of _ (by decide +kernel)) ggX5_command_X5_moves
theorem dX5_command_0 : decode cX5_command 0 = .ok (.aload_n 0, 1) := by decide +kernel
theorem dX5_command_1 : decode cX5_command 1 = .ok (.getfield 111, 3) := by decide +kernel
theorem dX5_command_4 : decode cX5_command 4 = .ok (.iconst 1, 1) := by decide +kernel
theorem dX5_command_5 : decode cX5_command 5 = .ok (.isub, 1) := by decide +kernel
theorem dX5_command_6 : decode cX5_command 6 = .ok (.istore_n 2, 1) := by decide +kernel
theorem dX5_command_7 : decode cX5_command 7 = .ok (.aload_n 0, 1) := by decide +kernel
theorem dX5_command_8 : decode cX5_command 8 = .ok (.iload_n 2, 1) := by decide +kernel
theorem dX5_command_9 : decode cX5_command 9 = .ok (.iload_n 1, 1) := by decide +kernel
theorem dX5_command_10 : decode cX5_command 10 = .ok (.invokevirtual 120, 3) := by decide +kernel
theorem dX5_command_13 : decode cX5_command 13 = .ok (.istore_n 3, 1) := by decide +kernel
theorem dX5_command_14 : decode cX5_command 14 = .ok (.aload_n 0, 1) := by decide +kernel
theorem dX5_command_15 : decode cX5_command 15 = .ok (.iload_n 2, 1) := by decide +kernel
theorem dX5_command_16 : decode cX5_command 16 = .ok (.iload_n 1, 1) := by decide +kernel
theorem dX5_command_17 : decode cX5_command 17 = .ok (.iconst 1, 1) := by decide +kernel
theorem dX5_command_18 : decode cX5_command 18 = .ok (.iadd, 1) := by decide +kernel
theorem dX5_command_19 : decode cX5_command 19 = .ok (.invokevirtual 120, 3) := by decide +kernel
theorem dX5_command_22 : decode cX5_command 22 = .ok (.istore 4, 2) := by decide +kernel
theorem dX5_command_24 : decode cX5_command 24 = .ok (.iload_n 3, 1) := by decide +kernel
theorem dX5_command_25 : decode cX5_command 25 = .ok (.i2l, 1) := by decide +kernel
theorem dX5_command_26 : decode cX5_command 26 = .ok (.ldc2_w 123, 3) := by decide +kernel
theorem dX5_command_29 : decode cX5_command 29 = .ok (.ldc2_w 125, 3) := by decide +kernel
theorem dX5_command_32 : decode cX5_command 32 = .ok (.invokestatic 127, 3) := by decide +kernel
theorem dX5_command_35 : decode cX5_command 35 = .ok (.ifCond .ne 15, 3) := by decide +kernel
theorem dX5_command_38 : decode cX5_command 38 = .ok (.iload_n 3, 1) := by decide +kernel
theorem dX5_command_39 : decode cX5_command 39 = .ok (.bipush 95, 2) := by decide +kernel
theorem dX5_command_41 : decode cX5_command 41 = .ok (.if_icmp .eq 9, 3) := by decide +kernel
theorem dX5_command_44 : decode cX5_command 44 = .ok (.iload_n 3, 1) := by decide +kernel
theorem dX5_command_45 : decode cX5_command 45 = .ok (.bipush 46, 2) := by decide +kernel
theorem dX5_command_47 : decode cX5_command 47 = .ok (.if_icmp .ne 9, 3) := by decide +kernel
theorem dX5_command_50 : decode cX5_command 50 = .ok (.aload_n 0, 1) := by decide +kernel
theorem dX5_command_51 : decode cX5_command 51 = .ok (.iload_n 1, 1) := by decide +kernel
theorem dX5_command_52 : decode cX5_command 52 = .ok (.invokevirtual 175, 3) := by decide +kernel
theorem dX5_command_55 : decode cX5_command 55 = .ok (.ireturn, 1) := by decide +kernel
theorem dX5_command_56 : decode cX5_command 56 = .ok (.iload_n 3, 1) := by decide +kernel
theorem dX5_command_57 : decode cX5_command 57 = .ok (.bipush 91, 2) := by decide +kernel
theorem dX5_command_59 : decode cX5_command 59 = .ok (.if_icmp .ne 9, 3) := by decide +kernel
theorem dX5_command_62 : decode cX5_command 62 = .ok (.aload_n 0, 1) := by decide +kernel
theorem dX5_command_63 : decode cX5_command 63 = .ok (.iload_n 1, 1) := by decide +kernel
theorem dX5_command_64 : decode cX5_command 64 = .ok (.invokevirtual 178, 3) := by decide +kernel
theorem dX5_command_67 : decode cX5_command 67 = .ok (.ireturn, 1) := by decide +kernel
theorem dX5_command_68 : decode cX5_command 68 = .ok (.iload_n 3, 1) := by decide +kernel
theorem dX5_command_69 : decode cX5_command 69 = .ok (.bipush 115, 2) := by decide +kernel
theorem dX5_command_71 : decode cX5_command 71 = .ok (.bipush 108, 2) := by decide +kernel
theorem dX5_command_73 : decode cX5_command 73 = .ok (.bipush 83, 2) := by decide +kernel
theorem dX5_command_75 : decode cX5_command 75 = .ok (.bipush 76, 2) := by decide +kernel
theorem dX5_command_77 : decode cX5_command 77 = .ok (.invokestatic 181, 3) := by decide +kernel
theorem dX5_command_80 : decode cX5_command 80 = .ok (.ifCond .ne 18, 3) := by decide +kernel
theorem dX5_command_83 : decode cX5_command 83 = .ok (.iload_n 3, 1) := by decide +kernel
theorem dX5_command_84 : decode cX5_command 84 = .ok (.bipush 60, 2) := by decide +kernel
theorem dX5_command_86 : decode cX5_command 86 = .ok (.bipush 62, 2) := by decide +kernel
theorem dX5_command_88 : decode cX5_command 88 = .ok (.bipush 61, 2) := by decide +kernel
theorem dX5_command_90 : decode cX5_command 90 = .ok (.bipush 60, 2) := by decide +kernel
theorem dX5_command_92 : decode cX5_command 92 = .ok (.invokestatic 181, 3) := by decide +kernel
theorem dX5_command_95 : decode cX5_command 95 = .ok (.ifCond .eq 7, 3) := by decide +kernel
theorem dX5_command_98 : decode cX5_command 98 = .ok (.iconst 1, 1) := by decide +kernel
theorem dX5_command_99 : decode cX5_command 99 = .ok (.goto 4, 3) := by decide +kernel
theorem dX5_command_102 : decode cX5_command 102 = .ok (.iconst 0, 1) := by decide +kernel
theorem dX5_command_103 : decode cX5_command 103 = .ok (.istore 5, 2) := by decide +kernel
theorem dX5_command_105 : decode cX5_command 105 = .ok (.iload 5, 2) := by decide +kernel
theorem dX5_command_107 : decode cX5_command 107 = .ok (.ifCond .eq 24, 3) := by decide +kernel
theorem dX5_command_110 : decode cX5_command 110 = .ok (.iload 4, 2) := by decide +kernel
theorem dX5_command_112 : decode cX5_command 112 = .ok (.i2l, 1) := by decide +kernel
theorem dX5_command_113 : decode cX5_command 113 = .ok (.ldc2_w 185, 3) := by decide +kernel
theorem dX5_command_116 : decode cX5_command 116 = .ok (.ldc2_w 187, 3) := by decide +kernel
theorem dX5_command_119 : decode cX5_command 119 = .ok (.invokestatic 127, 3) := by decide +kernel
theorem dX5_command_122 : decode cX5_command 122 = .ok (.ifCond .ne 9, 3) := by decide +kernel
theorem dX5_command_125 : decode cX5_command 125 = .ok (.aload_n 0, 1) := by decide +kernel
theorem dX5_command_126 : decode cX5_command 126 = .ok (.iconst 1, 1) := by decide +kernel
theorem dX5_command_127 : decode cX5_command 127 = .ok (.invokevirtual 54, 3) := by decide +kernel
theorem dX5_command_130 : decode cX5_command 130 = .ok (.ireturn, 1) := by decide +kernel
theorem dX5_command_131 : decode cX5_command 131 = .ok (.iload 5, 2) := by decide +kernel
theorem dX5_command_133 : decode cX5_command 133 = .ok (.ifCond .eq 9, 3) := by decide +kernel
theorem dX5_command_136 : decode cX5_command 136 = .ok (.iload_n 1, 1) := by decide +kernel
theorem dX5_command_137 : decode cX5_command 137 = .ok (.iconst 2, 1) := by decide +kernel
theorem dX5_command_138 : decode cX5_command 138 = .ok (.iadd, 1) := by decide +kernel
theorem dX5_command_139 : decode cX5_command 139 = .ok (.goto 6, 3) := by decide +kernel
theorem dX5_command_142 : decode cX5_command 142 = .ok (.iload_n 1, 1) := by decide +kernel
theorem dX5_command_143 : decode cX5_command 143 = .ok (.iconst 1, 1) := by decide +kernel
theorem dX5_command_144 : decode cX5_command 144 = .ok (.iadd, 1) := by decide +kernel
theorem dX5_command_145 : decode cX5_command 145 = .ok (.istore 6, 2) := by decide +kernel
theorem dX5_command_147 : decode cX5_command 147 = .ok (.aload_n 0, 1) := by decide +kernel
theorem dX5_command_148 : decode cX5_command 148 = .ok (.getfield 32, 3) := by decide +kernel
theorem dX5_command_151 : decode cX5_command 151 = .ok (.iload_n 2, 1) := by decide +kernel
theorem dX5_command_152 : decode cX5_command 152 = .ok (.iload 6, 2) := by decide +kernel
theorem dX5_command_154 : decode cX5_command 154 = .ok (.iastore, 1) := by decide +kernel
theorem dX5_command_155 : decode cX5_command 155 = .ok (.iload_n 3, 1) := by decide +kernel
theorem dX5_command_156 : decode cX5_command 156 = .ok (.bipush 115, 2) := by decide +kernel
theorem dX5_command_158 : decode cX5_command 158 = .ok (.bipush 108, 2) := by decide +kernel
theorem dX5_command_160 : decode cX5_command 160 = .ok (.bipush 83, 2) := by decide +kernel
theorem dX5_command_162 : decode cX5_command 162 = .ok (.bipush 76, 2) := by decide +kernel
theorem dX5_command_164 : decode cX5_command 164 = .ok (.invokestatic 181, 3) := by decide +kernel
theorem dX5_command_167 : decode cX5_command 167 = .ok (.ifCond .eq 14, 3) := by decide +kernel
theorem dX5_command_170 : decode cX5_command 170 = .ok (.aload_n 0, 1) := by decide +kernel
theorem dX5_command_171 : decode cX5_command 171 = .ok (.iload_n 3, 1) := by decide +kernel
theorem dX5_command_172 : decode cX5_command 172 = .ok (.iload 4, 2) := by decide +kernel
theorem dX5_command_174 : decode cX5_command 174 = .ok (.invokestatic 189, 3) := by decide +kernel
theorem dX5_command_177 : decode cX5_command 177 = .ok (.invokevirtual 192, 3) := by decide +kernel
theorem dX5_command_180 : decode cX5_command 180 = .ok (.ireturn, 1) := by decide +kernel
theorem dX5_command_181 : decode cX5_command 181 = .ok (.iload 5, 2) := by decide +kernel
theorem dX5_command_183 : decode cX5_command 183 = .ok (.ifCond .eq 16, 3) := by decide +kernel
theorem dX5_command_186 : decode cX5_command 186 = .ok (.aload_n 0, 1) := by decide +kernel
theorem dX5_command_187 : decode cX5_command 187 = .ok (.iload_n 3, 1) := by decide +kernel
theorem dX5_command_188 : decode cX5_command 188 = .ok (.iload 4, 2) := by decide +kernel
theorem dX5_command_190 : decode cX5_command 190 = .ok (.invokestatic 189, 3) := by decide +kernel
theorem dX5_command_193 : decode cX5_command 193 = .ok (.iload 6, 2) := by decide +kernel
theorem dX5_command_195 : decode cX5_command 195 = .ok (.invokevirtual 196, 3) := by decide +kernel
theorem dX5_command_198 : decode cX5_command 198 = .ok (.ireturn, 1) := by decide +kernel
theorem dX5_command_199 : decode cX5_command 199 = .ok (.iload_n 3, 1) := by decide +kernel
theorem dX5_command_200 : decode cX5_command 200 = .ok (.bipush 120, 2) := by decide +kernel
theorem dX5_command_202 : decode cX5_command 202 = .ok (.if_icmp .ne 10, 3) := by decide +kernel
theorem dX5_command_205 : decode cX5_command 205 = .ok (.aload_n 0, 1) := by decide +kernel
theorem dX5_command_206 : decode cX5_command 206 = .ok (.iload 6, 2) := by decide +kernel
theorem dX5_command_208 : decode cX5_command 208 = .ok (.invokevirtual 200, 3) := by decide +kernel
theorem dX5_command_211 : decode cX5_command 211 = .ok (.ireturn, 1) := by decide +kernel
theorem dX5_command_212 : decode cX5_command 212 = .ok (.iload_n 3, 1) := by decide +kernel
theorem dX5_command_213 : decode cX5_command 213 = .ok (.bipush 113, 2) := by decide +kernel
theorem dX5_command_215 : decode cX5_command 215 = .ok (.if_icmp .ne 10, 3) := by decide +kernel
theorem dX5_command_218 : decode cX5_command 218 = .ok (.aload_n 0, 1) := by decide +kernel
theorem dX5_command_219 : decode cX5_command 219 = .ok (.iconst 1, 1) := by decide +kernel
theorem dX5_command_220 : decode cX5_command 220 = .ok (.putfield 203, 3) := by decide +kernel
theorem dX5_command_223 : decode cX5_command 223 = .ok (.iconst 1, 1) := by decide +kernel
theorem dX5_command_224 : decode cX5_command 224 = .ok (.ireturn, 1) := by decide +kernel
theorem dX5_command_225 : decode cX5_command 225 = .ok (.iload_n 3, 1) := by decide +kernel
theorem dX5_command_226 : decode cX5_command 226 = .ok (.bipush 43, 2) := by decide +kernel
theorem dX5_command_228 : decode cX5_command 228 = .ok (.bipush 45, 2) := by decide +kernel
theorem dX5_command_230 : decode cX5_command 230 = .ok (.bipush 42, 2) := by decide +kernel
theorem dX5_command_232 : decode cX5_command 232 = .ok (.bipush 47, 2) := by decide +kernel
theorem dX5_command_234 : decode cX5_command 234 = .ok (.invokestatic 181, 3) := by decide +kernel
theorem dX5_command_237 : decode cX5_command 237 = .ok (.ifCond .ne 24, 3) := by decide +kernel
theorem dX5_command_240 : decode cX5_command 240 = .ok (.iload_n 3, 1) := by decide +kernel
theorem dX5_command_241 : decode cX5_command 241 = .ok (.bipush 37, 2) := by decide +kernel
theorem dX5_command_243 : decode cX5_command 243 = .ok (.bipush 118, 2) := by decide +kernel
theorem dX5_command_245 : decode cX5_command 245 = .ok (.bipush 126, 2) := by decide +kernel
theorem dX5_command_247 : decode cX5_command 247 = .ok (.bipush 107, 2) := by decide +kernel
theorem dX5_command_249 : decode cX5_command 249 = .ok (.invokestatic 181, 3) := by decide +kernel
theorem dX5_command_252 : decode cX5_command 252 = .ok (.ifCond .ne 9, 3) := by decide +kernel
theorem dX5_command_255 : decode cX5_command 255 = .ok (.iload_n 3, 1) := by decide +kernel
theorem dX5_command_256 : decode cX5_command 256 = .ok (.bipush 88, 2) := by decide +kernel
theorem dX5_command_258 : decode cX5_command 258 = .ok (.if_icmp .ne 9, 3) := by decide +kernel
theorem dX5_command_261 : decode cX5_command 261 = .ok (.aload_n 0, 1) := by decide +kernel
theorem dX5_command_262 : decode cX5_command 262 = .ok (.iload_n 3, 1) := by decide +kernel
theorem dX5_command_263 : decode cX5_command 263 = .ok (.invokevirtual 207, 3) := by decide +kernel
theorem dX5_command_266 : decode cX5_command 266 = .ok (.ireturn, 1) := by decide +kernel
theorem dX5_command_267 : decode cX5_command 267 = .ok (.iload_n 3, 1) := by decide +kernel
theorem dX5_command_268 : decode cX5_command 268 = .ok (.bipush 100, 2) := by decide +kernel
theorem dX5_command_270 : decode cX5_command 270 = .ok (.bipush 114, 2) := by decide +kernel
theorem dX5_command_272 : decode cX5_command 272 = .ok (.bipush 68, 2) := by decide +kernel
theorem dX5_command_274 : decode cX5_command 274 = .ok (.bipush 99, 2) := by decide +kernel
theorem dX5_command_276 : decode cX5_command 276 = .ok (.invokestatic 181, 3) := by decide +kernel
theorem dX5_command_279 : decode cX5_command 279 = .ok (.ifCond .ne 18, 3) := by decide +kernel
theorem dX5_command_282 : decode cX5_command 282 = .ok (.iload_n 3, 1) := by decide +kernel
theorem dX5_command_283 : decode cX5_command 283 = .ok (.bipush 122, 2) := by decide +kernel
theorem dX5_command_285 : decode cX5_command 285 = .ok (.bipush 75, 2) := by decide +kernel
theorem dX5_command_287 : decode cX5_command 287 = .ok (.bipush 112, 2) := by decide +kernel
theorem dX5_command_289 : decode cX5_command 289 = .ok (.bipush 112, 2) := by decide +kernel
theorem dX5_command_291 : decode cX5_command 291 = .ok (.invokestatic 181, 3) := by decide +kernel
theorem dX5_command_294 : decode cX5_command 294 = .ok (.ifCond .eq 9, 3) := by decide +kernel
theorem dX5_command_297 : decode cX5_command 297 = .ok (.aload_n 0, 1) := by decide +kernel
theorem dX5_command_298 : decode cX5_command 298 = .ok (.iload_n 3, 1) := by decide +kernel
theorem dX5_command_299 : decode cX5_command 299 = .ok (.invokevirtual 210, 3) := by decide +kernel
theorem dX5_command_302 : decode cX5_command 302 = .ok (.ireturn, 1) := by decide +kernel
theorem dX5_command_303 : decode cX5_command 303 = .ok (.aload_n 0, 1) := by decide +kernel
theorem dX5_command_304 : decode cX5_command 304 = .ok (.iconst 1, 1) := by decide +kernel
theorem dX5_command_305 : decode cX5_command 305 = .ok (.invokevirtual 54, 3) := by decide +kernel
theorem dX5_command_308 : decode cX5_command 308 = .ok (.ireturn, 1) := by decide +kernel
set_option maxRecDepth 20000 in
theorem ggX5_run_X5_within : GoodIn wsX5_run wsX5_within := goodIn_r _ [17] (by decide +kernel) (by decide +kernel)
set_option maxRecDepth 20000 in
theorem gX5_run_X5_within : GoodIn wsX5_run (va_wsS RX5 127 yX5_within wsX5_within) := goodIn_app (goodIn_of _ (by decide +kernel)) ggX5_run_X5_within
set_option maxRecDepth 20000 in
theorem ggX5_run_X5_isNothing : GoodIn wsX5_run wsX5_isNothing := goodIn_r _ [21] (by decide +kernel) (by decide +kernel)
set_option maxRecDepth 20000 in
theorem gX5_run_X5_isNothing : GoodIn wsX5_run (wsV RX5 114 RX5 yX5_isNothing wsX5_isNothing) := goodIn_app (goodIn_of _ (by decide +kernel)) ggX5_run_X5_isNothing
set_option maxRecDepth 20000 in
theorem ggX5_run_X5_command : GoodIn wsX5_run wsX5_command := goodIn_r _ [25, 7, 26, 27, 28, 29, 10, 6, 30, 31, 32, 16, 33, 8, 11, 14, 15, 17, 34, 35, 36, 37, 38, 39, 40, 41, 42, 5, 43, 44, 45, 46, 47, 48, 49, 50, 51, 52, 53, 54, 55, 56, 57, 58, 59, 60, 61, 62, 63, 64, 65, 66, 67, 68, 69, 70, 71, 72, 73, 74, 75, 76, 77, 78, 79, 80, 81, 82, 83, 84, 85, 86, 87, 88, 89, 90, 91, 92, 93, 94, 95, 96, 97, 98, 99, 100, 101, 102, 103, 104, 105, 106, 107, 108, 109, 110, 111, 112, 18, 19, 20, 21, 113, 114, 115, 116, 117, 118, 119, 120, 121, 122, 123, 124, 125, 126, 127, 128, 129, 130, 131, 132, 133, 134, 135, 136, 137, 138, 139, 140, 141, 142, 143, 144, 145, 146, 147, 148, 149, 150, 151, 152, 153, 154, 155, 156, 157, 158, 159, 160, 161, 162, 163, 164, 165, 3, 166, 167, 168, 169, 170, 171, 172, 173, 174, 175, 176, 177, 178, 179, 180, 181, 182, 183, 184, 185, 186, 187, 188] rfl (by decide +kernel)
set_option maxRecDepth 20000 in
theorem gX5_run_X5_command : GoodIn wsX5_run (wsV RX5 219 RX5 yX5_command wsX5_command) := goodIn_app (goodIn_of _ (by decide +kernel)) ggX5_run_X5_command
theorem dX5_run_0 : decode cX5_run 0 = .ok (.aload_n 0, 1) := by decide +kernel
theorem dX5_run_1 : decode cX5_run 1 = .ok (.iconst 1, 1) := by decide +kernel
theorem dX5_run_2 : decode cX5_run 2 = .ok (.putfield 41, 3) := by decide +kernel
theorem dX5_run_5 : decode cX5_run 5 = .ok (.iload_n 1, 1) := by decide +kernel
theorem dX5_run_6 : decode cX5_run 6 = .ok (.i2l, 1) := by decide +kernel
theorem dX5_run_7 : decode cX5_run 7 = .ok (.lconst 0, 1) := by decide +kernel
theorem dX5_run_8 : decode cX5_run 8 = .ok (.ldc2_w 213, 3) := by decide +kernel
theorem dX5_run_11 : decode cX5_run 11 = .ok (.invokestatic 127, 3) := by decide +kernel
theorem dX5_run_14 : decode cX5_run 14 = .ok (.ifCond .ne 5, 3) := by decide +kernel
theorem dX5_run_17 : decode cX5_run 17 = .ok (.iconst 0, 1) := by decide +kernel
theorem dX5_run_18 : decode cX5_run 18 = .ok (.ireturn, 1) := by decide +kernel
theorem dX5_run_19 : decode cX5_run 19 = .ok (.aload_n 0, 1) := by decide +kernel
theorem dX5_run_20 : decode cX5_run 20 = .ok (.iconst 0, 1) := by decide +kernel
theorem dX5_run_21 : decode cX5_run 21 = .ok (.putfield 157, 3) := by decide +kernel
theorem dX5_run_24 : decode cX5_run 24 = .ok (.aload_n 0, 1) := by decide +kernel
theorem dX5_run_25 : decode cX5_run 25 = .ok (.iconst 0, 1) := by decide +kernel
theorem dX5_run_26 : decode cX5_run 26 = .ok (.putfield 215, 3) := by decide +kernel
theorem dX5_run_29 : decode cX5_run 29 = .ok (.aload_n 0, 1) := by decide +kernel
theorem dX5_run_30 : decode cX5_run 30 = .ok (.iconst 0, 1) := by decide +kernel
theorem dX5_run_31 : decode cX5_run 31 = .ok (.putfield 48, 3) := by decide +kernel
theorem dX5_run_34 : decode cX5_run 34 = .ok (.aload_n 0, 1) := by decide +kernel
theorem dX5_run_35 : decode cX5_run 35 = .ok (.iconst 0, 1) := by decide +kernel
theorem dX5_run_36 : decode cX5_run 36 = .ok (.putfield 203, 3) := by decide +kernel
theorem dX5_run_39 : decode cX5_run 39 = .ok (.aload_n 0, 1) := by decide +kernel
theorem dX5_run_40 : decode cX5_run 40 = .ok (.iconst 1, 1) := by decide +kernel
theorem dX5_run_41 : decode cX5_run 41 = .ok (.putfield 111, 3) := by decide +kernel
theorem dX5_run_44 : decode cX5_run 44 = .ok (.aload_n 0, 1) := by decide +kernel
theorem dX5_run_45 : decode cX5_run 45 = .ok (.getfield 29, 3) := by decide +kernel
theorem dX5_run_48 : decode cX5_run 48 = .ok (.iconst 0, 1) := by decide +kernel
theorem dX5_run_49 : decode cX5_run 49 = .ok (.aload_n 0, 1) := by decide +kernel
theorem dX5_run_50 : decode cX5_run 50 = .ok (.getfield 45, 3) := by decide +kernel
theorem dX5_run_53 : decode cX5_run 53 = .ok (.iastore, 1) := by decide +kernel
theorem dX5_run_54 : decode cX5_run 54 = .ok (.aload_n 0, 1) := by decide +kernel
theorem dX5_run_55 : decode cX5_run 55 = .ok (.getfield 32, 3) := by decide +kernel
theorem dX5_run_58 : decode cX5_run 58 = .ok (.iconst 0, 1) := by decide +kernel
theorem dX5_run_59 : decode cX5_run 59 = .ok (.iconst 0, 1) := by decide +kernel
theorem dX5_run_60 : decode cX5_run 60 = .ok (.iastore, 1) := by decide +kernel
theorem dX5_run_61 : decode cX5_run 61 = .ok (.iconst 0, 1) := by decide +kernel
theorem dX5_run_62 : decode cX5_run 62 = .ok (.istore_n 2, 1) := by decide +kernel
theorem dX5_run_63 : decode cX5_run 63 = .ok (.iload_n 2, 1) := by decide +kernel
theorem dX5_run_64 : decode cX5_run 64 = .ok (.aload_n 0, 1) := by decide +kernel
theorem dX5_run_65 : decode cX5_run 65 = .ok (.getfield 45, 3) := by decide +kernel
theorem dX5_run_68 : decode cX5_run 68 = .ok (.if_icmp .ge 21, 3) := by decide +kernel
theorem dX5_run_71 : decode cX5_run 71 = .ok (.aload_n 0, 1) := by decide +kernel
theorem dX5_run_72 : decode cX5_run 72 = .ok (.getfield 26, 3) := by decide +kernel
theorem dX5_run_75 : decode cX5_run 75 = .ok (.iload_n 2, 1) := by decide +kernel
theorem dX5_run_76 : decode cX5_run 76 = .ok (.aload_n 0, 1) := by decide +kernel
theorem dX5_run_77 : decode cX5_run 77 = .ok (.getfield 7, 3) := by decide +kernel
theorem dX5_run_80 : decode cX5_run 80 = .ok (.iload_n 2, 1) := by decide +kernel
theorem dX5_run_81 : decode cX5_run 81 = .ok (.iaload, 1) := by decide +kernel
theorem dX5_run_82 : decode cX5_run 82 = .ok (.iastore, 1) := by decide +kernel
theorem dX5_run_83 : decode cX5_run 83 = .ok (.iinc 2 1, 3) := by decide +kernel
theorem dX5_run_86 : decode cX5_run 86 = .ok (.goto (-23), 3) := by decide +kernel
theorem dX5_run_89 : decode cX5_run 89 = .ok (.iconst 0, 1) := by decide +kernel
theorem dX5_run_90 : decode cX5_run 90 = .ok (.istore_n 2, 1) := by decide +kernel
theorem dX5_run_91 : decode cX5_run 91 = .ok (.iload_n 2, 1) := by decide +kernel
theorem dX5_run_92 : decode cX5_run 92 = .ok (.ldc 218, 2) := by decide +kernel
theorem dX5_run_94 : decode cX5_run 94 = .ok (.if_icmp .ge 137, 3) := by decide +kernel
theorem dX5_run_97 : decode cX5_run 97 = .ok (.aload_n 0, 1) := by decide +kernel
theorem dX5_run_98 : decode cX5_run 98 = .ok (.getfield 111, 3) := by decide +kernel
theorem dX5_run_101 : decode cX5_run 101 = .ok (.ifCond .le 130, 3) := by decide +kernel
theorem dX5_run_104 : decode cX5_run 104 = .ok (.aload_n 0, 1) := by decide +kernel
theorem dX5_run_105 : decode cX5_run 105 = .ok (.getfield 203, 3) := by decide +kernel
theorem dX5_run_108 : decode cX5_run 108 = .ok (.ifCond .ne 123, 3) := by decide +kernel
theorem dX5_run_111 : decode cX5_run 111 = .ok (.aload_n 0, 1) := by decide +kernel
theorem dX5_run_112 : decode cX5_run 112 = .ok (.getfield 48, 3) := by decide +kernel
theorem dX5_run_115 : decode cX5_run 115 = .ok (.ifCond .ne 116, 3) := by decide +kernel
theorem dX5_run_118 : decode cX5_run 118 = .ok (.aload_n 0, 1) := by decide +kernel
theorem dX5_run_119 : decode cX5_run 119 = .ok (.getfield 111, 3) := by decide +kernel
theorem dX5_run_122 : decode cX5_run 122 = .ok (.iconst 1, 1) := by decide +kernel
theorem dX5_run_123 : decode cX5_run 123 = .ok (.isub, 1) := by decide +kernel
theorem dX5_run_124 : decode cX5_run 124 = .ok (.istore_n 3, 1) := by decide +kernel
theorem dX5_run_125 : decode cX5_run 125 = .ok (.aload_n 0, 1) := by decide +kernel
theorem dX5_run_126 : decode cX5_run 126 = .ok (.getfield 32, 3) := by decide +kernel
theorem dX5_run_129 : decode cX5_run 129 = .ok (.iload_n 3, 1) := by decide +kernel
theorem dX5_run_130 : decode cX5_run 130 = .ok (.iaload, 1) := by decide +kernel
theorem dX5_run_131 : decode cX5_run 131 = .ok (.istore 4, 2) := by decide +kernel
theorem dX5_run_133 : decode cX5_run 133 = .ok (.iload 4, 2) := by decide +kernel
theorem dX5_run_135 : decode cX5_run 135 = .ok (.aload_n 0, 1) := by decide +kernel
theorem dX5_run_136 : decode cX5_run 136 = .ok (.getfield 29, 3) := by decide +kernel
theorem dX5_run_139 : decode cX5_run 139 = .ok (.iload_n 3, 1) := by decide +kernel
theorem dX5_run_140 : decode cX5_run 140 = .ok (.iaload, 1) := by decide +kernel
theorem dX5_run_141 : decode cX5_run 141 = .ok (.if_icmp .lt 16, 3) := by decide +kernel
theorem dX5_run_144 : decode cX5_run 144 = .ok (.aload_n 0, 1) := by decide +kernel
theorem dX5_run_145 : decode cX5_run 145 = .ok (.dup, 1) := by decide +kernel
theorem dX5_run_146 : decode cX5_run 146 = .ok (.getfield 111, 3) := by decide +kernel
theorem dX5_run_149 : decode cX5_run 149 = .ok (.iconst 1, 1) := by decide +kernel
theorem dX5_run_150 : decode cX5_run 150 = .ok (.isub, 1) := by decide +kernel
theorem dX5_run_151 : decode cX5_run 151 = .ok (.putfield 111, 3) := by decide +kernel
theorem dX5_run_154 : decode cX5_run 154 = .ok (.goto 71, 3) := by decide +kernel
theorem dX5_run_157 : decode cX5_run 157 = .ok (.aload_n 0, 1) := by decide +kernel
theorem dX5_run_158 : decode cX5_run 158 = .ok (.aload_n 0, 1) := by decide +kernel
theorem dX5_run_159 : decode cX5_run 159 = .ok (.getfield 26, 3) := by decide +kernel
theorem dX5_run_162 : decode cX5_run 162 = .ok (.sipush 160, 3) := by decide +kernel
theorem dX5_run_165 : decode cX5_run 165 = .ok (.iload_n 3, 1) := by decide +kernel
theorem dX5_run_166 : decode cX5_run 166 = .ok (.imul, 1) := by decide +kernel
theorem dX5_run_167 : decode cX5_run 167 = .ok (.iload 4, 2) := by decide +kernel
theorem dX5_run_169 : decode cX5_run 169 = .ok (.iadd, 1) := by decide +kernel
theorem dX5_run_170 : decode cX5_run 170 = .ok (.iaload, 1) := by decide +kernel
theorem dX5_run_171 : decode cX5_run 171 = .ok (.invokevirtual 114, 3) := by decide +kernel
theorem dX5_run_174 : decode cX5_run 174 = .ok (.ifCond .eq 16, 3) := by decide +kernel
theorem dX5_run_177 : decode cX5_run 177 = .ok (.aload_n 0, 1) := by decide +kernel
theorem dX5_run_178 : decode cX5_run 178 = .ok (.getfield 32, 3) := by decide +kernel
theorem dX5_run_181 : decode cX5_run 181 = .ok (.iload_n 3, 1) := by decide +kernel
theorem dX5_run_182 : decode cX5_run 182 = .ok (.iload 4, 2) := by decide +kernel
theorem dX5_run_184 : decode cX5_run 184 = .ok (.iconst 1, 1) := by decide +kernel
theorem dX5_run_185 : decode cX5_run 185 = .ok (.iadd, 1) := by decide +kernel
theorem dX5_run_186 : decode cX5_run 186 = .ok (.iastore, 1) := by decide +kernel
theorem dX5_run_187 : decode cX5_run 187 = .ok (.goto 38, 3) := by decide +kernel
theorem dX5_run_190 : decode cX5_run 190 = .ok (.aload_n 0, 1) := by decide +kernel
theorem dX5_run_191 : decode cX5_run 191 = .ok (.getfield 215, 3) := by decide +kernel
theorem dX5_run_194 : decode cX5_run 194 = .ok (.iload_n 1, 1) := by decide +kernel
theorem dX5_run_195 : decode cX5_run 195 = .ok (.if_icmp .ne 11, 3) := by decide +kernel
theorem dX5_run_198 : decode cX5_run 198 = .ok (.aload_n 0, 1) := by decide +kernel
theorem dX5_run_199 : decode cX5_run 199 = .ok (.iconst 5, 1) := by decide +kernel
theorem dX5_run_200 : decode cX5_run 200 = .ok (.putfield 48, 3) := by decide +kernel
theorem dX5_run_203 : decode cX5_run 203 = .ok (.goto 22, 3) := by decide +kernel
theorem dX5_run_206 : decode cX5_run 206 = .ok (.aload_n 0, 1) := by decide +kernel
theorem dX5_run_207 : decode cX5_run 207 = .ok (.iload 4, 2) := by decide +kernel
theorem dX5_run_209 : decode cX5_run 209 = .ok (.invokevirtual 219, 3) := by decide +kernel
theorem dX5_run_212 : decode cX5_run 212 = .ok (.ifCond .eq 13, 3) := by decide +kernel
theorem dX5_run_215 : decode cX5_run 215 = .ok (.aload_n 0, 1) := by decide +kernel
theorem dX5_run_216 : decode cX5_run 216 = .ok (.dup, 1) := by decide +kernel
theorem dX5_run_217 : decode cX5_run 217 = .ok (.getfield 215, 3) := by decide +kernel
theorem dX5_run_220 : decode cX5_run 220 = .ok (.iconst 1, 1) := by decide +kernel
theorem dX5_run_221 : decode cX5_run 221 = .ok (.iadd, 1) := by decide +kernel
theorem dX5_run_222 : decode cX5_run 222 = .ok (.putfield 215, 3) := by decide +kernel
theorem dX5_run_225 : decode cX5_run 225 = .ok (.iinc 2 1, 3) := by decide +kernel
theorem dX5_run_228 : decode cX5_run 228 = .ok (.goto (-137), 3) := by decide +kernel
theorem dX5_run_231 : decode cX5_run 231 = .ok (.aload_n 0, 1) := by decide +kernel
theorem dX5_run_232 : decode cX5_run 232 = .ok (.aload_n 0, 1) := by decide +kernel
theorem dX5_run_233 : decode cX5_run 233 = .ok (.getfield 48, 3) := by decide +kernel
theorem dX5_run_236 : decode cX5_run 236 = .ok (.putfield 41, 3) := by decide +kernel
theorem dX5_run_239 : decode cX5_run 239 = .ok (.aload_n 0, 1) := by decide +kernel
theorem dX5_run_240 : decode cX5_run 240 = .ok (.getfield 48, 3) := by decide +kernel
theorem dX5_run_243 : decode cX5_run 243 = .ok (.ifCond .le 7, 3) := by decide +kernel
theorem dX5_run_246 : decode cX5_run 246 = .ok (.iconst 0, 1) := by decide +kernel
theorem dX5_run_247 : decode cX5_run 247 = .ok (.goto 7, 3) := by decide +kernel
theorem dX5_run_250 : decode cX5_run 250 = .ok (.aload_n 0, 1) := by decide +kernel
theorem dX5_run_251 : decode cX5_run 251 = .ok (.getfield 215, 3) := by decide +kernel
theorem dX5_run_254 : decode cX5_run 254 = .ok (.ireturn, 1) := by decide +kernel
theorem dX5_cost_0 : decode cX5_cost 0 = .ok (.aload_n 0, 1) := by decide +kernel
theorem dX5_cost_1 : decode cX5_cost 1 = .ok (.iconst 0, 1) := by decide +kernel
theorem dX5_cost_2 : decode cX5_cost 2 = .ok (.putfield 41, 3) := by decide +kernel
theorem dX5_cost_5 : decode cX5_cost 5 = .ok (.aload_n 0, 1) := by decide +kernel
theorem dX5_cost_6 : decode cX5_cost 6 = .ok (.getfield 215, 3) := by decide +kernel
theorem dX5_cost_9 : decode cX5_cost 9 = .ok (.ireturn, 1) := by decide +kernel
theorem dX5_prints_0 : decode cX5_prints 0 = .ok (.aload_n 0, 1) := by decide +kernel
end
section
theorem dX5_prints_1 : decode cX5_prints 1 = .ok (.iconst 0, 1) := by decide +kernel
theorem dX5_prints_2 : decode cX5_prints 2 = .ok (.putfield 41, 3) := by decide +kernel
theorem dX5_prints_5 : decode cX5_prints 5 = .ok (.aload_n 0, 1) := by decide +kernel
theorem dX5_prints_6 : decode cX5_prints 6 = .ok (.getfield 157, 3) := by decide +kernel
theorem dX5_prints_9 : decode cX5_prints 9 = .ok (.ireturn, 1) := by decide +kernel
set_option maxRecDepth 20000 in
theorem ggX5_printed_X5_within : GoodIn wsX5_printed wsX5_within := goodIn_r _ [7] (by decide +kernel) (by decide +kernel)
set_option maxRecDepth 20000 in
theorem gX5_printed_X5_within : GoodIn wsX5_printed (va_wsS RX5 127 yX5_within wsX5_within) := goodIn_app (goodIn_of _ (by decide +kernel)) ggX5_printed_X5_within
theorem dX5_printed_0 : decode cX5_printed 0 = .ok (.aload_n 0, 1) := by decide +kernel
theorem dX5_printed_1 : decode cX5_printed 1 = .ok (.iconst 0, 1) := by decide +kernel
theorem dX5_printed_2 : decode cX5_printed 2 = .ok (.putfield 41, 3) := by decide +kernel
theorem dX5_printed_5 : decode cX5_printed 5 = .ok (.iload_n 1, 1) := by decide +kernel
theorem dX5_printed_6 : decode cX5_printed 6 = .ok (.i2l, 1) := by decide +kernel
theorem dX5_printed_7 : decode cX5_printed 7 = .ok (.lconst 0, 1) := by decide +kernel
theorem dX5_printed_8 : decode cX5_printed 8 = .ok (.aload_n 0, 1) := by decide +kernel
theorem dX5_printed_9 : decode cX5_printed 9 = .ok (.getfield 157, 3) := by decide +kernel
theorem dX5_printed_12 : decode cX5_printed 12 = .ok (.iconst 1, 1) := by decide +kernel
theorem dX5_printed_13 : decode cX5_printed 13 = .ok (.isub, 1) := by decide +kernel
theorem dX5_printed_14 : decode cX5_printed 14 = .ok (.i2l, 1) := by decide +kernel
theorem dX5_printed_15 : decode cX5_printed 15 = .ok (.invokestatic 127, 3) := by decide +kernel
theorem dX5_printed_18 : decode cX5_printed 18 = .ok (.ifCond .eq 12, 3) := by decide +kernel
theorem dX5_printed_21 : decode cX5_printed 21 = .ok (.aload_n 0, 1) := by decide +kernel
theorem dX5_printed_22 : decode cX5_printed 22 = .ok (.getfield 35, 3) := by decide +kernel
theorem dX5_printed_25 : decode cX5_printed 25 = .ok (.iload_n 1, 1) := by decide +kernel
theorem dX5_printed_26 : decode cX5_printed 26 = .ok (.laload, 1) := by decide +kernel
theorem dX5_printed_27 : decode cX5_printed 27 = .ok (.goto 4, 3) := by decide +kernel
theorem dX5_printed_30 : decode cX5_printed 30 = .ok (.lconst 0, 1) := by decide +kernel
theorem dX5_printed_31 : decode cX5_printed 31 = .ok (.lreturn, 1) := by decide +kernel
set_option maxRecDepth 20000 in
theorem ggX5_places_X5_within : GoodIn wsX5_places wsX5_within := goodIn_r _ [7] (by decide +kernel) (by decide +kernel)
set_option maxRecDepth 20000 in
theorem gX5_places_X5_within : GoodIn wsX5_places (va_wsS RX5 127 yX5_within wsX5_within) := goodIn_app (goodIn_of _ (by decide +kernel)) ggX5_places_X5_within
theorem dX5_places_0 : decode cX5_places 0 = .ok (.aload_n 0, 1) := by decide +kernel
theorem dX5_places_1 : decode cX5_places 1 = .ok (.iconst 0, 1) := by decide +kernel
theorem dX5_places_2 : decode cX5_places 2 = .ok (.putfield 41, 3) := by decide +kernel
theorem dX5_places_5 : decode cX5_places 5 = .ok (.iload_n 1, 1) := by decide +kernel
theorem dX5_places_6 : decode cX5_places 6 = .ok (.i2l, 1) := by decide +kernel
theorem dX5_places_7 : decode cX5_places 7 = .ok (.lconst 0, 1) := by decide +kernel
theorem dX5_places_8 : decode cX5_places 8 = .ok (.aload_n 0, 1) := by decide +kernel
theorem dX5_places_9 : decode cX5_places 9 = .ok (.getfield 157, 3) := by decide +kernel
theorem dX5_places_12 : decode cX5_places 12 = .ok (.iconst 1, 1) := by decide +kernel
theorem dX5_places_13 : decode cX5_places 13 = .ok (.isub, 1) := by decide +kernel
theorem dX5_places_14 : decode cX5_places 14 = .ok (.i2l, 1) := by decide +kernel
theorem dX5_places_15 : decode cX5_places 15 = .ok (.invokestatic 127, 3) := by decide +kernel
theorem dX5_places_18 : decode cX5_places 18 = .ok (.ifCond .eq 12, 3) := by decide +kernel
theorem dX5_places_21 : decode cX5_places 21 = .ok (.aload_n 0, 1) := by decide +kernel
theorem dX5_places_22 : decode cX5_places 22 = .ok (.getfield 38, 3) := by decide +kernel
theorem dX5_places_25 : decode cX5_places 25 = .ok (.iload_n 1, 1) := by decide +kernel
theorem dX5_places_26 : decode cX5_places 26 = .ok (.iaload, 1) := by decide +kernel
theorem dX5_places_27 : decode cX5_places 27 = .ok (.goto 5, 3) := by decide +kernel
theorem dX5_places_30 : decode cX5_places 30 = .ok (.bipush (-2), 2) := by decide +kernel
theorem dX5_places_32 : decode cX5_places 32 = .ok (.ireturn, 1) := by decide +kernel
theorem dX5_depth_0 : decode cX5_depth 0 = .ok (.aload_n 0, 1) := by decide +kernel
theorem dX5_depth_1 : decode cX5_depth 1 = .ok (.iconst 0, 1) := by decide +kernel
theorem dX5_depth_2 : decode cX5_depth 2 = .ok (.putfield 41, 3) := by decide +kernel
theorem dX5_depth_5 : decode cX5_depth 5 = .ok (.aload_n 0, 1) := by decide +kernel
theorem dX5_depth_6 : decode cX5_depth 6 = .ok (.getfield 51, 3) := by decide +kernel
theorem dX5_depth_9 : decode cX5_depth 9 = .ok (.ireturn, 1) := by decide +kernel
set_option maxRecDepth 20000 in
theorem ggX5_item_X5_within : GoodIn wsX5_item wsX5_within := goodIn_r _ [7] (by decide +kernel) (by decide +kernel)
set_option maxRecDepth 20000 in
theorem gX5_item_X5_within : GoodIn wsX5_item (va_wsS RX5 127 yX5_within wsX5_within) := goodIn_app (goodIn_of _ (by decide +kernel)) ggX5_item_X5_within
theorem dX5_item_0 : decode cX5_item 0 = .ok (.aload_n 0, 1) := by decide +kernel
theorem dX5_item_1 : decode cX5_item 1 = .ok (.iconst 0, 1) := by decide +kernel
theorem dX5_item_2 : decode cX5_item 2 = .ok (.putfield 41, 3) := by decide +kernel
theorem dX5_item_5 : decode cX5_item 5 = .ok (.iload_n 1, 1) := by decide +kernel
theorem dX5_item_6 : decode cX5_item 6 = .ok (.i2l, 1) := by decide +kernel
theorem dX5_item_7 : decode cX5_item 7 = .ok (.lconst 0, 1) := by decide +kernel
theorem dX5_item_8 : decode cX5_item 8 = .ok (.aload_n 0, 1) := by decide +kernel
theorem dX5_item_9 : decode cX5_item 9 = .ok (.getfield 51, 3) := by decide +kernel
theorem dX5_item_12 : decode cX5_item 12 = .ok (.iconst 1, 1) := by decide +kernel
theorem dX5_item_13 : decode cX5_item 13 = .ok (.isub, 1) := by decide +kernel
theorem dX5_item_14 : decode cX5_item 14 = .ok (.i2l, 1) := by decide +kernel
theorem dX5_item_15 : decode cX5_item 15 = .ok (.invokestatic 127, 3) := by decide +kernel
theorem dX5_item_18 : decode cX5_item 18 = .ok (.ifCond .eq 19, 3) := by decide +kernel
theorem dX5_item_21 : decode cX5_item 21 = .ok (.aload_n 0, 1) := by decide +kernel
theorem dX5_item_22 : decode cX5_item 22 = .ok (.getfield 13, 3) := by decide +kernel
theorem dX5_item_25 : decode cX5_item 25 = .ok (.aload_n 0, 1) := by decide +kernel
theorem dX5_item_26 : decode cX5_item 26 = .ok (.getfield 51, 3) := by decide +kernel
theorem dX5_item_29 : decode cX5_item 29 = .ok (.iconst 1, 1) := by decide +kernel
theorem dX5_item_30 : decode cX5_item 30 = .ok (.isub, 1) := by decide +kernel
theorem dX5_item_31 : decode cX5_item 31 = .ok (.iload_n 1, 1) := by decide +kernel
theorem dX5_item_32 : decode cX5_item 32 = .ok (.isub, 1) := by decide +kernel
theorem dX5_item_33 : decode cX5_item 33 = .ok (.laload, 1) := by decide +kernel
theorem dX5_item_34 : decode cX5_item 34 = .ok (.goto 4, 3) := by decide +kernel
theorem dX5_item_37 : decode cX5_item 37 = .ok (.lconst 0, 1) := by decide +kernel
theorem dX5_item_38 : decode cX5_item 38 = .ok (.lreturn, 1) := by decide +kernel
set_option maxRecDepth 20000 in
theorem ggX5_scale_X5_within : GoodIn wsX5_scale wsX5_within := goodIn_r _ [7] (by decide +kernel) (by decide +kernel)
set_option maxRecDepth 20000 in
theorem gX5_scale_X5_within : GoodIn wsX5_scale (va_wsS RX5 127 yX5_within wsX5_within) := goodIn_app (goodIn_of _ (by decide +kernel)) ggX5_scale_X5_within
theorem dX5_scale_0 : decode cX5_scale 0 = .ok (.aload_n 0, 1) := by decide +kernel
theorem dX5_scale_1 : decode cX5_scale 1 = .ok (.iconst 0, 1) := by decide +kernel
theorem dX5_scale_2 : decode cX5_scale 2 = .ok (.putfield 41, 3) := by decide +kernel
theorem dX5_scale_5 : decode cX5_scale 5 = .ok (.iload_n 1, 1) := by decide +kernel
theorem dX5_scale_6 : decode cX5_scale 6 = .ok (.i2l, 1) := by decide +kernel
theorem dX5_scale_7 : decode cX5_scale 7 = .ok (.lconst 0, 1) := by decide +kernel
theorem dX5_scale_8 : decode cX5_scale 8 = .ok (.aload_n 0, 1) := by decide +kernel
theorem dX5_scale_9 : decode cX5_scale 9 = .ok (.getfield 51, 3) := by decide +kernel
theorem dX5_scale_12 : decode cX5_scale 12 = .ok (.iconst 1, 1) := by decide +kernel
theorem dX5_scale_13 : decode cX5_scale 13 = .ok (.isub, 1) := by decide +kernel
theorem dX5_scale_14 : decode cX5_scale 14 = .ok (.i2l, 1) := by decide +kernel
theorem dX5_scale_15 : decode cX5_scale 15 = .ok (.invokestatic 127, 3) := by decide +kernel
theorem dX5_scale_18 : decode cX5_scale 18 = .ok (.ifCond .eq 19, 3) := by decide +kernel
theorem dX5_scale_21 : decode cX5_scale 21 = .ok (.aload_n 0, 1) := by decide +kernel
theorem dX5_scale_22 : decode cX5_scale 22 = .ok (.getfield 17, 3) := by decide +kernel
theorem dX5_scale_25 : decode cX5_scale 25 = .ok (.aload_n 0, 1) := by decide +kernel
theorem dX5_scale_26 : decode cX5_scale 26 = .ok (.getfield 51, 3) := by decide +kernel
theorem dX5_scale_29 : decode cX5_scale 29 = .ok (.iconst 1, 1) := by decide +kernel
theorem dX5_scale_30 : decode cX5_scale 30 = .ok (.isub, 1) := by decide +kernel
theorem dX5_scale_31 : decode cX5_scale 31 = .ok (.iload_n 1, 1) := by decide +kernel
theorem dX5_scale_32 : decode cX5_scale 32 = .ok (.isub, 1) := by decide +kernel
theorem dX5_scale_33 : decode cX5_scale 33 = .ok (.iaload, 1) := by decide +kernel
theorem dX5_scale_34 : decode cX5_scale 34 = .ok (.goto 5, 3) := by decide +kernel
theorem dX5_scale_37 : decode cX5_scale 37 = .ok (.bipush (-2), 2) := by decide +kernel
theorem dX5_scale_39 : decode cX5_scale 39 = .ok (.ireturn, 1) := by decide +kernel
set_option maxRecDepth 20000 in
theorem ggX5_held_X5_within : GoodIn wsX5_held wsX5_within := goodIn_r _ [7] (by decide +kernel) (by decide +kernel)
set_option maxRecDepth 20000 in
theorem gX5_held_X5_within : GoodIn wsX5_held (va_wsS RX5 127 yX5_within wsX5_within) := goodIn_app (goodIn_of _ (by decide +kernel)) ggX5_held_X5_within
theorem dX5_held_0 : decode cX5_held 0 = .ok (.aload_n 0, 1) := by decide +kernel
theorem dX5_held_1 : decode cX5_held 1 = .ok (.iconst 0, 1) := by decide +kernel
theorem dX5_held_2 : decode cX5_held 2 = .ok (.putfield 41, 3) := by decide +kernel
theorem dX5_held_5 : decode cX5_held 5 = .ok (.iload_n 1, 1) := by decide +kernel
theorem dX5_held_6 : decode cX5_held 6 = .ok (.i2l, 1) := by decide +kernel
theorem dX5_held_7 : decode cX5_held 7 = .ok (.lconst 0, 1) := by decide +kernel
theorem dX5_held_8 : decode cX5_held 8 = .ok (.ldc2_w 222, 3) := by decide +kernel
theorem dX5_held_11 : decode cX5_held 11 = .ok (.invokestatic 127, 3) := by decide +kernel
theorem dX5_held_14 : decode cX5_held 14 = .ok (.ifCond .eq 12, 3) := by decide +kernel
theorem dX5_held_17 : decode cX5_held 17 = .ok (.aload_n 0, 1) := by decide +kernel
theorem dX5_held_18 : decode cX5_held 18 = .ok (.getfield 23, 3) := by decide +kernel
theorem dX5_held_21 : decode cX5_held 21 = .ok (.iload_n 1, 1) := by decide +kernel
theorem dX5_held_22 : decode cX5_held 22 = .ok (.iaload, 1) := by decide +kernel
theorem dX5_held_23 : decode cX5_held 23 = .ok (.goto 4, 3) := by decide +kernel
theorem dX5_held_26 : decode cX5_held 26 = .ok (.iconst (-1), 1) := by decide +kernel
theorem dX5_held_27 : decode cX5_held 27 = .ok (.ireturn, 1) := by decide +kernel
theorem dX5_precision_0 : decode cX5_precision 0 = .ok (.aload_n 0, 1) := by decide +kernel
theorem dX5_precision_1 : decode cX5_precision 1 = .ok (.iconst 0, 1) := by decide +kernel
theorem dX5_precision_2 : decode cX5_precision 2 = .ok (.putfield 41, 3) := by decide +kernel
theorem dX5_precision_5 : decode cX5_precision 5 = .ok (.aload_n 0, 1) := by decide +kernel
theorem dX5_precision_6 : decode cX5_precision 6 = .ok (.getfield 93, 3) := by decide +kernel
theorem dX5_precision_9 : decode cX5_precision 9 = .ok (.ireturn, 1) := by decide +kernel
theorem dX5_reset_0 : decode cX5_reset 0 = .ok (.aload_n 0, 1) := by decide +kernel
theorem dX5_reset_1 : decode cX5_reset 1 = .ok (.iconst 0, 1) := by decide +kernel
theorem dX5_reset_2 : decode cX5_reset 2 = .ok (.putfield 41, 3) := by decide +kernel
theorem dX5_reset_5 : decode cX5_reset 5 = .ok (.aload_n 0, 1) := by decide +kernel
theorem dX5_reset_6 : decode cX5_reset 6 = .ok (.iconst 0, 1) := by decide +kernel
theorem dX5_reset_7 : decode cX5_reset 7 = .ok (.putfield 51, 3) := by decide +kernel
theorem dX5_reset_10 : decode cX5_reset 10 = .ok (.aload_n 0, 1) := by decide +kernel
theorem dX5_reset_11 : decode cX5_reset 11 = .ok (.iconst 0, 1) := by decide +kernel
theorem dX5_reset_12 : decode cX5_reset 12 = .ok (.putfield 93, 3) := by decide +kernel
theorem dX5_reset_15 : decode cX5_reset 15 = .ok (.aload_n 0, 1) := by decide +kernel
theorem dX5_reset_16 : decode cX5_reset 16 = .ok (.iconst 0, 1) := by decide +kernel
theorem dX5_reset_17 : decode cX5_reset 17 = .ok (.putfield 157, 3) := by decide +kernel
theorem dX5_reset_20 : decode cX5_reset 20 = .ok (.iconst 0, 1) := by decide +kernel
theorem dX5_reset_21 : decode cX5_reset 21 = .ok (.istore_n 1, 1) := by decide +kernel
theorem dX5_reset_22 : decode cX5_reset 22 = .ok (.iload_n 1, 1) := by decide +kernel
theorem dX5_reset_23 : decode cX5_reset 23 = .ok (.iconst 4, 1) := by decide +kernel
theorem dX5_reset_24 : decode cX5_reset 24 = .ok (.if_icmp .ge 16, 3) := by decide +kernel
theorem dX5_reset_27 : decode cX5_reset 27 = .ok (.aload_n 0, 1) := by decide +kernel
theorem dX5_reset_28 : decode cX5_reset 28 = .ok (.getfield 23, 3) := by decide +kernel
theorem dX5_reset_31 : decode cX5_reset 31 = .ok (.iload_n 1, 1) := by decide +kernel
theorem dX5_reset_32 : decode cX5_reset 32 = .ok (.iconst 0, 1) := by decide +kernel
theorem dX5_reset_33 : decode cX5_reset 33 = .ok (.iastore, 1) := by decide +kernel
theorem dX5_reset_34 : decode cX5_reset 34 = .ok (.iinc 1 1, 3) := by decide +kernel
theorem dX5_reset_37 : decode cX5_reset 37 = .ok (.goto (-15), 3) := by decide +kernel
theorem dX5_reset_40 : decode cX5_reset 40 = .ok (.return_, 1) := by decide +kernel
end
section
theorem i_bm {z : Int} (h1 : -2147483648 ≤ z) (h2 : z < 2147483648) : z.bmod (2 ^ 32) = z := by
  rw [Int.bmod_def]; omega
theorem i_add {a b : Int32} (h1 : -2147483648 ≤ a.toInt + b.toInt) (h2 : a.toInt + b.toInt < 2147483648) : (a + b).toInt = a.toInt + b.toInt := by
  rw [Int32.toInt_add]; exact i_bm h1 h2
theorem i_sub {a b : Int32} (h1 : -2147483648 ≤ a.toInt - b.toInt) (h2 : a.toInt - b.toInt < 2147483648) : (a - b).toInt = a.toInt - b.toInt := by
  rw [Int32.toInt_sub]; exact i_bm h1 h2
theorem i_mul {a b : Int32} (h1 : -2147483648 ≤ a.toInt * b.toInt) (h2 : a.toInt * b.toInt < 2147483648) : (a * b).toInt = a.toInt * b.toInt := by
  rw [Int32.toInt_mul]; exact i_bm h1 h2
theorem i_addE {a b : Int32} {x y : Int} (ha : a.toInt = x) (hb : b.toInt = y) (h1 : -2147483648 ≤ x + y) (h2 : x + y < 2147483648) : (a + b).toInt = x + y := by
  subst ha; subst hb; exact i_add h1 h2
theorem i_subE {a b : Int32} {x y : Int} (ha : a.toInt = x) (hb : b.toInt = y) (h1 : -2147483648 ≤ x - y) (h2 : x - y < 2147483648) : (a - b).toInt = x - y := by
  subst ha; subst hb; exact i_sub h1 h2
theorem i_mulE {a b : Int32} {x y : Int} (ha : a.toInt = x) (hb : b.toInt = y) (h1 : -2147483648 ≤ x * y) (h2 : x * y < 2147483648) : (a * b).toInt = x * y := by
  subst ha; subst hb; exact i_mul h1 h2
theorem vin {i : Int32} {x : Int} {n : Nat} (h : i.toInt = x) (h0 : 0 ≤ x) (h1 : x < n) : vp_in i n := by
  subst h; exact vp_in_iff.mpr ⟨h0, h1⟩
theorem i_cl {a : Int32} (h : 0 ≤ a.toInt) : (a.toNatClampNeg : Int) = a.toInt := by
  rw [← Int32.toNat_toInt]; omega
theorem l_cmp_lt (x y : Int64) : lg_cmp x y < 0 ↔ x < y := by
  unfold lg_cmp
  by_cases h1 : y < x
  · simp [h1]; exact Int64.le_of_lt h1
  · by_cases h2 : x = y
    · simp [h2]
    · simp [h1, h2]; rcases Int64.lt_or_lt_of_ne h2 with h | h
      · exact h
      · exact absurd h h1
theorem l_cmp_gt (x y : Int64) : 0 < lg_cmp x y ↔ y < x := by
  unfold lg_cmp
  by_cases h1 : y < x
  · simp [h1]
  · by_cases h2 : x = y
    · simp [h2]
    · simp [h1, h2]
theorem l_cmp_eq (x y : Int64) : lg_cmp x y = 0 ↔ x = y := by
  unfold lg_cmp
  by_cases h1 : y < x
  · simp [h1]; intro h; subst h; exact Int64.lt_irrefl h1
  · by_cases h2 : x = y
    · simp [h2]
    · simp [h1, h2]
theorem l_cmp_ge (x y : Int64) : 0 ≤ lg_cmp x y ↔ y ≤ x := by
  rw [← Int32.not_lt, l_cmp_lt, Int64.not_lt]
theorem l_cmp_le (x y : Int64) : lg_cmp x y ≤ 0 ↔ x ≤ y := by
  rw [← Int32.not_lt, l_cmp_gt, Int64.not_lt]
abbrev MS : Type := (Nat → Int32) × Int64 × (Nat → Nat → Int32) × (Nat → Nat → Int64)
def si (σ : MS) (k : Nat) (v : Int32) : MS := (upd σ.1 k v, σ.2)
def sm (σ : MS) (v : Int64) : MS := (σ.1, v, σ.2.2)
def sa (σ : MS) (k j : Nat) (v : Int32) : MS := (σ.1, σ.2.1, (fun q => if q = k then upd (σ.2.2.1 k) j v else σ.2.2.1 q), σ.2.2.2)
def sb (σ : MS) (k j : Nat) (v : Int64) : MS := (σ.1, σ.2.1, σ.2.2.1, fun q => if q = k then vp_updL (σ.2.2.2 k) j v else σ.2.2.2 q)
def mW (h : Nat) (ad : Nat → Nat) (cI cJ : ClassId) (σ : MS) : va_W := [(h, .inr (4, [.ref (ad 0), .int (σ.1 1), .ref (ad 2), .ref (ad 3), .ref (ad 4), .int (σ.1 5), .int (σ.1 6), .ref (ad 7), .ref (ad 8), .ref (ad 9), .ref (ad 10), .int (σ.1 11), .ref (ad 12), .ref (ad 13), .int (σ.1 14), .int (σ.1 15), .int (σ.1 16), .int (σ.1 17), .int (σ.1 18), .long σ.2.1, .int (σ.1 20)])), (ad 0, .inl (cI, 160, .inl (σ.2.2.1 0))), (ad 2, .inl (cJ, 82, .inr (.inl (σ.2.2.2 2)))), (ad 3, .inl (cI, 82, .inl (σ.2.2.1 3))), (ad 4, .inl (cI, 13120, .inl (σ.2.2.1 4))), (ad 7, .inl (cI, 4, .inl (σ.2.2.1 7))), (ad 8, .inl (cI, 1920, .inl (σ.2.2.1 8))), (ad 9, .inl (cI, 12, .inl (σ.2.2.1 9))), (ad 10, .inl (cI, 12, .inl (σ.2.2.1 10))), (ad 12, .inl (cJ, 40, .inr (.inl (σ.2.2.2 12)))), (ad 13, .inl (cI, 40, .inl (σ.2.2.1 13)))]
def mX (p : Program) (s : State) (m : MethodId) (args : Array Value) (c : Code) (cc : ByteArray) (Ts : List Cond) (dC : Nat → ClassId) (dI : Nat → Nat → Nat) (cI cJ : ClassId) : Prop := p.tables.exec = Jvm.exec ∧ c.code = cc ∧ (∀ w ∈ Ts, w.before args s = true) ∧ (∀ w ∈ wsX50, w ∈ Ts) ∧ s.vm.findClass RX5 = some m.cls ∧ va_K (dC, dI) vwCl [(cI, .int), (cJ, .long)] s
def mH (dC : Nat → ClassId) (dI : Nat → Nat → Nat) (h : Nat) (ad : Nat → Nat) (cI cJ : ClassId) (σ : MS) (A : Nat → Prop) (H0 H : Heap) (locs : List Loc) : Prop := va_P (dC, dI) vwCl (mW h ad cI cJ σ) H ∧ va_D A (mW h ad cI cJ σ) ∧ va_S A H0 H locs
def mPre (dC : Nat → ClassId) (dI : Nat → Nat → Nat) (cI cJ : ClassId) (h : Nat) (ad : Nat → Nat) (sz : Nat) (σ : MS) : State → Prop := fun U => U.heap.size = sz ∧ va_P (dC, dI) vwCl (mW h ad cI cJ σ) U.heap ∧ va_K (dC, dI) vwCl [(cI, .int), (cJ, .long)] U ∧ va_D (fun _ => True) (mW h ad cI cJ σ)
def mAt (dC : Nat → ClassId) (dI : Nat → Nat → Nat) (cI cJ : ClassId) (h : Nat) (ad : Nat → Nat) (A : Nat → Prop) (u : MS) (t : State) : Prop := va_P (dC, dI) vwCl (mW h ad cI cJ u) t.heap ∧ va_K (dC, dI) vwCl [(cI, .int), (cJ, .long)] t ∧ va_D A (mW h ad cI cJ u)
abbrev mA (h : Nat) (ad : Nat → Nat) (cI cJ : ClassId) (σ : MS) (sz : Nat) : Nat → Prop := va_A (mW h ad cI cJ σ) sz
def QcReadL (r : Int64) : Array Value → State → Outcome → State → Prop := fun _ st o t => o = .returned (some (.long r)) ∧ t.heap = st.heap
section SB
variable {p : Program} {l : Launch} {e : Env} {R : Room} {s : State} {m : MethodId} {args : Array Value} {below : List Frame} {meth : Method} {c : Code} {H : Heap} {locs : List Loc} {cells slots : Nat} {Q : State → Prop} {g : JFrame} {rest : List Value} {a : Array Value} {cc : ByteArray}
theorem W.callRL {r : Int64} (hr : CallRun p l e R s m args below meth c H locs cells slots 0 0 g rest (QcReadL r a) (fun _ => False)) (kk : W p l e R s m args below meth c H locs cells slots Q { g with pc := g.pc + 3, stack := .long r :: rest }) : W p l e R s m args below meth c H locs cells slots Q g := by
  intro T hT X
  obtain ⟨v, st₀, t, T', L, h0, X', hL, e1, ⟨hv, hh⟩, st⟩ := hr T hT X
  cases hv
  obtain ⟨t2, a1, b1⟩ := kk T' (by rw [e1, hh, h0]) (Stand.forget X' (fun q h => (hL q h).elim))
  exact ⟨t2, st t2 a1, b1⟩
theorem s_ofW {y : MethodName} {ws ws' : List Cond} {rm : Room} {vs : List Value} {Qc : Array Value → State → Outcome → State → Prop} {maxL : Nat} {ret : Option FieldType} {cls : String} (hy : plainName y.cls = true) (hw : ws = Cond.code y cc maxL ret :: ws') (hcls : y.cls = cls) (hvs : (lg_sl vs).length ≤ maxL)
    (body : ∀ (p : Program) (e : Env) (s : State) (m : MethodId) (below : List Frame) (meth : Method) (c : Code), p.tables.exec = Jvm.exec → c.code = cc → (∀ w ∈ ws, w.before vs.toArray s = true) → s.vm.findClass cls = some m.cls → meth.sig.returnType = ret → meth.locks = false → c.maxLocals = maxL → ∀ ls : Array Slot, lv_has ls maxL (lv_args 0 vs) → W p l e rm s m vs.toArray below meth c s.heap [] 0 0 (MQ below Qc vs.toArray s 0 0 (fun _ => False)) (F0 m 0 ls [])) :
    Met l y ws rm (va_Pc vs (fun _ => True)) Qc 0 0 (fun _ => False) := by
  refine Met.ofW (cc := cc) (maxL := maxL) (ret := ret) hy hw ?_
  intro p e s m args below meth c s₁ B hml hv
  obtain ⟨rfl, -⟩ := hv
  have hown : s.vm.findClass y.cls = some m.cls := findClass_of_methodNamed B.named
  rw [hcls] at hown
  rw [lg_entry_eq]
  exact body p e s m below meth c B.exec B.bytes (atoms_spec (ws := ws) B.pre) hown B.returns B.notSynchronized hml _ (lv_entry vs hvs)
end SB
section MB
variable {p : Program} {l : Launch} {e : Env} {R : Room} {s : State} {m : MethodId} {args : Array Value} {below : List Frame} {meth : Method} {c : Code} {H : Heap} {locs : List Loc} {cells slots : Nat} {Q : State → Prop}
variable {cc : ByteArray} {pc : Nat} {ls : Array Slot} {rest st0 : List Value} {A : Nat → Prop} {H0 : Heap} {dC : Nat → ClassId} {dI : Nat → Nat → Nat} {cI cJ : ClassId} {h : Nat} {ad : Nat → Nat} {σ : MS} {Ts : List Cond} {index : Nat}
theorem m_get_0 (X : mX p s m args c cc Ts dC dI cI cJ) (G : mH dC dI h ad cI cJ σ A H0 H locs) (hl : Cond.fieldLink RX5 index "DeskStackModel" "program" "[I" ∈ Ts) (hdg : decode cc pc = .ok (.getfield index, 3)) (kk : W p l e R s m args below meth c H locs cells slots Q (F0 m (pc + 3) ls (.ref (ad 0) :: rest))) : W p l e R s m args below meth c H locs cells slots Q (F0 m pc ls (.ref h :: rest)) := by
  obtain ⟨hx, hb, hts, hin, hown, hK⟩ := X
  exact va_get (D := (dC, dI)) (ci := 4) (C := RX5) (T := TX5) (N := 21) hx hb hts hin hown hK G.1 0 rfl rfl 0 (by decide) (hts _ hl) (fun _ h9 => h9) rfl hdg kk
theorem m_get_1 (X : mX p s m args c cc Ts dC dI cI cJ) (G : mH dC dI h ad cI cJ σ A H0 H locs) (hl : Cond.fieldLink RX5 index "DeskStackModel" "length" "I" ∈ Ts) (hdg : decode cc pc = .ok (.getfield index, 3)) (kk : W p l e R s m args below meth c H locs cells slots Q (F0 m (pc + 3) ls (.int (σ.1 1) :: rest))) : W p l e R s m args below meth c H locs cells slots Q (F0 m pc ls (.ref h :: rest)) := by
  obtain ⟨hx, hb, hts, hin, hown, hK⟩ := X
  exact va_get (D := (dC, dI)) (ci := 4) (C := RX5) (T := TX5) (N := 21) hx hb hts hin hown hK G.1 0 rfl rfl 1 (by decide) (hts _ hl) (fun _ h9 => h9) rfl hdg kk
theorem m_put_1 (X : mX p s m args c cc Ts dC dI cI cJ) (G : mH dC dI h ad cI cJ σ A H0 H locs) {v : Int32} (hl : Cond.fieldLink RX5 index "DeskStackModel" "length" "I" ∈ Ts) (hdg : decode cc pc = .ok (.putfield index, 3)) (kk : ∀ (H1 : Heap) (locs1 : List Loc), mH dC dI h ad cI cJ (si σ 1 v) A H0 H1 locs1 → W p l e R s m args below meth c H1 locs1 cells slots Q (F0 m (pc + 3) ls rest)) : W p l e R s m args below meth c H locs cells slots Q (F0 m pc ls (.int v :: .ref h :: rest)) := by
  obtain ⟨hx, hb, hts, hin, hown, hK⟩ := X
  exact va_put (D := (dC, dI)) (ci := 4) (v := .int v) (ty := .int) (C := RX5) (T := TX5) (N := 21) hx hb hts hin tyX5 tyX5_ok nmX5 hown hK G.1 G.2.1 G.2.2 0 rfl rfl 1 (by decide) (hts _ hl) (fun _ h9 => h9) rfl (by decide +kernel) rfl rfl (Nat.le_of_ble_eq_true rfl) hdg (fun H1 locs1 hP hD hS => kk H1 locs1 ⟨hP, hD, hS⟩)
theorem m_get_2 (X : mX p s m args c cc Ts dC dI cI cJ) (G : mH dC dI h ad cI cJ σ A H0 H locs) (hl : Cond.fieldLink RX5 index "DeskStackModel" "value" "[J" ∈ Ts) (hdg : decode cc pc = .ok (.getfield index, 3)) (kk : W p l e R s m args below meth c H locs cells slots Q (F0 m (pc + 3) ls (.ref (ad 2) :: rest))) : W p l e R s m args below meth c H locs cells slots Q (F0 m pc ls (.ref h :: rest)) := by
  obtain ⟨hx, hb, hts, hin, hown, hK⟩ := X
  exact va_get (D := (dC, dI)) (ci := 4) (C := RX5) (T := TX5) (N := 21) hx hb hts hin hown hK G.1 0 rfl rfl 2 (by decide) (hts _ hl) (fun _ h9 => h9) rfl hdg kk
theorem m_get_3 (X : mX p s m args c cc Ts dC dI cI cJ) (G : mH dC dI h ad cI cJ σ A H0 H locs) (hl : Cond.fieldLink RX5 index "DeskStackModel" "places" "[I" ∈ Ts) (hdg : decode cc pc = .ok (.getfield index, 3)) (kk : W p l e R s m args below meth c H locs cells slots Q (F0 m (pc + 3) ls (.ref (ad 3) :: rest))) : W p l e R s m args below meth c H locs cells slots Q (F0 m pc ls (.ref h :: rest)) := by
  obtain ⟨hx, hb, hts, hin, hown, hK⟩ := X
  exact va_get (D := (dC, dI)) (ci := 4) (C := RX5) (T := TX5) (N := 21) hx hb hts hin hown hK G.1 0 rfl rfl 3 (by decide) (hts _ hl) (fun _ h9 => h9) rfl hdg kk
theorem m_get_4 (X : mX p s m args c cc Ts dC dI cI cJ) (G : mH dC dI h ad cI cJ σ A H0 H locs) (hl : Cond.fieldLink RX5 index "DeskStackModel" "letters" "[I" ∈ Ts) (hdg : decode cc pc = .ok (.getfield index, 3)) (kk : W p l e R s m args below meth c H locs cells slots Q (F0 m (pc + 3) ls (.ref (ad 4) :: rest))) : W p l e R s m args below meth c H locs cells slots Q (F0 m pc ls (.ref h :: rest)) := by
  obtain ⟨hx, hb, hts, hin, hown, hK⟩ := X
  exact va_get (D := (dC, dI)) (ci := 4) (C := RX5) (T := TX5) (N := 21) hx hb hts hin hown hK G.1 0 rfl rfl 4 (by decide) (hts _ hl) (fun _ h9 => h9) rfl hdg kk
theorem m_get_5 (X : mX p s m args c cc Ts dC dI cI cJ) (G : mH dC dI h ad cI cJ σ A H0 H locs) (hl : Cond.fieldLink RX5 index "DeskStackModel" "depth" "I" ∈ Ts) (hdg : decode cc pc = .ok (.getfield index, 3)) (kk : W p l e R s m args below meth c H locs cells slots Q (F0 m (pc + 3) ls (.int (σ.1 5) :: rest))) : W p l e R s m args below meth c H locs cells slots Q (F0 m pc ls (.ref h :: rest)) := by
  obtain ⟨hx, hb, hts, hin, hown, hK⟩ := X
  exact va_get (D := (dC, dI)) (ci := 4) (C := RX5) (T := TX5) (N := 21) hx hb hts hin hown hK G.1 0 rfl rfl 5 (by decide) (hts _ hl) (fun _ h9 => h9) rfl hdg kk
theorem m_put_5 (X : mX p s m args c cc Ts dC dI cI cJ) (G : mH dC dI h ad cI cJ σ A H0 H locs) {v : Int32} (hl : Cond.fieldLink RX5 index "DeskStackModel" "depth" "I" ∈ Ts) (hdg : decode cc pc = .ok (.putfield index, 3)) (kk : ∀ (H1 : Heap) (locs1 : List Loc), mH dC dI h ad cI cJ (si σ 5 v) A H0 H1 locs1 → W p l e R s m args below meth c H1 locs1 cells slots Q (F0 m (pc + 3) ls rest)) : W p l e R s m args below meth c H locs cells slots Q (F0 m pc ls (.int v :: .ref h :: rest)) := by
  obtain ⟨hx, hb, hts, hin, hown, hK⟩ := X
  exact va_put (D := (dC, dI)) (ci := 4) (v := .int v) (ty := .int) (C := RX5) (T := TX5) (N := 21) hx hb hts hin tyX5 tyX5_ok nmX5 hown hK G.1 G.2.1 G.2.2 0 rfl rfl 5 (by decide) (hts _ hl) (fun _ h9 => h9) rfl (by decide +kernel) rfl rfl (Nat.le_of_ble_eq_true rfl) hdg (fun H1 locs1 hP hD hS => kk H1 locs1 ⟨hP, hD, hS⟩)
theorem m_get_6 (X : mX p s m args c cc Ts dC dI cI cJ) (G : mH dC dI h ad cI cJ σ A H0 H locs) (hl : Cond.fieldLink RX5 index "DeskStackModel" "precision" "I" ∈ Ts) (hdg : decode cc pc = .ok (.getfield index, 3)) (kk : W p l e R s m args below meth c H locs cells slots Q (F0 m (pc + 3) ls (.int (σ.1 6) :: rest))) : W p l e R s m args below meth c H locs cells slots Q (F0 m pc ls (.ref h :: rest)) := by
  obtain ⟨hx, hb, hts, hin, hown, hK⟩ := X
  exact va_get (D := (dC, dI)) (ci := 4) (C := RX5) (T := TX5) (N := 21) hx hb hts hin hown hK G.1 0 rfl rfl 6 (by decide) (hts _ hl) (fun _ h9 => h9) rfl hdg kk
theorem m_put_6 (X : mX p s m args c cc Ts dC dI cI cJ) (G : mH dC dI h ad cI cJ σ A H0 H locs) {v : Int32} (hl : Cond.fieldLink RX5 index "DeskStackModel" "precision" "I" ∈ Ts) (hdg : decode cc pc = .ok (.putfield index, 3)) (kk : ∀ (H1 : Heap) (locs1 : List Loc), mH dC dI h ad cI cJ (si σ 6 v) A H0 H1 locs1 → W p l e R s m args below meth c H1 locs1 cells slots Q (F0 m (pc + 3) ls rest)) : W p l e R s m args below meth c H locs cells slots Q (F0 m pc ls (.int v :: .ref h :: rest)) := by
  obtain ⟨hx, hb, hts, hin, hown, hK⟩ := X
  exact va_put (D := (dC, dI)) (ci := 4) (v := .int v) (ty := .int) (C := RX5) (T := TX5) (N := 21) hx hb hts hin tyX5 tyX5_ok nmX5 hown hK G.1 G.2.1 G.2.2 0 rfl rfl 6 (by decide) (hts _ hl) (fun _ h9 => h9) rfl (by decide +kernel) rfl rfl (Nat.le_of_ble_eq_true rfl) hdg (fun H1 locs1 hP hD hS => kk H1 locs1 ⟨hP, hD, hS⟩)
theorem m_get_7 (X : mX p s m args c cc Ts dC dI cI cJ) (G : mH dC dI h ad cI cJ σ A H0 H locs) (hl : Cond.fieldLink RX5 index "DeskStackModel" "held" "[I" ∈ Ts) (hdg : decode cc pc = .ok (.getfield index, 3)) (kk : W p l e R s m args below meth c H locs cells slots Q (F0 m (pc + 3) ls (.ref (ad 7) :: rest))) : W p l e R s m args below meth c H locs cells slots Q (F0 m pc ls (.ref h :: rest)) := by
  obtain ⟨hx, hb, hts, hin, hown, hK⟩ := X
  exact va_get (D := (dC, dI)) (ci := 4) (C := RX5) (T := TX5) (N := 21) hx hb hts hin hown hK G.1 0 rfl rfl 7 (by decide) (hts _ hl) (fun _ h9 => h9) rfl hdg kk
theorem m_get_8 (X : mX p s m args c cc Ts dC dI cI cJ) (G : mH dC dI h ad cI cJ σ A H0 H locs) (hl : Cond.fieldLink RX5 index "DeskStackModel" "text" "[I" ∈ Ts) (hdg : decode cc pc = .ok (.getfield index, 3)) (kk : W p l e R s m args below meth c H locs cells slots Q (F0 m (pc + 3) ls (.ref (ad 8) :: rest))) : W p l e R s m args below meth c H locs cells slots Q (F0 m pc ls (.ref h :: rest)) := by
  obtain ⟨hx, hb, hts, hin, hown, hK⟩ := X
  exact va_get (D := (dC, dI)) (ci := 4) (C := RX5) (T := TX5) (N := 21) hx hb hts hin hown hK G.1 0 rfl rfl 8 (by decide) (hts _ hl) (fun _ h9 => h9) rfl hdg kk
theorem m_get_9 (X : mX p s m args c cc Ts dC dI cI cJ) (G : mH dC dI h ad cI cJ σ A H0 H locs) (hl : Cond.fieldLink RX5 index "DeskStackModel" "size" "[I" ∈ Ts) (hdg : decode cc pc = .ok (.getfield index, 3)) (kk : W p l e R s m args below meth c H locs cells slots Q (F0 m (pc + 3) ls (.ref (ad 9) :: rest))) : W p l e R s m args below meth c H locs cells slots Q (F0 m pc ls (.ref h :: rest)) := by
  obtain ⟨hx, hb, hts, hin, hown, hK⟩ := X
  exact va_get (D := (dC, dI)) (ci := 4) (C := RX5) (T := TX5) (N := 21) hx hb hts hin hown hK G.1 0 rfl rfl 9 (by decide) (hts _ hl) (fun _ h9 => h9) rfl hdg kk
theorem m_get_10 (X : mX p s m args c cc Ts dC dI cI cJ) (G : mH dC dI h ad cI cJ σ A H0 H locs) (hl : Cond.fieldLink RX5 index "DeskStackModel" "at" "[I" ∈ Ts) (hdg : decode cc pc = .ok (.getfield index, 3)) (kk : W p l e R s m args below meth c H locs cells slots Q (F0 m (pc + 3) ls (.ref (ad 10) :: rest))) : W p l e R s m args below meth c H locs cells slots Q (F0 m pc ls (.ref h :: rest)) := by
  obtain ⟨hx, hb, hts, hin, hown, hK⟩ := X
  exact va_get (D := (dC, dI)) (ci := 4) (C := RX5) (T := TX5) (N := 21) hx hb hts hin hown hK G.1 0 rfl rfl 10 (by decide) (hts _ hl) (fun _ h9 => h9) rfl hdg kk
theorem m_get_11 (X : mX p s m args c cc Ts dC dI cI cJ) (G : mH dC dI h ad cI cJ σ A H0 H locs) (hl : Cond.fieldLink RX5 index "DeskStackModel" "levels" "I" ∈ Ts) (hdg : decode cc pc = .ok (.getfield index, 3)) (kk : W p l e R s m args below meth c H locs cells slots Q (F0 m (pc + 3) ls (.int (σ.1 11) :: rest))) : W p l e R s m args below meth c H locs cells slots Q (F0 m pc ls (.ref h :: rest)) := by
  obtain ⟨hx, hb, hts, hin, hown, hK⟩ := X
  exact va_get (D := (dC, dI)) (ci := 4) (C := RX5) (T := TX5) (N := 21) hx hb hts hin hown hK G.1 0 rfl rfl 11 (by decide) (hts _ hl) (fun _ h9 => h9) rfl hdg kk
theorem m_put_11 (X : mX p s m args c cc Ts dC dI cI cJ) (G : mH dC dI h ad cI cJ σ A H0 H locs) {v : Int32} (hl : Cond.fieldLink RX5 index "DeskStackModel" "levels" "I" ∈ Ts) (hdg : decode cc pc = .ok (.putfield index, 3)) (kk : ∀ (H1 : Heap) (locs1 : List Loc), mH dC dI h ad cI cJ (si σ 11 v) A H0 H1 locs1 → W p l e R s m args below meth c H1 locs1 cells slots Q (F0 m (pc + 3) ls rest)) : W p l e R s m args below meth c H locs cells slots Q (F0 m pc ls (.int v :: .ref h :: rest)) := by
  obtain ⟨hx, hb, hts, hin, hown, hK⟩ := X
  exact va_put (D := (dC, dI)) (ci := 4) (v := .int v) (ty := .int) (C := RX5) (T := TX5) (N := 21) hx hb hts hin tyX5 tyX5_ok nmX5 hown hK G.1 G.2.1 G.2.2 0 rfl rfl 11 (by decide) (hts _ hl) (fun _ h9 => h9) rfl (by decide +kernel) rfl rfl (Nat.le_of_ble_eq_true rfl) hdg (fun H1 locs1 hP hD hS => kk H1 locs1 ⟨hP, hD, hS⟩)
theorem m_get_12 (X : mX p s m args c cc Ts dC dI cI cJ) (G : mH dC dI h ad cI cJ σ A H0 H locs) (hl : Cond.fieldLink RX5 index "DeskStackModel" "shown" "[J" ∈ Ts) (hdg : decode cc pc = .ok (.getfield index, 3)) (kk : W p l e R s m args below meth c H locs cells slots Q (F0 m (pc + 3) ls (.ref (ad 12) :: rest))) : W p l e R s m args below meth c H locs cells slots Q (F0 m pc ls (.ref h :: rest)) := by
  obtain ⟨hx, hb, hts, hin, hown, hK⟩ := X
  exact va_get (D := (dC, dI)) (ci := 4) (C := RX5) (T := TX5) (N := 21) hx hb hts hin hown hK G.1 0 rfl rfl 12 (by decide) (hts _ hl) (fun _ h9 => h9) rfl hdg kk
theorem m_get_13 (X : mX p s m args c cc Ts dC dI cI cJ) (G : mH dC dI h ad cI cJ σ A H0 H locs) (hl : Cond.fieldLink RX5 index "DeskStackModel" "shownPlaces" "[I" ∈ Ts) (hdg : decode cc pc = .ok (.getfield index, 3)) (kk : W p l e R s m args below meth c H locs cells slots Q (F0 m (pc + 3) ls (.ref (ad 13) :: rest))) : W p l e R s m args below meth c H locs cells slots Q (F0 m pc ls (.ref h :: rest)) := by
  obtain ⟨hx, hb, hts, hin, hown, hK⟩ := X
  exact va_get (D := (dC, dI)) (ci := 4) (C := RX5) (T := TX5) (N := 21) hx hb hts hin hown hK G.1 0 rfl rfl 13 (by decide) (hts _ hl) (fun _ h9 => h9) rfl hdg kk
theorem m_get_14 (X : mX p s m args c cc Ts dC dI cI cJ) (G : mH dC dI h ad cI cJ σ A H0 H locs) (hl : Cond.fieldLink RX5 index "DeskStackModel" "prints" "I" ∈ Ts) (hdg : decode cc pc = .ok (.getfield index, 3)) (kk : W p l e R s m args below meth c H locs cells slots Q (F0 m (pc + 3) ls (.int (σ.1 14) :: rest))) : W p l e R s m args below meth c H locs cells slots Q (F0 m pc ls (.ref h :: rest)) := by
  obtain ⟨hx, hb, hts, hin, hown, hK⟩ := X
  exact va_get (D := (dC, dI)) (ci := 4) (C := RX5) (T := TX5) (N := 21) hx hb hts hin hown hK G.1 0 rfl rfl 14 (by decide) (hts _ hl) (fun _ h9 => h9) rfl hdg kk
theorem m_put_14 (X : mX p s m args c cc Ts dC dI cI cJ) (G : mH dC dI h ad cI cJ σ A H0 H locs) {v : Int32} (hl : Cond.fieldLink RX5 index "DeskStackModel" "prints" "I" ∈ Ts) (hdg : decode cc pc = .ok (.putfield index, 3)) (kk : ∀ (H1 : Heap) (locs1 : List Loc), mH dC dI h ad cI cJ (si σ 14 v) A H0 H1 locs1 → W p l e R s m args below meth c H1 locs1 cells slots Q (F0 m (pc + 3) ls rest)) : W p l e R s m args below meth c H locs cells slots Q (F0 m pc ls (.int v :: .ref h :: rest)) := by
  obtain ⟨hx, hb, hts, hin, hown, hK⟩ := X
  exact va_put (D := (dC, dI)) (ci := 4) (v := .int v) (ty := .int) (C := RX5) (T := TX5) (N := 21) hx hb hts hin tyX5 tyX5_ok nmX5 hown hK G.1 G.2.1 G.2.2 0 rfl rfl 14 (by decide) (hts _ hl) (fun _ h9 => h9) rfl (by decide +kernel) rfl rfl (Nat.le_of_ble_eq_true rfl) hdg (fun H1 locs1 hP hD hS => kk H1 locs1 ⟨hP, hD, hS⟩)
theorem m_get_15 (X : mX p s m args c cc Ts dC dI cI cJ) (G : mH dC dI h ad cI cJ σ A H0 H locs) (hl : Cond.fieldLink RX5 index "DeskStackModel" "cost" "I" ∈ Ts) (hdg : decode cc pc = .ok (.getfield index, 3)) (kk : W p l e R s m args below meth c H locs cells slots Q (F0 m (pc + 3) ls (.int (σ.1 15) :: rest))) : W p l e R s m args below meth c H locs cells slots Q (F0 m pc ls (.ref h :: rest)) := by
  obtain ⟨hx, hb, hts, hin, hown, hK⟩ := X
  exact va_get (D := (dC, dI)) (ci := 4) (C := RX5) (T := TX5) (N := 21) hx hb hts hin hown hK G.1 0 rfl rfl 15 (by decide) (hts _ hl) (fun _ h9 => h9) rfl hdg kk
theorem m_put_15 (X : mX p s m args c cc Ts dC dI cI cJ) (G : mH dC dI h ad cI cJ σ A H0 H locs) {v : Int32} (hl : Cond.fieldLink RX5 index "DeskStackModel" "cost" "I" ∈ Ts) (hdg : decode cc pc = .ok (.putfield index, 3)) (kk : ∀ (H1 : Heap) (locs1 : List Loc), mH dC dI h ad cI cJ (si σ 15 v) A H0 H1 locs1 → W p l e R s m args below meth c H1 locs1 cells slots Q (F0 m (pc + 3) ls rest)) : W p l e R s m args below meth c H locs cells slots Q (F0 m pc ls (.int v :: .ref h :: rest)) := by
  obtain ⟨hx, hb, hts, hin, hown, hK⟩ := X
  exact va_put (D := (dC, dI)) (ci := 4) (v := .int v) (ty := .int) (C := RX5) (T := TX5) (N := 21) hx hb hts hin tyX5 tyX5_ok nmX5 hown hK G.1 G.2.1 G.2.2 0 rfl rfl 15 (by decide) (hts _ hl) (fun _ h9 => h9) rfl (by decide +kernel) rfl rfl (Nat.le_of_ble_eq_true rfl) hdg (fun H1 locs1 hP hD hS => kk H1 locs1 ⟨hP, hD, hS⟩)
theorem m_get_16 (X : mX p s m args c cc Ts dC dI cI cJ) (G : mH dC dI h ad cI cJ σ A H0 H locs) (hl : Cond.fieldLink RX5 index "DeskStackModel" "fault" "I" ∈ Ts) (hdg : decode cc pc = .ok (.getfield index, 3)) (kk : W p l e R s m args below meth c H locs cells slots Q (F0 m (pc + 3) ls (.int (σ.1 16) :: rest))) : W p l e R s m args below meth c H locs cells slots Q (F0 m pc ls (.ref h :: rest)) := by
  obtain ⟨hx, hb, hts, hin, hown, hK⟩ := X
  exact va_get (D := (dC, dI)) (ci := 4) (C := RX5) (T := TX5) (N := 21) hx hb hts hin hown hK G.1 0 rfl rfl 16 (by decide) (hts _ hl) (fun _ h9 => h9) rfl hdg kk
theorem m_put_16 (X : mX p s m args c cc Ts dC dI cI cJ) (G : mH dC dI h ad cI cJ σ A H0 H locs) {v : Int32} (hl : Cond.fieldLink RX5 index "DeskStackModel" "fault" "I" ∈ Ts) (hdg : decode cc pc = .ok (.putfield index, 3)) (kk : ∀ (H1 : Heap) (locs1 : List Loc), mH dC dI h ad cI cJ (si σ 16 v) A H0 H1 locs1 → W p l e R s m args below meth c H1 locs1 cells slots Q (F0 m (pc + 3) ls rest)) : W p l e R s m args below meth c H locs cells slots Q (F0 m pc ls (.int v :: .ref h :: rest)) := by
  obtain ⟨hx, hb, hts, hin, hown, hK⟩ := X
  exact va_put (D := (dC, dI)) (ci := 4) (v := .int v) (ty := .int) (C := RX5) (T := TX5) (N := 21) hx hb hts hin tyX5 tyX5_ok nmX5 hown hK G.1 G.2.1 G.2.2 0 rfl rfl 16 (by decide) (hts _ hl) (fun _ h9 => h9) rfl (by decide +kernel) rfl rfl (Nat.le_of_ble_eq_true rfl) hdg (fun H1 locs1 hP hD hS => kk H1 locs1 ⟨hP, hD, hS⟩)
theorem m_get_17 (X : mX p s m args c cc Ts dC dI cI cJ) (G : mH dC dI h ad cI cJ σ A H0 H locs) (hl : Cond.fieldLink RX5 index "DeskStackModel" "thrown" "I" ∈ Ts) (hdg : decode cc pc = .ok (.getfield index, 3)) (kk : W p l e R s m args below meth c H locs cells slots Q (F0 m (pc + 3) ls (.int (σ.1 17) :: rest))) : W p l e R s m args below meth c H locs cells slots Q (F0 m pc ls (.ref h :: rest)) := by
  obtain ⟨hx, hb, hts, hin, hown, hK⟩ := X
  exact va_get (D := (dC, dI)) (ci := 4) (C := RX5) (T := TX5) (N := 21) hx hb hts hin hown hK G.1 0 rfl rfl 17 (by decide) (hts _ hl) (fun _ h9 => h9) rfl hdg kk
theorem m_put_17 (X : mX p s m args c cc Ts dC dI cI cJ) (G : mH dC dI h ad cI cJ σ A H0 H locs) {v : Int32} (hl : Cond.fieldLink RX5 index "DeskStackModel" "thrown" "I" ∈ Ts) (hdg : decode cc pc = .ok (.putfield index, 3)) (kk : ∀ (H1 : Heap) (locs1 : List Loc), mH dC dI h ad cI cJ (si σ 17 v) A H0 H1 locs1 → W p l e R s m args below meth c H1 locs1 cells slots Q (F0 m (pc + 3) ls rest)) : W p l e R s m args below meth c H locs cells slots Q (F0 m pc ls (.int v :: .ref h :: rest)) := by
  obtain ⟨hx, hb, hts, hin, hown, hK⟩ := X
  exact va_put (D := (dC, dI)) (ci := 4) (v := .int v) (ty := .int) (C := RX5) (T := TX5) (N := 21) hx hb hts hin tyX5 tyX5_ok nmX5 hown hK G.1 G.2.1 G.2.2 0 rfl rfl 17 (by decide) (hts _ hl) (fun _ h9 => h9) rfl (by decide +kernel) rfl rfl (Nat.le_of_ble_eq_true rfl) hdg (fun H1 locs1 hP hD hS => kk H1 locs1 ⟨hP, hD, hS⟩)
theorem m_get_18 (X : mX p s m args c cc Ts dC dI cI cJ) (G : mH dC dI h ad cI cJ σ A H0 H locs) (hl : Cond.fieldLink RX5 index "DeskStackModel" "over" "Z" ∈ Ts) (hdg : decode cc pc = .ok (.getfield index, 3)) (kk : W p l e R s m args below meth c H locs cells slots Q (F0 m (pc + 3) ls (.int (σ.1 18) :: rest))) : W p l e R s m args below meth c H locs cells slots Q (F0 m pc ls (.ref h :: rest)) := by
  obtain ⟨hx, hb, hts, hin, hown, hK⟩ := X
  exact va_get (D := (dC, dI)) (ci := 4) (C := RX5) (T := TX5) (N := 21) hx hb hts hin hown hK G.1 0 rfl rfl 18 (by decide) (hts _ hl) (fun _ h9 => h9) rfl hdg kk
theorem m_put_18 (X : mX p s m args c cc Ts dC dI cI cJ) (G : mH dC dI h ad cI cJ σ A H0 H locs) {v : Int32} (hz : narrow .boolean (.int v) = .int v) (hf : fits .boolean (.int v) = true) (hl : Cond.fieldLink RX5 index "DeskStackModel" "over" "Z" ∈ Ts) (hdg : decode cc pc = .ok (.putfield index, 3)) (kk : ∀ (H1 : Heap) (locs1 : List Loc), mH dC dI h ad cI cJ (si σ 18 v) A H0 H1 locs1 → W p l e R s m args below meth c H1 locs1 cells slots Q (F0 m (pc + 3) ls rest)) : W p l e R s m args below meth c H locs cells slots Q (F0 m pc ls (.int v :: .ref h :: rest)) := by
  obtain ⟨hx, hb, hts, hin, hown, hK⟩ := X
  exact va_put (D := (dC, dI)) (ci := 4) (v := .int v) (ty := .boolean) (C := RX5) (T := TX5) (N := 21) hx hb hts hin tyX5 tyX5_ok nmX5 hown hK G.1 G.2.1 G.2.2 0 rfl rfl 18 (by decide) (hts _ hl) (fun _ h9 => h9) rfl (by decide +kernel) hz hf (Nat.le_of_ble_eq_true rfl) hdg (fun H1 locs1 hP hD hS => kk H1 locs1 ⟨hP, hD, hS⟩)
theorem m_get_19 (X : mX p s m args c cc Ts dC dI cI cJ) (G : mH dC dI h ad cI cJ σ A H0 H locs) (hl : Cond.fieldLink RX5 index "DeskStackModel" "m" "J" ∈ Ts) (hdg : decode cc pc = .ok (.getfield index, 3)) (kk : W p l e R s m args below meth c H locs cells slots Q (F0 m (pc + 3) ls (.long σ.2.1 :: rest))) : W p l e R s m args below meth c H locs cells slots Q (F0 m pc ls (.ref h :: rest)) := by
  obtain ⟨hx, hb, hts, hin, hown, hK⟩ := X
  exact va_get (D := (dC, dI)) (ci := 4) (C := RX5) (T := TX5) (N := 21) hx hb hts hin hown hK G.1 0 rfl rfl 19 (by decide) (hts _ hl) (fun _ h9 => h9) rfl hdg kk
theorem m_put_19 (X : mX p s m args c cc Ts dC dI cI cJ) (G : mH dC dI h ad cI cJ σ A H0 H locs) {v : Int64} (hl : Cond.fieldLink RX5 index "DeskStackModel" "m" "J" ∈ Ts) (hdg : decode cc pc = .ok (.putfield index, 3)) (kk : ∀ (H1 : Heap) (locs1 : List Loc), mH dC dI h ad cI cJ (sm σ v) A H0 H1 locs1 → W p l e R s m args below meth c H1 locs1 cells slots Q (F0 m (pc + 3) ls rest)) : W p l e R s m args below meth c H locs cells slots Q (F0 m pc ls (.long v :: .ref h :: rest)) := by
  obtain ⟨hx, hb, hts, hin, hown, hK⟩ := X
  exact va_put (D := (dC, dI)) (ci := 4) (v := .long v) (ty := .long) (C := RX5) (T := TX5) (N := 21) hx hb hts hin tyX5 tyX5_ok nmX5 hown hK G.1 G.2.1 G.2.2 0 rfl rfl 19 (by decide) (hts _ hl) (fun _ h9 => h9) rfl (by decide +kernel) rfl rfl (Nat.le_of_ble_eq_true rfl) hdg (fun H1 locs1 hP hD hS => kk H1 locs1 ⟨hP, hD, hS⟩)
theorem m_get_20 (X : mX p s m args c cc Ts dC dI cI cJ) (G : mH dC dI h ad cI cJ σ A H0 H locs) (hl : Cond.fieldLink RX5 index "DeskStackModel" "s" "I" ∈ Ts) (hdg : decode cc pc = .ok (.getfield index, 3)) (kk : W p l e R s m args below meth c H locs cells slots Q (F0 m (pc + 3) ls (.int (σ.1 20) :: rest))) : W p l e R s m args below meth c H locs cells slots Q (F0 m pc ls (.ref h :: rest)) := by
  obtain ⟨hx, hb, hts, hin, hown, hK⟩ := X
  exact va_get (D := (dC, dI)) (ci := 4) (C := RX5) (T := TX5) (N := 21) hx hb hts hin hown hK G.1 0 rfl rfl 20 (by decide) (hts _ hl) (fun _ h9 => h9) rfl hdg kk
theorem m_put_20 (X : mX p s m args c cc Ts dC dI cI cJ) (G : mH dC dI h ad cI cJ σ A H0 H locs) {v : Int32} (hl : Cond.fieldLink RX5 index "DeskStackModel" "s" "I" ∈ Ts) (hdg : decode cc pc = .ok (.putfield index, 3)) (kk : ∀ (H1 : Heap) (locs1 : List Loc), mH dC dI h ad cI cJ (si σ 20 v) A H0 H1 locs1 → W p l e R s m args below meth c H1 locs1 cells slots Q (F0 m (pc + 3) ls rest)) : W p l e R s m args below meth c H locs cells slots Q (F0 m pc ls (.int v :: .ref h :: rest)) := by
  obtain ⟨hx, hb, hts, hin, hown, hK⟩ := X
  exact va_put (D := (dC, dI)) (ci := 4) (v := .int v) (ty := .int) (C := RX5) (T := TX5) (N := 21) hx hb hts hin tyX5 tyX5_ok nmX5 hown hK G.1 G.2.1 G.2.2 0 rfl rfl 20 (by decide) (hts _ hl) (fun _ h9 => h9) rfl (by decide +kernel) rfl rfl (Nat.le_of_ble_eq_true rfl) hdg (fun H1 locs1 hP hD hS => kk H1 locs1 ⟨hP, hD, hS⟩)
theorem m_ld_0 (X : mX p s m args c cc Ts dC dI cI cJ) (G : mH dC dI h ad cI cJ σ A H0 H locs) {i : Int32} (hi : vp_in i 160) (hdg : decode cc pc = .ok (.iaload, 1)) (kk : W p l e R s m args below meth c H locs cells slots Q (F0 m (pc + 1) ls (.int (σ.2.2.1 0 i.toNatClampNeg) :: rest))) : W p l e R s m args below meth c H locs cells slots Q (F0 m pc ls (.int i :: .ref (ad 0) :: rest)) := by
  obtain ⟨hx, hb, hts, hin, hown, hK⟩ := X
  exact va_iald hx hb hK G.1 1 0 rfl rfl hi hdg kk
theorem m_st_0 (X : mX p s m args c cc Ts dC dI cI cJ) (G : mH dC dI h ad cI cJ σ A H0 H locs) {i : Int32} {v : Int32} (hi : vp_in i 160) (hdg : decode cc pc = .ok (.iastore, 1)) (kk : ∀ (H1 : Heap) (locs1 : List Loc), mH dC dI h ad cI cJ (sa σ 0 i.toNatClampNeg v) A H0 H1 locs1 → W p l e R s m args below meth c H1 locs1 cells slots Q (F0 m (pc + 1) ls rest)) : W p l e R s m args below meth c H locs cells slots Q (F0 m pc ls (.int v :: .int i :: .ref (ad 0) :: rest)) := by
  obtain ⟨hx, hb, hts, hin, hown, hK⟩ := X
  exact va_iast hx hb hK G.1 G.2.1 G.2.2 1 0 rfl rfl hi hdg (fun H1 locs1 hP hD hS => kk H1 locs1 ⟨hP, hD, hS⟩)
theorem m_ld_2 (X : mX p s m args c cc Ts dC dI cI cJ) (G : mH dC dI h ad cI cJ σ A H0 H locs) {i : Int32} (hi : vp_in i 82) (hdg : decode cc pc = .ok (.laload, 1)) (kk : W p l e R s m args below meth c H locs cells slots Q (F0 m (pc + 1) ls (.long (σ.2.2.2 2 i.toNatClampNeg) :: rest))) : W p l e R s m args below meth c H locs cells slots Q (F0 m pc ls (.int i :: .ref (ad 2) :: rest)) := by
  obtain ⟨hx, hb, hts, hin, hown, hK⟩ := X
  exact va_lald hx hb hK G.1 2 1 rfl rfl hi hdg kk
theorem m_st_2 (X : mX p s m args c cc Ts dC dI cI cJ) (G : mH dC dI h ad cI cJ σ A H0 H locs) {i : Int32} {v : Int64} (hi : vp_in i 82) (hdg : decode cc pc = .ok (.lastore, 1)) (kk : ∀ (H1 : Heap) (locs1 : List Loc), mH dC dI h ad cI cJ (sb σ 2 i.toNatClampNeg v) A H0 H1 locs1 → W p l e R s m args below meth c H1 locs1 cells slots Q (F0 m (pc + 1) ls rest)) : W p l e R s m args below meth c H locs cells slots Q (F0 m pc ls (.long v :: .int i :: .ref (ad 2) :: rest)) := by
  obtain ⟨hx, hb, hts, hin, hown, hK⟩ := X
  exact va_last hx hb hK G.1 G.2.1 G.2.2 2 1 rfl rfl hi hdg (fun H1 locs1 hP hD hS => kk H1 locs1 ⟨hP, hD, hS⟩)
theorem m_ld_3 (X : mX p s m args c cc Ts dC dI cI cJ) (G : mH dC dI h ad cI cJ σ A H0 H locs) {i : Int32} (hi : vp_in i 82) (hdg : decode cc pc = .ok (.iaload, 1)) (kk : W p l e R s m args below meth c H locs cells slots Q (F0 m (pc + 1) ls (.int (σ.2.2.1 3 i.toNatClampNeg) :: rest))) : W p l e R s m args below meth c H locs cells slots Q (F0 m pc ls (.int i :: .ref (ad 3) :: rest)) := by
  obtain ⟨hx, hb, hts, hin, hown, hK⟩ := X
  exact va_iald hx hb hK G.1 3 0 rfl rfl hi hdg kk
theorem m_st_3 (X : mX p s m args c cc Ts dC dI cI cJ) (G : mH dC dI h ad cI cJ σ A H0 H locs) {i : Int32} {v : Int32} (hi : vp_in i 82) (hdg : decode cc pc = .ok (.iastore, 1)) (kk : ∀ (H1 : Heap) (locs1 : List Loc), mH dC dI h ad cI cJ (sa σ 3 i.toNatClampNeg v) A H0 H1 locs1 → W p l e R s m args below meth c H1 locs1 cells slots Q (F0 m (pc + 1) ls rest)) : W p l e R s m args below meth c H locs cells slots Q (F0 m pc ls (.int v :: .int i :: .ref (ad 3) :: rest)) := by
  obtain ⟨hx, hb, hts, hin, hown, hK⟩ := X
  exact va_iast hx hb hK G.1 G.2.1 G.2.2 3 0 rfl rfl hi hdg (fun H1 locs1 hP hD hS => kk H1 locs1 ⟨hP, hD, hS⟩)
theorem m_ld_4 (X : mX p s m args c cc Ts dC dI cI cJ) (G : mH dC dI h ad cI cJ σ A H0 H locs) {i : Int32} (hi : vp_in i 13120) (hdg : decode cc pc = .ok (.iaload, 1)) (kk : W p l e R s m args below meth c H locs cells slots Q (F0 m (pc + 1) ls (.int (σ.2.2.1 4 i.toNatClampNeg) :: rest))) : W p l e R s m args below meth c H locs cells slots Q (F0 m pc ls (.int i :: .ref (ad 4) :: rest)) := by
  obtain ⟨hx, hb, hts, hin, hown, hK⟩ := X
  exact va_iald hx hb hK G.1 4 0 rfl rfl hi hdg kk
theorem m_st_4 (X : mX p s m args c cc Ts dC dI cI cJ) (G : mH dC dI h ad cI cJ σ A H0 H locs) {i : Int32} {v : Int32} (hi : vp_in i 13120) (hdg : decode cc pc = .ok (.iastore, 1)) (kk : ∀ (H1 : Heap) (locs1 : List Loc), mH dC dI h ad cI cJ (sa σ 4 i.toNatClampNeg v) A H0 H1 locs1 → W p l e R s m args below meth c H1 locs1 cells slots Q (F0 m (pc + 1) ls rest)) : W p l e R s m args below meth c H locs cells slots Q (F0 m pc ls (.int v :: .int i :: .ref (ad 4) :: rest)) := by
  obtain ⟨hx, hb, hts, hin, hown, hK⟩ := X
  exact va_iast hx hb hK G.1 G.2.1 G.2.2 4 0 rfl rfl hi hdg (fun H1 locs1 hP hD hS => kk H1 locs1 ⟨hP, hD, hS⟩)
theorem m_ld_7 (X : mX p s m args c cc Ts dC dI cI cJ) (G : mH dC dI h ad cI cJ σ A H0 H locs) {i : Int32} (hi : vp_in i 4) (hdg : decode cc pc = .ok (.iaload, 1)) (kk : W p l e R s m args below meth c H locs cells slots Q (F0 m (pc + 1) ls (.int (σ.2.2.1 7 i.toNatClampNeg) :: rest))) : W p l e R s m args below meth c H locs cells slots Q (F0 m pc ls (.int i :: .ref (ad 7) :: rest)) := by
  obtain ⟨hx, hb, hts, hin, hown, hK⟩ := X
  exact va_iald hx hb hK G.1 5 0 rfl rfl hi hdg kk
theorem m_st_7 (X : mX p s m args c cc Ts dC dI cI cJ) (G : mH dC dI h ad cI cJ σ A H0 H locs) {i : Int32} {v : Int32} (hi : vp_in i 4) (hdg : decode cc pc = .ok (.iastore, 1)) (kk : ∀ (H1 : Heap) (locs1 : List Loc), mH dC dI h ad cI cJ (sa σ 7 i.toNatClampNeg v) A H0 H1 locs1 → W p l e R s m args below meth c H1 locs1 cells slots Q (F0 m (pc + 1) ls rest)) : W p l e R s m args below meth c H locs cells slots Q (F0 m pc ls (.int v :: .int i :: .ref (ad 7) :: rest)) := by
  obtain ⟨hx, hb, hts, hin, hown, hK⟩ := X
  exact va_iast hx hb hK G.1 G.2.1 G.2.2 5 0 rfl rfl hi hdg (fun H1 locs1 hP hD hS => kk H1 locs1 ⟨hP, hD, hS⟩)
theorem m_ld_8 (X : mX p s m args c cc Ts dC dI cI cJ) (G : mH dC dI h ad cI cJ σ A H0 H locs) {i : Int32} (hi : vp_in i 1920) (hdg : decode cc pc = .ok (.iaload, 1)) (kk : W p l e R s m args below meth c H locs cells slots Q (F0 m (pc + 1) ls (.int (σ.2.2.1 8 i.toNatClampNeg) :: rest))) : W p l e R s m args below meth c H locs cells slots Q (F0 m pc ls (.int i :: .ref (ad 8) :: rest)) := by
  obtain ⟨hx, hb, hts, hin, hown, hK⟩ := X
  exact va_iald hx hb hK G.1 6 0 rfl rfl hi hdg kk
theorem m_st_8 (X : mX p s m args c cc Ts dC dI cI cJ) (G : mH dC dI h ad cI cJ σ A H0 H locs) {i : Int32} {v : Int32} (hi : vp_in i 1920) (hdg : decode cc pc = .ok (.iastore, 1)) (kk : ∀ (H1 : Heap) (locs1 : List Loc), mH dC dI h ad cI cJ (sa σ 8 i.toNatClampNeg v) A H0 H1 locs1 → W p l e R s m args below meth c H1 locs1 cells slots Q (F0 m (pc + 1) ls rest)) : W p l e R s m args below meth c H locs cells slots Q (F0 m pc ls (.int v :: .int i :: .ref (ad 8) :: rest)) := by
  obtain ⟨hx, hb, hts, hin, hown, hK⟩ := X
  exact va_iast hx hb hK G.1 G.2.1 G.2.2 6 0 rfl rfl hi hdg (fun H1 locs1 hP hD hS => kk H1 locs1 ⟨hP, hD, hS⟩)
theorem m_ld_9 (X : mX p s m args c cc Ts dC dI cI cJ) (G : mH dC dI h ad cI cJ σ A H0 H locs) {i : Int32} (hi : vp_in i 12) (hdg : decode cc pc = .ok (.iaload, 1)) (kk : W p l e R s m args below meth c H locs cells slots Q (F0 m (pc + 1) ls (.int (σ.2.2.1 9 i.toNatClampNeg) :: rest))) : W p l e R s m args below meth c H locs cells slots Q (F0 m pc ls (.int i :: .ref (ad 9) :: rest)) := by
  obtain ⟨hx, hb, hts, hin, hown, hK⟩ := X
  exact va_iald hx hb hK G.1 7 0 rfl rfl hi hdg kk
theorem m_st_9 (X : mX p s m args c cc Ts dC dI cI cJ) (G : mH dC dI h ad cI cJ σ A H0 H locs) {i : Int32} {v : Int32} (hi : vp_in i 12) (hdg : decode cc pc = .ok (.iastore, 1)) (kk : ∀ (H1 : Heap) (locs1 : List Loc), mH dC dI h ad cI cJ (sa σ 9 i.toNatClampNeg v) A H0 H1 locs1 → W p l e R s m args below meth c H1 locs1 cells slots Q (F0 m (pc + 1) ls rest)) : W p l e R s m args below meth c H locs cells slots Q (F0 m pc ls (.int v :: .int i :: .ref (ad 9) :: rest)) := by
  obtain ⟨hx, hb, hts, hin, hown, hK⟩ := X
  exact va_iast hx hb hK G.1 G.2.1 G.2.2 7 0 rfl rfl hi hdg (fun H1 locs1 hP hD hS => kk H1 locs1 ⟨hP, hD, hS⟩)
theorem m_ld_10 (X : mX p s m args c cc Ts dC dI cI cJ) (G : mH dC dI h ad cI cJ σ A H0 H locs) {i : Int32} (hi : vp_in i 12) (hdg : decode cc pc = .ok (.iaload, 1)) (kk : W p l e R s m args below meth c H locs cells slots Q (F0 m (pc + 1) ls (.int (σ.2.2.1 10 i.toNatClampNeg) :: rest))) : W p l e R s m args below meth c H locs cells slots Q (F0 m pc ls (.int i :: .ref (ad 10) :: rest)) := by
  obtain ⟨hx, hb, hts, hin, hown, hK⟩ := X
  exact va_iald hx hb hK G.1 8 0 rfl rfl hi hdg kk
theorem m_st_10 (X : mX p s m args c cc Ts dC dI cI cJ) (G : mH dC dI h ad cI cJ σ A H0 H locs) {i : Int32} {v : Int32} (hi : vp_in i 12) (hdg : decode cc pc = .ok (.iastore, 1)) (kk : ∀ (H1 : Heap) (locs1 : List Loc), mH dC dI h ad cI cJ (sa σ 10 i.toNatClampNeg v) A H0 H1 locs1 → W p l e R s m args below meth c H1 locs1 cells slots Q (F0 m (pc + 1) ls rest)) : W p l e R s m args below meth c H locs cells slots Q (F0 m pc ls (.int v :: .int i :: .ref (ad 10) :: rest)) := by
  obtain ⟨hx, hb, hts, hin, hown, hK⟩ := X
  exact va_iast hx hb hK G.1 G.2.1 G.2.2 8 0 rfl rfl hi hdg (fun H1 locs1 hP hD hS => kk H1 locs1 ⟨hP, hD, hS⟩)
theorem m_ld_12 (X : mX p s m args c cc Ts dC dI cI cJ) (G : mH dC dI h ad cI cJ σ A H0 H locs) {i : Int32} (hi : vp_in i 40) (hdg : decode cc pc = .ok (.laload, 1)) (kk : W p l e R s m args below meth c H locs cells slots Q (F0 m (pc + 1) ls (.long (σ.2.2.2 12 i.toNatClampNeg) :: rest))) : W p l e R s m args below meth c H locs cells slots Q (F0 m pc ls (.int i :: .ref (ad 12) :: rest)) := by
  obtain ⟨hx, hb, hts, hin, hown, hK⟩ := X
  exact va_lald hx hb hK G.1 9 1 rfl rfl hi hdg kk
theorem m_st_12 (X : mX p s m args c cc Ts dC dI cI cJ) (G : mH dC dI h ad cI cJ σ A H0 H locs) {i : Int32} {v : Int64} (hi : vp_in i 40) (hdg : decode cc pc = .ok (.lastore, 1)) (kk : ∀ (H1 : Heap) (locs1 : List Loc), mH dC dI h ad cI cJ (sb σ 12 i.toNatClampNeg v) A H0 H1 locs1 → W p l e R s m args below meth c H1 locs1 cells slots Q (F0 m (pc + 1) ls rest)) : W p l e R s m args below meth c H locs cells slots Q (F0 m pc ls (.long v :: .int i :: .ref (ad 12) :: rest)) := by
  obtain ⟨hx, hb, hts, hin, hown, hK⟩ := X
  exact va_last hx hb hK G.1 G.2.1 G.2.2 9 1 rfl rfl hi hdg (fun H1 locs1 hP hD hS => kk H1 locs1 ⟨hP, hD, hS⟩)
theorem m_ld_13 (X : mX p s m args c cc Ts dC dI cI cJ) (G : mH dC dI h ad cI cJ σ A H0 H locs) {i : Int32} (hi : vp_in i 40) (hdg : decode cc pc = .ok (.iaload, 1)) (kk : W p l e R s m args below meth c H locs cells slots Q (F0 m (pc + 1) ls (.int (σ.2.2.1 13 i.toNatClampNeg) :: rest))) : W p l e R s m args below meth c H locs cells slots Q (F0 m pc ls (.int i :: .ref (ad 13) :: rest)) := by
  obtain ⟨hx, hb, hts, hin, hown, hK⟩ := X
  exact va_iald hx hb hK G.1 10 0 rfl rfl hi hdg kk
theorem m_st_13 (X : mX p s m args c cc Ts dC dI cI cJ) (G : mH dC dI h ad cI cJ σ A H0 H locs) {i : Int32} {v : Int32} (hi : vp_in i 40) (hdg : decode cc pc = .ok (.iastore, 1)) (kk : ∀ (H1 : Heap) (locs1 : List Loc), mH dC dI h ad cI cJ (sa σ 13 i.toNatClampNeg v) A H0 H1 locs1 → W p l e R s m args below meth c H1 locs1 cells slots Q (F0 m (pc + 1) ls rest)) : W p l e R s m args below meth c H locs cells slots Q (F0 m pc ls (.int v :: .int i :: .ref (ad 13) :: rest)) := by
  obtain ⟨hx, hb, hts, hin, hown, hK⟩ := X
  exact va_iast hx hb hK G.1 G.2.1 G.2.2 10 0 rfl rfl hi hdg (fun H1 locs1 hP hD hS => kk H1 locs1 ⟨hP, hD, hS⟩)
theorem m_iret {A1 : Nat → Prop} {v : Int32} {post : Int32 → MS → Prop} (X : mX p s m args c cc Ts dC dI cI cJ) (G : mH dC dI h ad cI cJ σ A1 s.heap H locs) (hr : meth.sig.returnType = some .int) (hlocks : meth.locks = false) (hq : post v σ) (hdg : decode cc pc = .ok (.ireturn, 1)) : W p l e R s m args below meth c H locs cells slots (MQ below (va_Qi post (mAt dC dI cI cJ h ad A1) A1) args s cells slots A1) (F0 m pc ls [.int v]) := by
  obtain ⟨hx, hb, hts, hin, hown, hK⟩ := X
  exact W.iret hx hb hr (fun t ht hW => ⟨⟨v, σ, rfl, hq, by rw [ht]; exact G.1, va_K.moved hW.alike hK, G.2.1⟩, G.2.2.F ht⟩) G.2.2.2.2 hdg hlocks
theorem m_lret {A1 : Nat → Prop} {v : Int64} {post : Int64 → MS → Prop} (X : mX p s m args c cc Ts dC dI cI cJ) (G : mH dC dI h ad cI cJ σ A1 s.heap H locs) (hr : meth.sig.returnType = some .long) (hlocks : meth.locks = false) (hq : post v σ) (hdg : decode cc pc = .ok (.lreturn, 1)) : W p l e R s m args below meth c H locs cells slots (MQ below (va_Ql post (mAt dC dI cI cJ h ad A1) A1) args s cells slots A1) (F0 m pc ls [.long v]) := by
  obtain ⟨hx, hb, hts, hin, hown, hK⟩ := X
  exact W.lret hx hb hr (fun t ht hW => ⟨⟨v, σ, rfl, hq, by rw [ht]; exact G.1, va_K.moved hW.alike hK, G.2.1⟩, G.2.2.F ht⟩) G.2.2.2.2 hdg hlocks
theorem m_zret {A1 : Nat → Prop} {v : Int32} {post : Int32 → MS → Prop} (X : mX p s m args c cc Ts dC dI cI cJ) (G : mH dC dI h ad cI cJ σ A1 s.heap H locs) (hr : meth.sig.returnType = some .boolean) (hlocks : meth.locks = false) (hn : narrow .boolean (.int v) = .int v) (hq : post v σ) (hdg : decode cc pc = .ok (.ireturn, 1)) : W p l e R s m args below meth c H locs cells slots (MQ below (va_Qi post (mAt dC dI cI cJ h ad A1) A1) args s cells slots A1) (F0 m pc ls [.int v]) := by
  obtain ⟨hx, hb, hts, hin, hown, hK⟩ := X
  exact W.zret hx hb hr hn (fun t ht hW => ⟨⟨v, σ, rfl, hq, by rw [ht]; exact G.1, va_K.moved hW.alike hK, G.2.1⟩, G.2.2.F ht⟩) G.2.2.2.2 hdg hlocks
theorem m_vret {A1 : Nat → Prop} {post : MS → Prop} (X : mX p s m args c cc Ts dC dI cI cJ) (G : mH dC dI h ad cI cJ σ A1 s.heap H locs) (hr : meth.sig.returnType = none) (hlocks : meth.locks = false) (hq : post σ) (hdg : decode cc pc = .ok (.return_, 1)) : W p l e R s m args below meth c H locs cells slots (MQ below (va_Qv post (mAt dC dI cI cJ h ad A1) A1) args s cells slots A1) (F0 m pc ls []) := by
  obtain ⟨hx, hb, hts, hin, hown, hK⟩ := X
  exact W.vret hx hb hr (fun t ht hW => ⟨⟨σ, rfl, hq, by rw [ht]; exact G.1, va_K.moved hW.alike hK, G.2.1⟩, G.2.2.F ht⟩) G.2.2.2.2 hdg hlocks
theorem m_calli {y : MethodName} {bytes : ByteArray} {maxL nL n : Nat} {ret : Option FieldType} {ws : List Cond} {rm : Room} {As : List Value} {post : Int32 → MS → Prop} (X : mX p s m args c cc Ts dC dI cI cJ) (hml : c.maxLocals = nL) (G : mH dC dI h ad cI cJ σ A H0 H locs) (hA : ∀ q : Nat, H0.size ≤ q → A q) (hM : Met l y ws rm (va_Pc (.ref h :: As) (mPre dC dI cI cJ h ad H.size σ)) (va_Qi post (mAt dC dI cI cJ h ad (mA h ad cI cJ σ H.size)) (mA h ad cI cJ σ H.size)) 0 0 (mA h ad cI cJ σ H.size)) (cw : CallW R s args RX5 RX5 index y bytes maxL ret ws rm 0 0 n) (hn : As.length = n) (hsize : ls.size = nL) (hst : st0 = As.reverse ++ .ref h :: rest) (hW : (rest.map fun v => v.category).sum ≤ 8) (hdg : decode cc pc = .ok (.invokevirtual index, 3)) (hf : cells ≤ R.cells ∧ slots ≤ R.slots) (kk : ∀ (r : Int32) (u : MS) (H1 : Heap) (locs1 : List Loc), post r u → mH dC dI h ad cI cJ u A H0 H1 locs1 → W p l e R s m args below meth c H1 locs1 cells slots Q (F0 m (pc + 3) ls (.int r :: rest))) : W p l e R s m args below meth c H locs cells slots Q (F0 m pc ls st0) := by
  obtain ⟨hx, hb, hts, hin, hown, hK⟩ := X
  obtain ⟨hP, hD, hS⟩ := G
  have hFc := va_free (wc := mW h ad cI cJ σ) hD hS hA [0, 1, 2, 3, 4, 5, 6, 7, 8, 9, 10] rfl
  refine va_calli (va_runV (As := As) (rest := rest) ⟨hx, hb, hml, hown, hts⟩ hM cw ⟨fun a U g mk q => by obtain ⟨q0, q1, qP, qK, qD⟩ := q; exact ⟨q0, q1, qP, va_K.moved (u := U) (U := U.calling g mk a) (Vm.Alike.refl U.vm) qK, qD⟩, va_recv hK hP (ci := 4) (q0 := 0) rfl rfl, fun U hU hW => ⟨rfl, by rw [hU], by rw [hU]; exact hP, va_K.moved hW.alike hK, hD.weaken (fun _ _ _ _ => trivial)⟩⟩ rfl hn hsize hst (lv_room hW) hdg hf) hS (fun q _ h => hFc q h) hFc (fun r u t H1 locs ht hvm hw hB hz1 hk1 hS => ?_)
  obtain ⟨hP1, hK1, hD1⟩ := hB
  rw [ht] at hP1
  obtain ⟨hP, hD⟩ := va_join (wr := []) (w1 := mW h ad cI cJ u) hP hD [0, 1, 2, 3, 4, 5, 6, 7, 8, 9, 10] [] rfl rfl (by decide) (by decide) hk1 hFc hP1 hD1
  exact kk r u H1 locs hw ⟨hP, hD, hS⟩
theorem m_calll {y : MethodName} {bytes : ByteArray} {maxL nL n : Nat} {ret : Option FieldType} {ws : List Cond} {rm : Room} {As : List Value} {post : Int64 → MS → Prop} (X : mX p s m args c cc Ts dC dI cI cJ) (hml : c.maxLocals = nL) (G : mH dC dI h ad cI cJ σ A H0 H locs) (hA : ∀ q : Nat, H0.size ≤ q → A q) (hM : Met l y ws rm (va_Pc (.ref h :: As) (mPre dC dI cI cJ h ad H.size σ)) (va_Ql post (mAt dC dI cI cJ h ad (mA h ad cI cJ σ H.size)) (mA h ad cI cJ σ H.size)) 0 0 (mA h ad cI cJ σ H.size)) (cw : CallW R s args RX5 RX5 index y bytes maxL ret ws rm 0 0 n) (hn : As.length = n) (hsize : ls.size = nL) (hst : st0 = As.reverse ++ .ref h :: rest) (hW : (rest.map fun v => v.category).sum ≤ 8) (hdg : decode cc pc = .ok (.invokevirtual index, 3)) (hf : cells ≤ R.cells ∧ slots ≤ R.slots) (kk : ∀ (r : Int64) (u : MS) (H1 : Heap) (locs1 : List Loc), post r u → mH dC dI h ad cI cJ u A H0 H1 locs1 → W p l e R s m args below meth c H1 locs1 cells slots Q (F0 m (pc + 3) ls (.long r :: rest))) : W p l e R s m args below meth c H locs cells slots Q (F0 m pc ls st0) := by
  obtain ⟨hx, hb, hts, hin, hown, hK⟩ := X
  obtain ⟨hP, hD, hS⟩ := G
  have hFc := va_free (wc := mW h ad cI cJ σ) hD hS hA [0, 1, 2, 3, 4, 5, 6, 7, 8, 9, 10] rfl
  refine va_calll (va_runV (As := As) (rest := rest) ⟨hx, hb, hml, hown, hts⟩ hM cw ⟨fun a U g mk q => by obtain ⟨q0, q1, qP, qK, qD⟩ := q; exact ⟨q0, q1, qP, va_K.moved (u := U) (U := U.calling g mk a) (Vm.Alike.refl U.vm) qK, qD⟩, va_recv hK hP (ci := 4) (q0 := 0) rfl rfl, fun U hU hW => ⟨rfl, by rw [hU], by rw [hU]; exact hP, va_K.moved hW.alike hK, hD.weaken (fun _ _ _ _ => trivial)⟩⟩ rfl hn hsize hst (lv_room hW) hdg hf) hS (fun q _ h => hFc q h) hFc (fun r u t H1 locs ht hvm hw hB hz1 hk1 hS => ?_)
  obtain ⟨hP1, hK1, hD1⟩ := hB
  rw [ht] at hP1
  obtain ⟨hP, hD⟩ := va_join (wr := []) (w1 := mW h ad cI cJ u) hP hD [0, 1, 2, 3, 4, 5, 6, 7, 8, 9, 10] [] rfl rfl (by decide) (by decide) hk1 hFc hP1 hD1
  exact kk r u H1 locs hw ⟨hP, hD, hS⟩
theorem m_callv {y : MethodName} {bytes : ByteArray} {maxL nL n : Nat} {ret : Option FieldType} {ws : List Cond} {rm : Room} {As : List Value} {post : MS → Prop} (X : mX p s m args c cc Ts dC dI cI cJ) (hml : c.maxLocals = nL) (G : mH dC dI h ad cI cJ σ A H0 H locs) (hA : ∀ q : Nat, H0.size ≤ q → A q) (hM : Met l y ws rm (va_Pc (.ref h :: As) (mPre dC dI cI cJ h ad H.size σ)) (va_Qv post (mAt dC dI cI cJ h ad (mA h ad cI cJ σ H.size)) (mA h ad cI cJ σ H.size)) 0 0 (mA h ad cI cJ σ H.size)) (cw : CallW R s args RX5 RX5 index y bytes maxL ret ws rm 0 0 n) (hn : As.length = n) (hsize : ls.size = nL) (hst : st0 = As.reverse ++ .ref h :: rest) (hW : (rest.map fun v => v.category).sum ≤ 8) (hdg : decode cc pc = .ok (.invokevirtual index, 3)) (hf : cells ≤ R.cells ∧ slots ≤ R.slots) (kk : ∀ (u : MS) (H1 : Heap) (locs1 : List Loc), post u → mH dC dI h ad cI cJ u A H0 H1 locs1 → W p l e R s m args below meth c H1 locs1 cells slots Q (F0 m (pc + 3) ls (rest))) : W p l e R s m args below meth c H locs cells slots Q (F0 m pc ls st0) := by
  obtain ⟨hx, hb, hts, hin, hown, hK⟩ := X
  obtain ⟨hP, hD, hS⟩ := G
  have hFc := va_free (wc := mW h ad cI cJ σ) hD hS hA [0, 1, 2, 3, 4, 5, 6, 7, 8, 9, 10] rfl
  refine va_callv (va_runV (As := As) (rest := rest) ⟨hx, hb, hml, hown, hts⟩ hM cw ⟨fun a U g mk q => by obtain ⟨q0, q1, qP, qK, qD⟩ := q; exact ⟨q0, q1, qP, va_K.moved (u := U) (U := U.calling g mk a) (Vm.Alike.refl U.vm) qK, qD⟩, va_recv hK hP (ci := 4) (q0 := 0) rfl rfl, fun U hU hW => ⟨rfl, by rw [hU], by rw [hU]; exact hP, va_K.moved hW.alike hK, hD.weaken (fun _ _ _ _ => trivial)⟩⟩ rfl hn hsize hst (lv_room hW) hdg hf) hS (fun q _ h => hFc q h) hFc (fun u t H1 locs ht hvm hw hB hz1 hk1 hS => ?_)
  obtain ⟨hP1, hK1, hD1⟩ := hB
  rw [ht] at hP1
  obtain ⟨hP, hD⟩ := va_join (wr := []) (w1 := mW h ad cI cJ u) hP hD [0, 1, 2, 3, 4, 5, 6, 7, 8, 9, 10] [] rfl rfl (by decide) (by decide) hk1 hFc hP1 hD1
  exact kk u H1 locs hw ⟨hP, hD, hS⟩
theorem m_ofW {y : MethodName} {ws ws' : List Cond} {rm : Room} {vs : List Value} {Qc : Array Value → State → Outcome → State → Prop} {mc ms maxL sz : Nat} {ret : Option FieldType} (hy : plainName y.cls = true) (hw : ws = Cond.code y cc maxL ret :: ws') (hin : ∀ w ∈ wsX50, w ∈ ws) (hcls : y.cls = RX5) (hvs : (lg_sl vs).length ≤ maxL)
    (body : ∀ (p : Program) (e : Env) (s : State) (m : MethodId) (below : List Frame) (meth : Method) (c : Code), mX p s m vs.toArray c cc ws dC dI cI cJ → mH dC dI h ad cI cJ σ (mA h ad cI cJ σ sz) s.heap s.heap [] → (∀ q : Nat, s.heap.size ≤ q → mA h ad cI cJ σ sz q) → meth.sig.returnType = ret → meth.locks = false → c.maxLocals = maxL → ∀ ls : Array Slot, lv_has ls maxL (lv_args 0 vs) → W p l e rm s m vs.toArray below meth c s.heap [] 0 0 (MQ below Qc vs.toArray s mc ms (mA h ad cI cJ σ sz)) (F0 m 0 ls [])) :
    Met l y ws rm (va_Pc vs (mPre dC dI cI cJ h ad sz σ)) Qc mc ms (mA h ad cI cJ σ sz) := by
  refine Met.ofW (cc := cc) (maxL := maxL) (ret := ret) hy hw ?_
  intro p e s m args below meth c s₁ B hml hv
  obtain ⟨rfl, hsz, hP, hK, hD0⟩ := hv
  subst hsz
  have hown : s.vm.findClass y.cls = some m.cls := findClass_of_methodNamed B.named
  rw [hcls] at hown
  rw [lg_entry_eq]
  exact body p e s m below meth c ⟨B.exec, B.bytes, atoms_spec (ws := ws) B.pre, hin, hown, hK⟩ ⟨hP, hD0.self, va_S.rf⟩ (fun q h => Or.inr h) B.returns B.notSynchronized hml _ (lv_entry vs hvs)
end MB
end
section
theorem si_self {σ : MS} {k : Nat} {v : Int32} : (si σ k v).1 k = v := by simp [si, upd]
theorem sm_self {σ : MS} {v : Int64} : (sm σ v).2.1 = v := rfl
theorem si_snd {σ : MS} {k : Nat} {v : Int32} : (si σ k v).2 = σ.2 := rfl
theorem sm_fst {σ : MS} {v : Int64} : (sm σ v).1 = σ.1 := rfl
theorem si20_16 {σ : MS} {v : Int32} : (si σ 20 v).1 16 = σ.1 16 := rfl
theorem i_nle {a b : Int32} (h : ¬ a ≤ b) : b.toInt < a.toInt := by
  rw [Int32.le_iff_toInt_le] at h; omega
theorem i_le {a b : Int32} (h : a ≤ b) : a.toInt ≤ b.toInt := Int32.le_iff_toInt_le.mp h
theorem i_lt {a b : Int32} (h : a < b) : a.toInt < b.toInt := Int32.lt_iff_toInt_lt.mp h
theorem i_nlt {a b : Int32} (h : ¬ a < b) : b.toInt ≤ a.toInt := by
  rw [Int32.lt_iff_toInt_lt] at h; omega
theorem i_inc {j k : Int32} (h : ¬ k ≤ j) : (j + 1).toInt = j.toInt + 1 := by
  have h1 := i_nle h
  have h2 := k.toInt_lt
  have h3 := j.le_toInt
  exact i_addE rfl rfl (by omega) (by omega)
theorem mu_inc {j k : Int32} {n : Nat} (hm : (k.toInt - j.toInt).toNat < n + 1) (h : ¬ k ≤ j) : (k.toInt - (j + 1).toInt).toNat < n := by
  have h1 := i_nle h
  rw [i_inc h]; omega
theorem mu_0 (k : Int32) : (k.toInt - (0 : Int32).toInt).toNat < k.toInt.toNat + 1 := by
  have : (0 : Int32).toInt = 0 := rfl
  omega
def f_within (x0 : Int64) (a0 : Int64) (b0 : Int64) : Int32 := if x0 < a0 then 0 else if b0 < x0 then 0 else 1
set_option maxHeartbeats 4000000 in
set_option maxRecDepth 100000 in
theorem c_M_within (l : Launch) (x0 : Int64) (a0 : Int64) (b0 : Int64) : Met l yX5_within wsX5_within ({ frames := 0, cells := 0, slots := 0, locals := 0 } : Room) (va_Pc [.long x0, .long a0, .long b0] (fun _ => True)) (QcRead (f_within x0 a0 b0)) 0 0 (fun _ => False) := by
  refine s_ofW (cc := cX5_within) (maxL := 6) (ret := (some .boolean)) (cls := RX5) (by decide) rfl rfl (Nat.le_of_ble_eq_true rfl) ?_
  intro p e s m below meth c hx hb hts hown hr hlocks hml ls hl
  have hl : lv_has ls 6 [(0, .long x0), (2, .long a0), (4, .long b0)] := hl
  refine lv_lload_n hx hb dX5_within_0 rfl (lv_at hl 0 rfl) ?_
  refine lv_lload_n hx hb dX5_within_1 rfl (lv_at hl 1 rfl) ?_
  refine W.lcmp hx hb dX5_within_2 ?_
  refine lv_if_lt (tgt := 17) hx hb dX5_within_3 (by decide) (fun c_3 => ?_) (fun c_3 => ?_)
  · have c_3 := ((l_cmp_lt _ _).mp c_3)
    have c_3 : x0 < a0 := c_3
    refine lv_iconst (v := 0) hx hb dX5_within_17 (by decide) ?_
    exact W.zret hx hb hr rfl (fun t ht hW => ⟨(by simp only [f_within, eq_true c_3, ↓reduceIte, not_false_eq_true, not_true_eq_false, eq_self]), ht⟩) (fun q h => nomatch h) dX5_within_18 hlocks
  · have c_3 := (mt (l_cmp_lt _ _).mpr c_3)
    have c_3 : ¬ (x0 < a0) := c_3
    refine lv_lload_n hx hb dX5_within_6 rfl (lv_at hl 0 rfl) ?_
    refine lv_lload hx hb dX5_within_7 (lv_at hl 2 rfl) ?_
    refine W.lcmp hx hb dX5_within_9 ?_
    refine lv_if_gt (tgt := 17) hx hb dX5_within_10 (by decide) (fun c_10 => ?_) (fun c_10 => ?_)
    · have c_10 := ((l_cmp_gt _ _).mp c_10)
      have c_10 : b0 < x0 := c_10
      refine lv_iconst (v := 0) hx hb dX5_within_17 (by decide) ?_
      exact W.zret hx hb hr rfl (fun t ht hW => ⟨(by simp only [f_within, eq_false c_3, eq_true c_10, ↓reduceIte, not_false_eq_true, not_true_eq_false, eq_self]), ht⟩) (fun q h => nomatch h) dX5_within_18 hlocks
    · have c_10 := (mt (l_cmp_gt _ _).mpr c_10)
      have c_10 : ¬ (b0 < x0) := c_10
      refine lv_iconst (v := 1) hx hb dX5_within_13 (by decide) ?_
      refine lv_goto (tgt := 18) hx hb dX5_within_14 (by decide) ?_
      exact W.zret hx hb hr rfl (fun t ht hW => ⟨(by simp only [f_within, eq_false c_3, eq_false c_10, ↓reduceIte, not_false_eq_true, not_true_eq_false, eq_self]), ht⟩) (fun q h => nomatch h) dX5_within_18 hlocks
def f_isBig (v0 : Int64) : Int32 := if 999999999999999999 < v0 then 1 else if (-999999999999999999) ≤ v0 then 0 else 1
set_option maxHeartbeats 4000000 in
set_option maxRecDepth 100000 in
theorem c_M_isBig (l : Launch) (v0 : Int64) : Met l yX5_isBig wsX5_isBig ({ frames := 0, cells := 0, slots := 0, locals := 0 } : Room) (va_Pc [.long v0] (fun _ => True)) (QcRead (f_isBig v0)) 0 0 (fun _ => False) := by
  refine s_ofW (cc := cX5_isBig) (maxL := 2) (ret := (some .boolean)) (cls := RX5) (by decide) rfl rfl (Nat.le_of_ble_eq_true rfl) ?_
  intro p e s m below meth c hx hb hts hown hr hlocks hml ls hl
  have hl : lv_has ls 2 [(0, .long v0)] := hl
  refine lv_lload_n hx hb dX5_isBig_0 rfl (lv_at hl 0 rfl) ?_
  refine lv_ldc2 (v := 999999999999999999) hx hb hown (hts (.constantLong RX5 61 (999999999999999999)) (by decide +kernel)) dX5_isBig_1 ?_
  refine W.lcmp hx hb dX5_isBig_4 ?_
  refine lv_if_gt (tgt := 16) hx hb dX5_isBig_5 (by decide) (fun c_5 => ?_) (fun c_5 => ?_)
  · have c_5 := ((l_cmp_gt _ _).mp c_5)
    have c_5 : 999999999999999999 < v0 := c_5
    refine lv_iconst (v := 1) hx hb dX5_isBig_16 (by decide) ?_
    refine lv_goto (tgt := 21) hx hb dX5_isBig_17 (by decide) ?_
    exact W.zret hx hb hr rfl (fun t ht hW => ⟨(by simp only [f_isBig, eq_true c_5, ↓reduceIte, not_false_eq_true, not_true_eq_false, eq_self]), ht⟩) (fun q h => nomatch h) dX5_isBig_21 hlocks
  · have c_5 := (mt (l_cmp_gt _ _).mpr c_5)
    have c_5 : ¬ (999999999999999999 < v0) := c_5
    refine lv_lload_n hx hb dX5_isBig_8 rfl (lv_at hl 0 rfl) ?_
    refine lv_ldc2 (v := -999999999999999999) hx hb hown (hts (.constantLong RX5 63 (-999999999999999999)) (by decide +kernel)) dX5_isBig_9 ?_
    refine W.lcmp hx hb dX5_isBig_12 ?_
    refine lv_if_ge (tgt := 20) hx hb dX5_isBig_13 (by decide) (fun c_13 => ?_) (fun c_13 => ?_)
    · have c_13 := ((l_cmp_ge _ _).mp c_13)
      have c_13 : (-999999999999999999) ≤ v0 := c_13
      refine lv_iconst (v := 0) hx hb dX5_isBig_20 (by decide) ?_
      exact W.zret hx hb hr rfl (fun t ht hW => ⟨(by simp only [f_isBig, eq_false c_5, eq_true c_13, ↓reduceIte, not_false_eq_true, not_true_eq_false, eq_self]), ht⟩) (fun q h => nomatch h) dX5_isBig_21 hlocks
    · have c_13 := (mt (l_cmp_ge _ _).mpr c_13)
      have c_13 : ¬ ((-999999999999999999) ≤ v0) := c_13
      refine lv_iconst (v := 1) hx hb dX5_isBig_16 (by decide) ?_
      refine lv_goto (tgt := 21) hx hb dX5_isBig_17 (by decide) ?_
      exact W.zret hx hb hr rfl (fun t ht hW => ⟨(by simp only [f_isBig, eq_false c_5, eq_false c_13, ↓reduceIte, not_false_eq_true, not_true_eq_false, eq_self]), ht⟩) (fun q h => nomatch h) dX5_isBig_21 hlocks
def f_greater (p0 : Int32) (q0 : Int32) : Int32 := if p0 ≤ q0 then q0 else p0
set_option maxHeartbeats 4000000 in
set_option maxRecDepth 100000 in
theorem c_M_greater (l : Launch) (p0 : Int32) (q0 : Int32) : Met l yX5_greater wsX5_greater ({ frames := 0, cells := 0, slots := 0, locals := 0 } : Room) (va_Pc [.int p0, .int q0] (fun _ => True)) (QcRead (f_greater p0 q0)) 0 0 (fun _ => False) := by
  refine s_ofW (cc := cX5_greater) (maxL := 2) (ret := (some .int)) (cls := RX5) (by decide) rfl rfl (Nat.le_of_ble_eq_true rfl) ?_
  intro p e s m below meth c hx hb hts hown hr hlocks hml ls hl
  have hl : lv_has ls 2 [(0, .int p0), (1, .int q0)] := hl
  refine lv_iload_n hx hb dX5_greater_0 rfl (lv_at hl 0 rfl) ?_
  refine lv_iload_n hx hb dX5_greater_1 rfl (lv_at hl 1 rfl) ?_
  refine lv_icmp_le (tgt := 9) hx hb dX5_greater_2 (by decide) (fun c_2 => ?_) (fun c_2 => ?_)
  · have c_2 : p0 ≤ q0 := c_2
    refine lv_iload_n hx hb dX5_greater_9 rfl (lv_at hl 1 rfl) ?_
    exact W.iret hx hb hr (fun t ht hW => ⟨(by simp only [f_greater, eq_true c_2, ↓reduceIte, not_false_eq_true, not_true_eq_false, eq_self]), ht⟩) (fun q h => nomatch h) dX5_greater_10 hlocks
  · have c_2 : ¬ (p0 ≤ q0) := c_2
    refine lv_iload_n hx hb dX5_greater_5 rfl (lv_at hl 0 rfl) ?_
    refine lv_goto (tgt := 10) hx hb dX5_greater_6 (by decide) ?_
    exact W.iret hx hb hr (fun t ht hW => ⟨(by simp only [f_greater, eq_false c_2, ↓reduceIte, not_false_eq_true, not_true_eq_false, eq_self]), ht⟩) (fun q h => nomatch h) dX5_greater_10 hlocks
def f_register (c0 : Int32) : Int32 := (c0 - 97)
set_option maxHeartbeats 4000000 in
set_option maxRecDepth 100000 in
theorem c_M_register (l : Launch) (c0 : Int32) : Met l yX5_register wsX5_register ({ frames := 0, cells := 0, slots := 0, locals := 0 } : Room) (va_Pc [.int c0] (fun _ => True)) (QcRead (f_register c0)) 0 0 (fun _ => False) := by
  refine s_ofW (cc := cX5_register) (maxL := 1) (ret := (some .int)) (cls := RX5) (by decide) rfl rfl (Nat.le_of_ble_eq_true rfl) ?_
  intro p e s m below meth c hx hb hts hown hr hlocks hml ls hl
  have hl : lv_has ls 1 [(0, .int c0)] := hl
  refine lv_iload_n hx hb dX5_register_0 rfl (lv_at hl 0 rfl) ?_
  refine lv_bipush (v := 97) hx hb dX5_register_1 (by decide) ?_
  refine lv_isub hx hb dX5_register_3 ?_
  exact W.iret hx hb hr (fun t ht hW => ⟨(by simp only [f_register, ↓reduceIte, not_false_eq_true, not_true_eq_false, eq_self]), ht⟩) (fun q h => nomatch h) dX5_register_4 hlocks
def f_isOne (c0 : Int32) (a0 : Int32) (b0 : Int32) (d0 : Int32) (e0 : Int32) : Int32 := if c0 = a0 then 1 else if c0 = b0 then 1 else if c0 = d0 then 1 else if c0 = e0 then 1 else 0
set_option maxHeartbeats 4000000 in
set_option maxRecDepth 100000 in
theorem c_M_isOne (l : Launch) (c0 : Int32) (a0 : Int32) (b0 : Int32) (d0 : Int32) (e0 : Int32) : Met l yX5_isOne wsX5_isOne ({ frames := 0, cells := 0, slots := 0, locals := 0 } : Room) (va_Pc [.int c0, .int a0, .int b0, .int d0, .int e0] (fun _ => True)) (QcRead (f_isOne c0 a0 b0 d0 e0)) 0 0 (fun _ => False) := by
  refine s_ofW (cc := cX5_isOne) (maxL := 5) (ret := (some .boolean)) (cls := RX5) (by decide) rfl rfl (Nat.le_of_ble_eq_true rfl) ?_
  intro p e s m below meth c hx hb hts hown hr hlocks hml ls hl
  have hl : lv_has ls 5 [(0, .int c0), (1, .int a0), (2, .int b0), (3, .int d0), (4, .int e0)] := hl
  refine lv_iload_n hx hb dX5_isOne_0 rfl (lv_at hl 0 rfl) ?_
  refine lv_iload_n hx hb dX5_isOne_1 rfl (lv_at hl 1 rfl) ?_
  refine lv_icmp_eq (tgt := 21) hx hb dX5_isOne_2 (by decide) (fun c_2 => ?_) (fun c_2 => ?_)
  · have c_2 : c0 = a0 := c_2
    refine lv_iconst (v := 1) hx hb dX5_isOne_21 (by decide) ?_
    refine lv_goto (tgt := 26) hx hb dX5_isOne_22 (by decide) ?_
    exact W.zret hx hb hr rfl (fun t ht hW => ⟨(by simp only [f_isOne, eq_true c_2, ↓reduceIte, not_false_eq_true, not_true_eq_false, eq_self]), ht⟩) (fun q h => nomatch h) dX5_isOne_26 hlocks
  · have c_2 : ¬ (c0 = a0) := c_2
    refine lv_iload_n hx hb dX5_isOne_5 rfl (lv_at hl 0 rfl) ?_
    refine lv_iload_n hx hb dX5_isOne_6 rfl (lv_at hl 2 rfl) ?_
    refine lv_icmp_eq (tgt := 21) hx hb dX5_isOne_7 (by decide) (fun c_7 => ?_) (fun c_7 => ?_)
    · have c_7 : c0 = b0 := c_7
      refine lv_iconst (v := 1) hx hb dX5_isOne_21 (by decide) ?_
      refine lv_goto (tgt := 26) hx hb dX5_isOne_22 (by decide) ?_
      exact W.zret hx hb hr rfl (fun t ht hW => ⟨(by simp only [f_isOne, eq_false c_2, eq_true c_7, ↓reduceIte, not_false_eq_true, not_true_eq_false, eq_self]), ht⟩) (fun q h => nomatch h) dX5_isOne_26 hlocks
    · have c_7 : ¬ (c0 = b0) := c_7
      refine lv_iload_n hx hb dX5_isOne_10 rfl (lv_at hl 0 rfl) ?_
      refine lv_iload_n hx hb dX5_isOne_11 rfl (lv_at hl 3 rfl) ?_
      refine lv_icmp_eq (tgt := 21) hx hb dX5_isOne_12 (by decide) (fun c_12 => ?_) (fun c_12 => ?_)
      · have c_12 : c0 = d0 := c_12
        refine lv_iconst (v := 1) hx hb dX5_isOne_21 (by decide) ?_
        refine lv_goto (tgt := 26) hx hb dX5_isOne_22 (by decide) ?_
        exact W.zret hx hb hr rfl (fun t ht hW => ⟨(by simp only [f_isOne, eq_false c_2, eq_false c_7, eq_true c_12, ↓reduceIte, not_false_eq_true, not_true_eq_false, eq_self]), ht⟩) (fun q h => nomatch h) dX5_isOne_26 hlocks
      · have c_12 : ¬ (c0 = d0) := c_12
        refine lv_iload_n hx hb dX5_isOne_15 rfl (lv_at hl 0 rfl) ?_
        refine lv_iload hx hb dX5_isOne_16 (lv_at hl 4 rfl) ?_
        refine lv_icmp_ne (tgt := 25) hx hb dX5_isOne_18 (by decide) (fun c_18 => ?_) (fun c_18 => ?_)
        · have c_18 : ¬ (c0 = e0) := c_18
          refine lv_iconst (v := 0) hx hb dX5_isOne_25 (by decide) ?_
          exact W.zret hx hb hr rfl (fun t ht hW => ⟨(by simp only [f_isOne, eq_false c_2, eq_false c_7, eq_false c_12, eq_false c_18, ↓reduceIte, not_false_eq_true, not_true_eq_false, eq_self]), ht⟩) (fun q h => nomatch h) dX5_isOne_26 hlocks
        · have c_18 : c0 = e0 := c_18
          refine lv_iconst (v := 1) hx hb dX5_isOne_21 (by decide) ?_
          refine lv_goto (tgt := 26) hx hb dX5_isOne_22 (by decide) ?_
          exact W.zret hx hb hr rfl (fun t ht hW => ⟨(by simp only [f_isOne, eq_false c_2, eq_false c_7, eq_false c_12, eq_true c_18, ↓reduceIte, not_false_eq_true, not_true_eq_false, eq_self]), ht⟩) (fun q h => nomatch h) dX5_isOne_26 hlocks
def f_cut_L5 (v0 : Int64) (k0 : Int32) : Nat → Int64 → Int32 → Int64
  | 0, _, _ => 0
  | f + 1, w0, j0 => if k0 ≤ j0 then w0 else f_cut_L5 v0 k0 f (w0 / 10) (j0 + 1)
def f_cut (v0 : Int64) (k0 : Int32) : Int64 := f_cut_L5 v0 k0 ((k0.toInt.toNat + 1)) v0 0
set_option maxHeartbeats 4000000 in
set_option maxRecDepth 100000 in
theorem c_M_cut_L5 {p : Program} (l : Launch) {e : Env} {s : State} {m : MethodId} {below : List Frame} {meth : Method} {c : Code} (v0 : Int64) (k0 : Int32) (hx : p.tables.exec = Jvm.exec) (hb : c.code = cX5_cut) (hts : ∀ w ∈ wsX5_cut, w.before ([.long v0, .int k0] : List Value).toArray s = true) (hown : s.vm.findClass RX5 = some m.cls) (hr : meth.sig.returnType = (some .long)) (hlocks : meth.locks = false) (hml : c.maxLocals = 6) :
    ∀ (fu : Nat) (w0 : Int64) (j0 : Int32), f_cut v0 k0 = f_cut_L5 v0 k0 fu w0 j0 → ((k0.toInt - j0.toInt).toNat < fu) → ∀ ls : Array Slot, lv_has ls 6 [(0, .long v0), (2, .int k0), (3, .long w0), (5, .int j0)] → W p l e ({ frames := 0, cells := 0, slots := 0, locals := 0 } : Room) s m ([.long v0, .int k0] : List Value).toArray below meth c s.heap [] 0 0 (MQ below (QcReadL (f_cut v0 k0)) ([.long v0, .int k0] : List Value).toArray s 0 0 (fun _ => False)) (F0 m 5 ls []) := by
  intro fu
  induction fu with
  | zero =>
    intro w0 j0 hI hm
    exact absurd hm (Nat.not_lt_zero _)
  | succ fu ih =>
    intro w0 j0 hI hm ls hl
    refine lv_iload hx hb dX5_cut_5 (lv_at hl 3 rfl) ?_
    refine lv_iload_n hx hb dX5_cut_7 rfl (lv_at hl 1 rfl) ?_
    refine lv_icmp_ge (tgt := 23) hx hb dX5_cut_8 (by decide) (fun c_8 => ?_) (fun c_8 => ?_)
    · have c_8 : k0 ≤ j0 := c_8
      refine lv_lload_n hx hb dX5_cut_23 rfl (lv_at hl 2 rfl) ?_
      exact W.lret hx hb hr (fun t ht hW => ⟨(by rw [hI]; simp only [f_cut_L5, eq_true c_8, ↓reduceIte, not_false_eq_true, not_true_eq_false, eq_self]), ht⟩) (fun q h => nomatch h) dX5_cut_24 hlocks
    · have c_8 : ¬ (k0 ≤ j0) := c_8
      refine lv_lload_n hx hb dX5_cut_11 rfl (lv_at hl 2 rfl) ?_
      refine lv_ldc2 (v := 10) hx hb hown (hts (.constantLong RX5 69 (10)) (by decide +kernel)) dX5_cut_12 ?_
      refine lv_ldiv hx hb dX5_cut_15 (by decide) ?_
      refine lv_lstore_n (lv' := [(3, .long (w0 / 10)), (0, .long v0), (2, .int k0), (5, .int j0)]) hx hb dX5_cut_16 rfl hl (by decide) rfl (fun ls hl => ?_)
      refine lv_iinc (v := (j0 + 1)) (lv' := [(5, .int (j0 + 1)), (3, .long (w0 / 10)), (0, .long v0), (2, .int k0)]) hx hb dX5_cut_17 hl (k := 3) rfl rfl (by decide) rfl (fun ls hl => ?_)
      refine lv_goto (tgt := 5) hx hb dX5_cut_20 (by decide) ?_
      exact ih (w0 / 10) (j0 + 1) (by rw [hI]; simp only [f_cut_L5, eq_false c_8, ↓reduceIte]) (mu_inc hm c_8) ls (lv_sub hl [2, 3, 1, 0] rfl)
set_option maxHeartbeats 4000000 in
set_option maxRecDepth 100000 in
theorem c_M_cut (l : Launch) (v0 : Int64) (k0 : Int32) : Met l yX5_cut wsX5_cut ({ frames := 0, cells := 0, slots := 0, locals := 0 } : Room) (va_Pc [.long v0, .int k0] (fun _ => True)) (QcReadL (f_cut v0 k0)) 0 0 (fun _ => False) := by
  refine s_ofW (cc := cX5_cut) (maxL := 6) (ret := (some .long)) (cls := RX5) (by decide) rfl rfl (Nat.le_of_ble_eq_true rfl) ?_
  intro p e s m below meth c hx hb hts hown hr hlocks hml ls hl
  have hl : lv_has ls 6 [(0, .long v0), (2, .int k0)] := hl
  refine lv_lload_n hx hb dX5_cut_0 rfl (lv_at hl 0 rfl) ?_
  refine lv_lstore_n (lv' := [(3, .long v0), (0, .long v0), (2, .int k0)]) hx hb dX5_cut_1 rfl hl (by decide) rfl (fun ls hl => ?_)
  refine lv_iconst (v := 0) hx hb dX5_cut_2 (by decide) ?_
  refine lv_istore (lv' := [(5, .int 0), (3, .long v0), (0, .long v0), (2, .int k0)]) hx hb dX5_cut_3 hl (by decide) rfl (fun ls hl => ?_)
  exact c_M_cut_L5 l v0 k0 hx hb hts hown hr hlocks hml (k0.toInt.toNat + 1) v0 0 (by simp only [f_cut, ↓reduceIte]) (mu_0 _) ls (lv_sub hl [2, 3, 1, 0] rfl)
set_option maxHeartbeats 4000000 in
set_option maxRecDepth 100000 in
theorem c_M_fail (l : Launch) (dC : Nat → ClassId) (dI : Nat → Nat → Nat) (cI cJ : ClassId) (h : Nat) (ad : Nat → Nat) (sz : Nat) (σ : MS) (n0 : Int32) : Met l yX5_fail wsX5_fail ({ frames := 0, cells := 0, slots := 0, locals := 0 } : Room) (va_Pc [.ref h, .int n0] (mPre dC dI cI cJ h ad sz σ)) (va_Qi (fun r u => r = 0 ∧ u = (si σ 16 n0)) (mAt dC dI cI cJ h ad (mA h ad cI cJ σ sz)) (mA h ad cI cJ σ sz)) 0 0 (mA h ad cI cJ σ sz) := by
  refine m_ofW (cc := cX5_fail) (maxL := 2) (ret := (some .boolean)) (by decide) rfl (by decide +kernel) rfl (Nat.le_of_ble_eq_true rfl) ?_
  intro p e s m below meth c X G hA hr hlocks hml ls hl
  have hl : lv_has ls 2 [(0, .ref h), (1, .int n0)] := hl
  have hx := X.1
  have hb := X.2.1
  have hts := X.2.2.1
  have hown := X.2.2.2.2.1
  refine lv_aload_n hx hb dX5_fail_0 rfl (lv_at hl 0 rfl) ?_
  refine lv_iload_n hx hb dX5_fail_1 rfl (lv_at hl 1 rfl) ?_
  refine m_put_16 X G (by decide +kernel) dX5_fail_2 (fun H locs G => ?_)
  refine lv_iconst (v := 0) hx hb dX5_fail_5 (by decide) ?_
  exact m_zret X G hr hlocks rfl ⟨rfl, rfl⟩ dX5_fail_6
def F_have (σ : MS) (n0 : Int32) : Int32 × MS := if n0 ≤ (σ.1 5) then ((1, σ)) else (0, (si σ 16 2))
set_option maxHeartbeats 4000000 in
set_option maxRecDepth 100000 in
theorem c_M_have (l : Launch) (dC : Nat → ClassId) (dI : Nat → Nat → Nat) (cI cJ : ClassId) (h : Nat) (ad : Nat → Nat) (sz : Nat) (σ : MS) (n0 : Int32) : Met l yX5_have wsX5_have ({ frames := 1, cells := 0, slots := 0, locals := 21 } : Room) (va_Pc [.ref h, .int n0] (mPre dC dI cI cJ h ad sz σ)) (va_Qi (fun r u => F_have σ n0 = (r, u)) (mAt dC dI cI cJ h ad (mA h ad cI cJ σ sz)) (mA h ad cI cJ σ sz)) 0 0 (mA h ad cI cJ σ sz) := by
  refine m_ofW (cc := cX5_have) (maxL := 2) (ret := (some .boolean)) (by decide) rfl (by decide +kernel) rfl (Nat.le_of_ble_eq_true rfl) ?_
  intro p e s m below meth c X G hA hr hlocks hml ls hl
  have hl : lv_has ls 2 [(0, .ref h), (1, .int n0)] := hl
  have hx := X.1
  have hb := X.2.1
  have hts := X.2.2.1
  have hown := X.2.2.2.2.1
  refine lv_aload_n hx hb dX5_have_0 rfl (lv_at hl 0 rfl) ?_
  refine m_get_5 X G (by decide +kernel) dX5_have_1 ?_
  refine lv_iload_n hx hb dX5_have_4 rfl (lv_at hl 1 rfl) ?_
  refine lv_icmp_ge (tgt := 16) hx hb dX5_have_5 (by decide) (fun c_5 => ?_) (fun c_5 => ?_)
  · have c_5 : n0 ≤ (σ.1 5) := c_5
    refine lv_iconst (v := 1) hx hb dX5_have_16 (by decide) ?_
    refine lv_goto (tgt := 21) hx hb dX5_have_17 (by decide) ?_
    exact m_zret X G hr hlocks rfl (by simp only [F_have, eq_true c_5, ↓reduceIte, si_self, sm_self, si_snd, sm_fst, si20_16, not_false_eq_true, not_true_eq_false, eq_self] <;> rfl) dX5_have_21
  · have c_5 : ¬ (n0 ≤ (σ.1 5)) := c_5
    refine lv_aload_n hx hb dX5_have_8 rfl (lv_at hl 0 rfl) ?_
    refine lv_iconst (v := 2) hx hb dX5_have_9 (by decide) ?_
    refine m_calli (As := [.int 2]) (rest := []) X hml G hA (c_M_fail l dC dI cI cJ h ad _ σ 2) (cwV 1 hts gX5_have_X5_fail rfl rfl rfl (by decide +kernel) ⟨Nat.le_of_ble_eq_true rfl, Nat.le_of_ble_eq_true rfl⟩) rfl hl.1 rfl (Nat.le_of_ble_eq_true rfl) dX5_have_10 ⟨Nat.zero_le _, Nat.zero_le _⟩ (fun r_10 u_10 H locs hw_10 G => ?_)
    obtain ⟨rfl, rfl⟩ := hw_10
    refine lv_if_eq (tgt := 20) hx hb dX5_have_13 (by decide) (fun c9 => ?_) (fun c9 => absurd (show (0 : Int32) = 0 from by decide) c9)
    refine lv_iconst (v := 0) hx hb dX5_have_20 (by decide) ?_
    exact m_zret X G hr hlocks rfl (by simp only [F_have, eq_false c_5, ↓reduceIte, si_self, sm_self, si_snd, sm_fst, si20_16, not_false_eq_true, not_true_eq_false, eq_self] <;> rfl) dX5_have_21
def F_room (σ : MS) : Int32 × MS := if (σ.1 5) < 40 then ((1, σ)) else (0, (si σ 16 5))
set_option maxHeartbeats 4000000 in
set_option maxRecDepth 100000 in
theorem c_M_room (l : Launch) (dC : Nat → ClassId) (dI : Nat → Nat → Nat) (cI cJ : ClassId) (h : Nat) (ad : Nat → Nat) (sz : Nat) (σ : MS) : Met l yX5_room wsX5_room ({ frames := 1, cells := 0, slots := 0, locals := 21 } : Room) (va_Pc [.ref h] (mPre dC dI cI cJ h ad sz σ)) (va_Qi (fun r u => F_room σ = (r, u)) (mAt dC dI cI cJ h ad (mA h ad cI cJ σ sz)) (mA h ad cI cJ σ sz)) 0 0 (mA h ad cI cJ σ sz) := by
  refine m_ofW (cc := cX5_room) (maxL := 1) (ret := (some .boolean)) (by decide) rfl (by decide +kernel) rfl (Nat.le_of_ble_eq_true rfl) ?_
  intro p e s m below meth c X G hA hr hlocks hml ls hl
  have hl : lv_has ls 1 [(0, .ref h)] := hl
  have hx := X.1
  have hb := X.2.1
  have hts := X.2.2.1
  have hown := X.2.2.2.2.1
  refine lv_aload_n hx hb dX5_room_0 rfl (lv_at hl 0 rfl) ?_
  refine m_get_5 X G (by decide +kernel) dX5_room_1 ?_
  refine lv_bipush (v := 40) hx hb dX5_room_4 (by decide) ?_
  refine lv_icmp_lt (tgt := 17) hx hb dX5_room_6 (by decide) (fun c_6 => ?_) (fun c_6 => ?_)
  · have c_6 : (σ.1 5) < 40 := c_6
    refine lv_iconst (v := 1) hx hb dX5_room_17 (by decide) ?_
    refine lv_goto (tgt := 22) hx hb dX5_room_18 (by decide) ?_
    exact m_zret X G hr hlocks rfl (by simp only [F_room, eq_true c_6, ↓reduceIte, si_self, sm_self, si_snd, sm_fst, si20_16, not_false_eq_true, not_true_eq_false, eq_self] <;> rfl) dX5_room_22
  · have c_6 : ¬ ((σ.1 5) < 40) := c_6
    refine lv_aload_n hx hb dX5_room_9 rfl (lv_at hl 0 rfl) ?_
    refine lv_iconst (v := 5) hx hb dX5_room_10 (by decide) ?_
    refine m_calli (As := [.int 5]) (rest := []) X hml G hA (c_M_fail l dC dI cI cJ h ad _ σ 5) (cwV 1 hts gX5_room_X5_fail rfl rfl rfl (by decide +kernel) ⟨Nat.le_of_ble_eq_true rfl, Nat.le_of_ble_eq_true rfl⟩) rfl hl.1 rfl (Nat.le_of_ble_eq_true rfl) dX5_room_11 ⟨Nat.zero_le _, Nat.zero_le _⟩ (fun r_11 u_11 H locs hw_11 G => ?_)
    obtain ⟨rfl, rfl⟩ := hw_11
    refine lv_if_eq (tgt := 21) hx hb dX5_room_14 (by decide) (fun c9 => ?_) (fun c9 => absurd (show (0 : Int32) = 0 from by decide) c9)
    refine lv_iconst (v := 0) hx hb dX5_room_21 (by decide) ?_
    exact m_zret X G hr hlocks rfl (by simp only [F_room, eq_false c_6, ↓reduceIte, si_self, sm_self, si_snd, sm_fst, si20_16, not_false_eq_true, not_true_eq_false, eq_self] <;> rfl) dX5_room_22
def F_put (σ : MS) (n0 : Int32) (v0 : Int64) (p0 : Int32) : MS := (si (sa (sb (si σ 5 ((σ.1 5) - n0)) 2 ((σ.1 5) - n0).toNatClampNeg v0) 3 ((σ.1 5) - n0).toNatClampNeg p0) 5 (((σ.1 5) - n0) + 1))
set_option maxHeartbeats 4000000 in
set_option maxRecDepth 100000 in
theorem c_M_put (l : Launch) (dC : Nat → ClassId) (dI : Nat → Nat → Nat) (cI cJ : ClassId) (h : Nat) (ad : Nat → Nat) (sz : Nat) (σ : MS) (n0 : Int32) (v0 : Int64) (p0 : Int32) (h0 : 0 ≤ (σ.1 5).toInt - n0.toInt) (h1 : (σ.1 5).toInt - n0.toInt < 82) : Met l yX5_put wsX5_put ({ frames := 0, cells := 0, slots := 0, locals := 0 } : Room) (va_Pc [.ref h, .int n0, .long v0, .int p0] (mPre dC dI cI cJ h ad sz σ)) (va_Qv (fun u => u = F_put σ n0 v0 p0) (mAt dC dI cI cJ h ad (mA h ad cI cJ σ sz)) (mA h ad cI cJ σ sz)) 0 0 (mA h ad cI cJ σ sz) := by
  refine m_ofW (cc := cX5_put) (maxL := 5) (ret := none) (by decide) rfl (by decide +kernel) rfl (Nat.le_of_ble_eq_true rfl) ?_
  intro p e s m below meth c X G hA hr hlocks hml ls hl
  have hl : lv_has ls 5 [(0, .ref h), (1, .int n0), (2, .long v0), (4, .int p0)] := hl
  have hx := X.1
  have hb := X.2.1
  have hts := X.2.2.1
  have hown := X.2.2.2.2.1
  refine lv_aload_n hx hb dX5_put_0 rfl (lv_at hl 0 rfl) ?_
  refine lv_dup hx hb dX5_put_1 rfl ?_
  refine m_get_5 X G (by decide +kernel) dX5_put_2 ?_
  refine lv_iload_n hx hb dX5_put_5 rfl (lv_at hl 1 rfl) ?_
  refine lv_isub hx hb dX5_put_6 ?_
  refine m_put_5 X G (by decide +kernel) dX5_put_7 (fun H locs G => ?_)
  refine lv_aload_n hx hb dX5_put_10 rfl (lv_at hl 0 rfl) ?_
  refine m_get_2 X G (by decide +kernel) dX5_put_11 ?_
  refine lv_aload_n hx hb dX5_put_14 rfl (lv_at hl 0 rfl) ?_
  refine m_get_5 X G (by decide +kernel) dX5_put_15 ?_
  refine lv_lload_n hx hb dX5_put_18 rfl (lv_at hl 2 rfl) ?_
  refine m_st_2 X G (vin (i_subE (rfl : (σ.1 5).toInt = _) (rfl : n0.toInt = _) (by omega) (by omega)) (by omega) (by omega)) dX5_put_19 (fun H locs G => ?_)
  refine lv_aload_n hx hb dX5_put_20 rfl (lv_at hl 0 rfl) ?_
  refine m_get_3 X G (by decide +kernel) dX5_put_21 ?_
  refine lv_aload_n hx hb dX5_put_24 rfl (lv_at hl 0 rfl) ?_
  refine m_get_5 X G (by decide +kernel) dX5_put_25 ?_
  refine lv_iload hx hb dX5_put_28 (lv_at hl 3 rfl) ?_
  refine m_st_3 X G (vin (i_subE (rfl : (σ.1 5).toInt = _) (rfl : n0.toInt = _) (by omega) (by omega)) (by omega) (by omega)) dX5_put_30 (fun H locs G => ?_)
  refine lv_aload_n hx hb dX5_put_31 rfl (lv_at hl 0 rfl) ?_
  refine lv_dup hx hb dX5_put_32 rfl ?_
  refine m_get_5 X G (by decide +kernel) dX5_put_33 ?_
  refine lv_iconst (v := 1) hx hb dX5_put_36 (by decide) ?_
  refine lv_iadd hx hb dX5_put_37 ?_
  refine m_put_5 X G (by decide +kernel) dX5_put_38 (fun H locs G => ?_)
  exact m_vret X G hr hlocks rfl dX5_put_41
def F_topOf (σ : MS) (r0 : Int32) : Int32 := (((40 + (10 * r0)) + (σ.2.2.1 7 r0.toNatClampNeg)) - 1)
set_option maxHeartbeats 4000000 in
set_option maxRecDepth 100000 in
theorem c_M_topOf (l : Launch) (dC : Nat → ClassId) (dI : Nat → Nat → Nat) (cI cJ : ClassId) (h : Nat) (ad : Nat → Nat) (sz : Nat) (σ : MS) (r0 : Int32) (h0 : 0 ≤ r0.toInt) (h1 : r0.toInt < 4) : Met l yX5_topOf wsX5_topOf ({ frames := 0, cells := 0, slots := 0, locals := 0 } : Room) (va_Pc [.ref h, .int r0] (mPre dC dI cI cJ h ad sz σ)) (va_Qi (fun r u => r = F_topOf σ r0 ∧ u = σ) (mAt dC dI cI cJ h ad (mA h ad cI cJ σ sz)) (mA h ad cI cJ σ sz)) 0 0 (mA h ad cI cJ σ sz) := by
  refine m_ofW (cc := cX5_topOf) (maxL := 2) (ret := (some .int)) (by decide) rfl (by decide +kernel) rfl (Nat.le_of_ble_eq_true rfl) ?_
  intro p e s m below meth c X G hA hr hlocks hml ls hl
  have hl : lv_has ls 2 [(0, .ref h), (1, .int r0)] := hl
  have hx := X.1
  have hb := X.2.1
  have hts := X.2.2.1
  have hown := X.2.2.2.2.1
  refine lv_bipush (v := 40) hx hb dX5_topOf_0 (by decide) ?_
  refine lv_bipush (v := 10) hx hb dX5_topOf_2 (by decide) ?_
  refine lv_iload_n hx hb dX5_topOf_4 rfl (lv_at hl 1 rfl) ?_
  refine lv_imul hx hb dX5_topOf_5 ?_
  refine lv_iadd hx hb dX5_topOf_6 ?_
  refine lv_aload_n hx hb dX5_topOf_7 rfl (lv_at hl 0 rfl) ?_
  refine m_get_7 X G (by decide +kernel) dX5_topOf_8 ?_
  refine lv_iload_n hx hb dX5_topOf_11 rfl (lv_at hl 1 rfl) ?_
  refine m_ld_7 X G (vin (rfl : r0.toInt = _) (by omega) (by omega)) dX5_topOf_12 ?_
  refine lv_iadd hx hb dX5_topOf_13 ?_
  refine lv_iconst (v := 1) hx hb dX5_topOf_14 (by decide) ?_
  refine lv_isub hx hb dX5_topOf_15 ?_
  exact m_iret X G hr hlocks ⟨(by simp only [F_topOf, ↓reduceIte, si_self, sm_self, si_snd, sm_fst, si20_16, not_false_eq_true, not_true_eq_false, eq_self] <;> rfl), rfl⟩ dX5_topOf_16
set_option maxHeartbeats 4000000 in
set_option maxRecDepth 100000 in
theorem c_M_thrown (l : Launch) (dC : Nat → ClassId) (dI : Nat → Nat → Nat) (cI cJ : ClassId) (h : Nat) (ad : Nat → Nat) (sz : Nat) (σ : MS) : Met l yX5_thrown wsX5_thrown ({ frames := 0, cells := 0, slots := 0, locals := 0 } : Room) (va_Pc [.ref h] (mPre dC dI cI cJ h ad sz σ)) (va_Qi (fun r u => r = (σ.1 17) ∧ u = σ) (mAt dC dI cI cJ h ad (mA h ad cI cJ σ sz)) (mA h ad cI cJ σ sz)) 0 0 (mA h ad cI cJ σ sz) := by
  refine m_ofW (cc := cX5_thrown) (maxL := 1) (ret := (some .int)) (by decide) rfl (by decide +kernel) rfl (Nat.le_of_ble_eq_true rfl) ?_
  intro p e s m below meth c X G hA hr hlocks hml ls hl
  have hl : lv_has ls 1 [(0, .ref h)] := hl
  have hx := X.1
  have hb := X.2.1
  have hts := X.2.2.1
  have hown := X.2.2.2.2.1
  refine lv_aload_n hx hb dX5_thrown_0 rfl (lv_at hl 0 rfl) ?_
  refine m_get_17 X G (by decide +kernel) dX5_thrown_1 ?_
  exact m_iret X G hr hlocks ⟨rfl, rfl⟩ dX5_thrown_4
def F_cost (σ : MS) : Int32 × MS := ((σ.1 15), (si σ 17 0))
set_option maxHeartbeats 4000000 in
set_option maxRecDepth 100000 in
theorem c_M_cost (l : Launch) (dC : Nat → ClassId) (dI : Nat → Nat → Nat) (cI cJ : ClassId) (h : Nat) (ad : Nat → Nat) (sz : Nat) (σ : MS) : Met l yX5_cost wsX5_cost ({ frames := 0, cells := 0, slots := 0, locals := 0 } : Room) (va_Pc [.ref h] (mPre dC dI cI cJ h ad sz σ)) (va_Qi (fun r u => F_cost σ = (r, u)) (mAt dC dI cI cJ h ad (mA h ad cI cJ σ sz)) (mA h ad cI cJ σ sz)) 0 0 (mA h ad cI cJ σ sz) := by
  refine m_ofW (cc := cX5_cost) (maxL := 1) (ret := (some .int)) (by decide) rfl (by decide +kernel) rfl (Nat.le_of_ble_eq_true rfl) ?_
  intro p e s m below meth c X G hA hr hlocks hml ls hl
  have hl : lv_has ls 1 [(0, .ref h)] := hl
  have hx := X.1
  have hb := X.2.1
  have hts := X.2.2.1
  have hown := X.2.2.2.2.1
  refine lv_aload_n hx hb dX5_cost_0 rfl (lv_at hl 0 rfl) ?_
  refine lv_iconst (v := 0) hx hb dX5_cost_1 (by decide) ?_
  refine m_put_17 X G (by decide +kernel) dX5_cost_2 (fun H locs G => ?_)
  refine lv_aload_n hx hb dX5_cost_5 rfl (lv_at hl 0 rfl) ?_
  refine m_get_15 X G (by decide +kernel) dX5_cost_6 ?_
  exact m_iret X G hr hlocks rfl dX5_cost_9
def F_prints (σ : MS) : Int32 × MS := ((σ.1 14), (si σ 17 0))
set_option maxHeartbeats 4000000 in
set_option maxRecDepth 100000 in
theorem c_M_prints (l : Launch) (dC : Nat → ClassId) (dI : Nat → Nat → Nat) (cI cJ : ClassId) (h : Nat) (ad : Nat → Nat) (sz : Nat) (σ : MS) : Met l yX5_prints wsX5_prints ({ frames := 0, cells := 0, slots := 0, locals := 0 } : Room) (va_Pc [.ref h] (mPre dC dI cI cJ h ad sz σ)) (va_Qi (fun r u => F_prints σ = (r, u)) (mAt dC dI cI cJ h ad (mA h ad cI cJ σ sz)) (mA h ad cI cJ σ sz)) 0 0 (mA h ad cI cJ σ sz) := by
  refine m_ofW (cc := cX5_prints) (maxL := 1) (ret := (some .int)) (by decide) rfl (by decide +kernel) rfl (Nat.le_of_ble_eq_true rfl) ?_
  intro p e s m below meth c X G hA hr hlocks hml ls hl
  have hl : lv_has ls 1 [(0, .ref h)] := hl
  have hx := X.1
  have hb := X.2.1
  have hts := X.2.2.1
  have hown := X.2.2.2.2.1
  refine lv_aload_n hx hb dX5_prints_0 rfl (lv_at hl 0 rfl) ?_
  refine lv_iconst (v := 0) hx hb dX5_prints_1 (by decide) ?_
  refine m_put_17 X G (by decide +kernel) dX5_prints_2 (fun H locs G => ?_)
  refine lv_aload_n hx hb dX5_prints_5 rfl (lv_at hl 0 rfl) ?_
  refine m_get_14 X G (by decide +kernel) dX5_prints_6 ?_
  exact m_iret X G hr hlocks rfl dX5_prints_9
def F_depth (σ : MS) : Int32 × MS := ((σ.1 5), (si σ 17 0))
set_option maxHeartbeats 4000000 in
set_option maxRecDepth 100000 in
theorem c_M_depth (l : Launch) (dC : Nat → ClassId) (dI : Nat → Nat → Nat) (cI cJ : ClassId) (h : Nat) (ad : Nat → Nat) (sz : Nat) (σ : MS) : Met l yX5_depth wsX5_depth ({ frames := 0, cells := 0, slots := 0, locals := 0 } : Room) (va_Pc [.ref h] (mPre dC dI cI cJ h ad sz σ)) (va_Qi (fun r u => F_depth σ = (r, u)) (mAt dC dI cI cJ h ad (mA h ad cI cJ σ sz)) (mA h ad cI cJ σ sz)) 0 0 (mA h ad cI cJ σ sz) := by
  refine m_ofW (cc := cX5_depth) (maxL := 1) (ret := (some .int)) (by decide) rfl (by decide +kernel) rfl (Nat.le_of_ble_eq_true rfl) ?_
  intro p e s m below meth c X G hA hr hlocks hml ls hl
  have hl : lv_has ls 1 [(0, .ref h)] := hl
  have hx := X.1
  have hb := X.2.1
  have hts := X.2.2.1
  have hown := X.2.2.2.2.1
  refine lv_aload_n hx hb dX5_depth_0 rfl (lv_at hl 0 rfl) ?_
  refine lv_iconst (v := 0) hx hb dX5_depth_1 (by decide) ?_
  refine m_put_17 X G (by decide +kernel) dX5_depth_2 (fun H locs G => ?_)
  refine lv_aload_n hx hb dX5_depth_5 rfl (lv_at hl 0 rfl) ?_
  refine m_get_5 X G (by decide +kernel) dX5_depth_6 ?_
  exact m_iret X G hr hlocks rfl dX5_depth_9
def F_precision (σ : MS) : Int32 × MS := ((σ.1 6), (si σ 17 0))
set_option maxHeartbeats 4000000 in
set_option maxRecDepth 100000 in
theorem c_M_precision (l : Launch) (dC : Nat → ClassId) (dI : Nat → Nat → Nat) (cI cJ : ClassId) (h : Nat) (ad : Nat → Nat) (sz : Nat) (σ : MS) : Met l yX5_precision wsX5_precision ({ frames := 0, cells := 0, slots := 0, locals := 0 } : Room) (va_Pc [.ref h] (mPre dC dI cI cJ h ad sz σ)) (va_Qi (fun r u => F_precision σ = (r, u)) (mAt dC dI cI cJ h ad (mA h ad cI cJ σ sz)) (mA h ad cI cJ σ sz)) 0 0 (mA h ad cI cJ σ sz) := by
  refine m_ofW (cc := cX5_precision) (maxL := 1) (ret := (some .int)) (by decide) rfl (by decide +kernel) rfl (Nat.le_of_ble_eq_true rfl) ?_
  intro p e s m below meth c X G hA hr hlocks hml ls hl
  have hl : lv_has ls 1 [(0, .ref h)] := hl
  have hx := X.1
  have hb := X.2.1
  have hts := X.2.2.1
  have hown := X.2.2.2.2.1
  refine lv_aload_n hx hb dX5_precision_0 rfl (lv_at hl 0 rfl) ?_
  refine lv_iconst (v := 0) hx hb dX5_precision_1 (by decide) ?_
  refine m_put_17 X G (by decide +kernel) dX5_precision_2 (fun H locs G => ?_)
  refine lv_aload_n hx hb dX5_precision_5 rfl (lv_at hl 0 rfl) ?_
  refine m_get_6 X G (by decide +kernel) dX5_precision_6 ?_
  exact m_iret X G hr hlocks rfl dX5_precision_9
def F_erase (σ : MS) : Int32 × MS := ((σ.1 1), (si (si σ 17 0) 1 0))
set_option maxHeartbeats 4000000 in
set_option maxRecDepth 100000 in
theorem c_M_erase (l : Launch) (dC : Nat → ClassId) (dI : Nat → Nat → Nat) (cI cJ : ClassId) (h : Nat) (ad : Nat → Nat) (sz : Nat) (σ : MS) : Met l yX5_erase wsX5_erase ({ frames := 0, cells := 0, slots := 0, locals := 0 } : Room) (va_Pc [.ref h] (mPre dC dI cI cJ h ad sz σ)) (va_Qi (fun r u => F_erase σ = (r, u)) (mAt dC dI cI cJ h ad (mA h ad cI cJ σ sz)) (mA h ad cI cJ σ sz)) 0 0 (mA h ad cI cJ σ sz) := by
  refine m_ofW (cc := cX5_erase) (maxL := 2) (ret := (some .int)) (by decide) rfl (by decide +kernel) rfl (Nat.le_of_ble_eq_true rfl) ?_
  intro p e s m below meth c X G hA hr hlocks hml ls hl
  have hl : lv_has ls 2 [(0, .ref h)] := hl
  have hx := X.1
  have hb := X.2.1
  have hts := X.2.2.1
  have hown := X.2.2.2.2.1
  refine lv_aload_n hx hb dX5_erase_0 rfl (lv_at hl 0 rfl) ?_
  refine lv_iconst (v := 0) hx hb dX5_erase_1 (by decide) ?_
  refine m_put_17 X G (by decide +kernel) dX5_erase_2 (fun H locs G => ?_)
  refine lv_aload_n hx hb dX5_erase_5 rfl (lv_at hl 0 rfl) ?_
  refine m_get_1 X G (by decide +kernel) dX5_erase_6 ?_
  refine lv_istore_n (lv' := [(1, .int (σ.1 1)), (0, .ref h)]) hx hb dX5_erase_9 rfl hl (by decide) rfl (fun ls hl => ?_)
  refine lv_aload_n hx hb dX5_erase_10 rfl (lv_at hl 1 rfl) ?_
  refine lv_iconst (v := 0) hx hb dX5_erase_11 (by decide) ?_
  refine m_put_1 X G (by decide +kernel) dX5_erase_12 (fun H locs G => ?_)
  refine lv_iload_n hx hb dX5_erase_15 rfl (lv_at hl 0 rfl) ?_
  exact m_iret X G hr hlocks rfl dX5_erase_16
def F_raised_L6 (v0 : Int64) (k0 : Int32) : Nat → Int64 → Int32 → MS → Int64 × MS
  | 0, _, _, τ => (0, τ)
  | f + 1, w0, j0, τ => if k0 ≤ j0 then ((w0, τ)) else if (τ.1 16) = 0 then (if 99999999999999999 < w0 then (F_raised_L6 v0 k0 f w0 (j0 + 1) (si τ 16 5)) else if (-99999999999999999) ≤ w0 then (F_raised_L6 v0 k0 f (w0 * 10) (j0 + 1) τ) else F_raised_L6 v0 k0 f w0 (j0 + 1) (si τ 16 5)) else (w0, τ)
def F_raised (σ : MS) (v0 : Int64) (k0 : Int32) : Int64 × MS := F_raised_L6 v0 k0 ((k0.toInt.toNat + 1)) v0 0 σ
set_option maxHeartbeats 4000000 in
set_option maxRecDepth 100000 in
theorem c_M_raised_L6 {p : Program} (l : Launch) {e : Env} {s : State} {m : MethodId} {below : List Frame} {meth : Method} {c : Code} {dC : Nat → ClassId} {dI : Nat → Nat → Nat} {cI cJ : ClassId} {h : Nat} {ad : Nat → Nat} {sz : Nat} (σ : MS) (v0 : Int64) (k0 : Int32) (X : mX p s m ([.ref h, .long v0, .int k0] : List Value).toArray c cX5_raised wsX5_raised dC dI cI cJ) (hA : ∀ q : Nat, s.heap.size ≤ q → mA h ad cI cJ σ sz q) (hr : meth.sig.returnType = (some .long)) (hlocks : meth.locks = false) (hml : c.maxLocals = 7) :
    ∀ (fu : Nat) (w0 : Int64) (j0 : Int32) (τ : MS), F_raised σ v0 k0 = F_raised_L6 v0 k0 fu w0 j0 τ → ((k0.toInt - j0.toInt).toNat < fu) → ∀ (H : Heap) (locs : List Loc), mH dC dI h ad cI cJ τ (mA h ad cI cJ σ sz) s.heap H locs → ∀ ls : Array Slot, lv_has ls 7 [(0, .ref h), (1, .long v0), (3, .int k0), (4, .long w0), (6, .int j0)] → W p l e ({ frames := 0, cells := 0, slots := 0, locals := 0 } : Room) s m ([.ref h, .long v0, .int k0] : List Value).toArray below meth c H locs 0 0 (MQ below (va_Ql (fun r u => F_raised σ v0 k0 = (r, u)) (mAt dC dI cI cJ h ad (mA h ad cI cJ σ sz)) (mA h ad cI cJ σ sz)) ([.ref h, .long v0, .int k0] : List Value).toArray s 0 0 (mA h ad cI cJ σ sz)) (F0 m 6 ls []) := by
  have hx := X.1
  have hb := X.2.1
  have hts := X.2.2.1
  have hown := X.2.2.2.2.1
  intro fu
  induction fu with
  | zero =>
    intro w0 j0 τ hI hm
    exact absurd hm (Nat.not_lt_zero _)
  | succ fu ih =>
    intro w0 j0 τ hI hm H locs G ls hl
    refine lv_iload hx hb dX5_raised_6 (lv_at hl 4 rfl) ?_
    refine lv_iload_n hx hb dX5_raised_8 rfl (lv_at hl 2 rfl) ?_
    refine lv_icmp_ge (tgt := 59) hx hb dX5_raised_9 (by decide) (fun c_9 => ?_) (fun c_9 => ?_)
    · have c_9 : k0 ≤ j0 := c_9
      refine lv_lload hx hb dX5_raised_59 (lv_at hl 3 rfl) ?_
      exact m_lret X G hr hlocks (by rw [hI]; simp only [F_raised_L6, eq_true c_9, ↓reduceIte, si_self, sm_self, si_snd, sm_fst, si20_16, not_false_eq_true, not_true_eq_false, eq_self] <;> rfl) dX5_raised_61
    · have c_9 : ¬ (k0 ≤ j0) := c_9
      refine lv_aload_n hx hb dX5_raised_12 rfl (lv_at hl 0 rfl) ?_
      refine m_get_16 X G (by decide +kernel) dX5_raised_13 ?_
      refine lv_if_ne (tgt := 59) hx hb dX5_raised_16 (by decide) (fun c_16 => ?_) (fun c_16 => ?_)
      · have c_16 : ¬ ((τ.1 16) = 0) := c_16
        refine lv_lload hx hb dX5_raised_59 (lv_at hl 3 rfl) ?_
        exact m_lret X G hr hlocks (by rw [hI]; simp only [F_raised_L6, eq_false c_9, eq_false c_16, ↓reduceIte, si_self, sm_self, si_snd, sm_fst, si20_16, not_false_eq_true, not_true_eq_false, eq_self] <;> rfl) dX5_raised_61
      · have c_16 : (τ.1 16) = 0 := c_16
        refine lv_lload hx hb dX5_raised_19 (lv_at hl 3 rfl) ?_
        refine lv_ldc2 (v := 99999999999999999) hx hb hown (hts (.constantLong RX5 65 (99999999999999999)) (by decide +kernel)) dX5_raised_21 ?_
        refine W.lcmp hx hb dX5_raised_24 ?_
        refine lv_if_gt (tgt := 37) hx hb dX5_raised_25 (by decide) (fun c_25 => ?_) (fun c_25 => ?_)
        · have c_25 := ((l_cmp_gt _ _).mp c_25)
          have c_25 : 99999999999999999 < w0 := c_25
          refine lv_aload_n hx hb dX5_raised_37 rfl (lv_at hl 0 rfl) ?_
          refine lv_iconst (v := 5) hx hb dX5_raised_38 (by decide) ?_
          refine m_put_16 X G (by decide +kernel) dX5_raised_39 (fun H locs G => ?_)
          refine lv_goto (tgt := 53) hx hb dX5_raised_42 (by decide) ?_
          refine lv_iinc (v := (j0 + 1)) (lv' := [(6, .int (j0 + 1)), (0, .ref h), (1, .long v0), (3, .int k0), (4, .long w0)]) hx hb dX5_raised_53 hl (k := 4) rfl rfl (by decide) rfl (fun ls hl => ?_)
          refine lv_goto (tgt := 6) hx hb dX5_raised_56 (by decide) ?_
          exact ih w0 (j0 + 1) (si τ 16 5) (by rw [hI]; simp only [F_raised_L6, eq_false c_9, eq_true c_16, eq_true c_25, ↓reduceIte, si_self, sm_self, si_snd, sm_fst, si20_16, not_false_eq_true, not_true_eq_false, eq_self] <;> rfl) (mu_inc hm c_9) H locs G ls (lv_sub hl [1, 2, 3, 4, 0] rfl)
        · have c_25 := (mt (l_cmp_gt _ _).mpr c_25)
          have c_25 : ¬ (99999999999999999 < w0) := c_25
          refine lv_lload hx hb dX5_raised_28 (lv_at hl 3 rfl) ?_
          refine lv_ldc2 (v := -99999999999999999) hx hb hown (hts (.constantLong RX5 67 (-99999999999999999)) (by decide +kernel)) dX5_raised_30 ?_
          refine W.lcmp hx hb dX5_raised_33 ?_
          refine lv_if_ge (tgt := 45) hx hb dX5_raised_34 (by decide) (fun c_34 => ?_) (fun c_34 => ?_)
          · have c_34 := ((l_cmp_ge _ _).mp c_34)
            have c_34 : (-99999999999999999) ≤ w0 := c_34
            refine lv_lload hx hb dX5_raised_45 (lv_at hl 3 rfl) ?_
            refine lv_ldc2 (v := 10) hx hb hown (hts (.constantLong RX5 69 (10)) (by decide +kernel)) dX5_raised_47 ?_
            refine lv_lmul hx hb dX5_raised_50 ?_
            refine lv_lstore (lv' := [(4, .long (w0 * 10)), (0, .ref h), (1, .long v0), (3, .int k0), (6, .int j0)]) hx hb dX5_raised_51 hl (by decide) rfl (fun ls hl => ?_)
            refine lv_iinc (v := (j0 + 1)) (lv' := [(6, .int (j0 + 1)), (4, .long (w0 * 10)), (0, .ref h), (1, .long v0), (3, .int k0)]) hx hb dX5_raised_53 hl (k := 4) rfl rfl (by decide) rfl (fun ls hl => ?_)
            refine lv_goto (tgt := 6) hx hb dX5_raised_56 (by decide) ?_
            exact ih (w0 * 10) (j0 + 1) τ (by rw [hI]; simp only [F_raised_L6, eq_false c_9, eq_true c_16, eq_false c_25, eq_true c_34, ↓reduceIte, si_self, sm_self, si_snd, sm_fst, si20_16, not_false_eq_true, not_true_eq_false, eq_self] <;> rfl) (mu_inc hm c_9) H locs G ls (lv_sub hl [2, 3, 4, 1, 0] rfl)
          · have c_34 := (mt (l_cmp_ge _ _).mpr c_34)
            have c_34 : ¬ ((-99999999999999999) ≤ w0) := c_34
            refine lv_aload_n hx hb dX5_raised_37 rfl (lv_at hl 0 rfl) ?_
            refine lv_iconst (v := 5) hx hb dX5_raised_38 (by decide) ?_
            refine m_put_16 X G (by decide +kernel) dX5_raised_39 (fun H locs G => ?_)
            refine lv_goto (tgt := 53) hx hb dX5_raised_42 (by decide) ?_
            refine lv_iinc (v := (j0 + 1)) (lv' := [(6, .int (j0 + 1)), (0, .ref h), (1, .long v0), (3, .int k0), (4, .long w0)]) hx hb dX5_raised_53 hl (k := 4) rfl rfl (by decide) rfl (fun ls hl => ?_)
            refine lv_goto (tgt := 6) hx hb dX5_raised_56 (by decide) ?_
            exact ih w0 (j0 + 1) (si τ 16 5) (by rw [hI]; simp only [F_raised_L6, eq_false c_9, eq_true c_16, eq_false c_25, eq_false c_34, ↓reduceIte, si_self, sm_self, si_snd, sm_fst, si20_16, not_false_eq_true, not_true_eq_false, eq_self] <;> rfl) (mu_inc hm c_9) H locs G ls (lv_sub hl [1, 2, 3, 4, 0] rfl)
set_option maxHeartbeats 4000000 in
set_option maxRecDepth 100000 in
theorem c_M_raised (l : Launch) (dC : Nat → ClassId) (dI : Nat → Nat → Nat) (cI cJ : ClassId) (h : Nat) (ad : Nat → Nat) (sz : Nat) (σ : MS) (v0 : Int64) (k0 : Int32) : Met l yX5_raised wsX5_raised ({ frames := 0, cells := 0, slots := 0, locals := 0 } : Room) (va_Pc [.ref h, .long v0, .int k0] (mPre dC dI cI cJ h ad sz σ)) (va_Ql (fun r u => F_raised σ v0 k0 = (r, u)) (mAt dC dI cI cJ h ad (mA h ad cI cJ σ sz)) (mA h ad cI cJ σ sz)) 0 0 (mA h ad cI cJ σ sz) := by
  refine m_ofW (cc := cX5_raised) (maxL := 7) (ret := (some .long)) (by decide) rfl (by decide +kernel) rfl (Nat.le_of_ble_eq_true rfl) ?_
  intro p e s m below meth c X G hA hr hlocks hml ls hl
  have hl : lv_has ls 7 [(0, .ref h), (1, .long v0), (3, .int k0)] := hl
  have hx := X.1
  have hb := X.2.1
  have hts := X.2.2.1
  have hown := X.2.2.2.2.1
  refine lv_lload_n hx hb dX5_raised_0 rfl (lv_at hl 1 rfl) ?_
  refine lv_lstore (lv' := [(4, .long v0), (0, .ref h), (1, .long v0), (3, .int k0)]) hx hb dX5_raised_1 hl (by decide) rfl (fun ls hl => ?_)
  refine lv_iconst (v := 0) hx hb dX5_raised_3 (by decide) ?_
  refine lv_istore (lv' := [(6, .int 0), (4, .long v0), (0, .ref h), (1, .long v0), (3, .int k0)]) hx hb dX5_raised_4 hl (by decide) rfl (fun ls hl => ?_)
  exact c_M_raised_L6 l σ v0 k0 X hA hr hlocks hml (k0.toInt.toNat + 1) v0 0 σ (by simp only [F_raised, ↓reduceIte, si_self, sm_self, si_snd, sm_fst, si20_16, not_false_eq_true, not_true_eq_false, eq_self] <;> rfl) (mu_0 _) _ _ G ls (lv_sub hl [2, 3, 4, 1, 0] rfl)
end
section
theorem si_eta {σ : MS} {k : Nat} : si σ k (σ.1 k) = σ := by
  obtain ⟨a, b⟩ := σ
  simp only [si, Prod.mk.injEq, and_true]
  funext j; by_cases h : j = k <;> simp [upd, h]
theorem si_si {σ : MS} {k : Nat} {v w : Int32} : si (si σ k v) k w = si σ k w := by
  obtain ⟨a, b⟩ := σ
  simp only [si, Prod.mk.injEq, and_true]
  funext j; by_cases h : j = k <;> simp [upd, h]
theorem have_ok {σ u : MS} {n r : Int32} (h : F_have σ n = (r, u)) (hr : ¬ r = 0) : σ = u ∧ n.toInt ≤ (σ.1 5).toInt := by
  by_cases c : n ≤ σ.1 5
  · simp only [F_have, c, ↓reduceIte, Prod.mk.injEq] at h; exact ⟨h.2, i_le c⟩
  · simp only [F_have, c, ↓reduceIte, Prod.mk.injEq] at h; exact absurd h.1.symm hr
theorem room_ok {σ u : MS} {r : Int32} (h : F_room σ = (r, u)) (hr : ¬ r = 0) : σ = u ∧ (σ.1 5).toInt < 40 := by
  by_cases c : σ.1 5 < 40
  · simp only [F_room, c, ↓reduceIte, Prod.mk.injEq] at h; exact ⟨h.2, i_lt c⟩
  · simp only [F_room, c, ↓reduceIte, Prod.mk.injEq] at h; exact absurd h.1.symm hr
theorem raised_stL {v0 : Int64} {k0 : Int32} : ∀ (fu : Nat) (w j : _) (τ : MS), ∃ f, si τ 16 f = (F_raised_L6 v0 k0 fu w j τ).2 := by
  intro fu
  induction fu with
  | zero => intro w j τ; exact ⟨_, si_eta⟩
  | succ fu ih =>
    intro w j τ
    simp only [F_raised_L6]
    split
    · exact ⟨_, si_eta⟩
    · split
      · split
        · obtain ⟨f, h⟩ := ih w (j + 1) (si τ 16 5); exact ⟨f, by rw [← h, si_si]⟩
        · split
          · exact ih _ _ _
          · obtain ⟨f, h⟩ := ih w (j + 1) (si τ 16 5); exact ⟨f, by rw [← h, si_si]⟩
      · exact ⟨_, si_eta⟩
theorem raised_st {σ u : MS} {v w : Int64} {k : Int32} (h : F_raised σ v k = (w, u)) : ∃ f, si σ 16 f = u := by
  obtain ⟨f, hf⟩ := raised_stL (v0 := v) (k0 := k) (k.toInt.toNat + 1) v 0 σ
  exact ⟨f, by rw [hf]; show (F_raised σ v k).2 = u; rw [h]⟩
theorem l_nz {x : Int64} (h : ¬ x ≤ 0) : ¬ x = 0 := fun e => h (by rw [e]; exact Int64.le_refl _)
theorem l_mul10 {w : Int64} (h1 : ¬ 99999999999999999 < w) (h2 : -99999999999999999 ≤ w) : (w * 10).toInt = w.toInt * 10 := by
  rw [Int64.lt_iff_toInt_lt] at h1
  rw [Int64.le_iff_toInt_le] at h2
  have e1 : (99999999999999999 : Int64).toInt = 99999999999999999 := rfl
  have e2 : (-99999999999999999 : Int64).toInt = -99999999999999999 := rfl
  have e3 : (10 : Int64).toInt = 10 := rfl
  rw [e1] at h1; rw [e2] at h2
  rw [Int64.toInt_mul, e3, Int.bmod_def]
  omega
theorem raised_nzL {v0 : Int64} {k0 : Int32} : ∀ (fu : Nat) (w : Int64) (j : Int32) (τ : MS), fu ≠ 0 → ¬ w = 0 → (k0.toInt - j.toInt).toNat < fu → ¬ (F_raised_L6 v0 k0 fu w j τ).1 = 0 := by
  intro fu
  induction fu with
  | zero => intro w j τ h; exact absurd rfl h
  | succ fu ih =>
    intro w j τ _ hw hm
    simp only [F_raised_L6]
    split
    · exact hw
    · rename_i c1
      have hm2 := mu_inc hm c1
      have hf : fu ≠ 0 := by omega
      split
      · split
        · exact ih _ _ _ hf hw hm2
        · rename_i c3
          split
          · rename_i c4
            refine ih _ _ _ hf (fun e => hw ?_) hm2
            have e1 := l_mul10 c3 c4
            rw [e] at e1
            have e2 : (0 : Int64).toInt = 0 := rfl
            exact Int64.toInt_inj.mp (by rw [e2] at e1 ⊢; omega)
          · exact ih _ _ _ hf hw hm2
      · exact hw
theorem raised_nz {σ u : MS} {v w : Int64} {k : Int32} (h : F_raised σ v k = (w, u)) (hv : ¬ v = 0) : ¬ w = 0 := by
  have h1 := raised_nzL (v0 := v) (k0 := k) (k.toInt.toNat + 1) v 0 σ (Nat.succ_ne_zero _) hv (mu_0 _)
  have h2 : (F_raised_L6 v k (k.toInt.toNat + 1) v 0 σ).1 = w := by show (F_raised σ v k).1 = w; rw [h]
  rw [h2] at h1; exact h1
def F_numbers_L12 (n0 : Int32) : Nat → Int32 → MS → Int32 × MS
  | 0, _, τ => (0, τ)
  | f + 1, k1, τ => if n0 < k1 then ((1, τ)) else if 0 ≤ (τ.2.2.1 3 ((τ.1 5) - k1).toNatClampNeg) then (F_numbers_L12 n0 f (k1 + 1) τ) else (0, (si τ 16 3))
def F_numbers (σ : MS) (n0 : Int32) : Int32 × MS := let q_2 := F_have σ n0; if q_2.1 = 0 then ((0, q_2.2)) else F_numbers_L12 n0 (3) 1 σ
set_option maxHeartbeats 4000000 in
set_option maxRecDepth 100000 in
theorem c_M_numbers_L12 {p : Program} (l : Launch) {e : Env} {s : State} {m : MethodId} {below : List Frame} {meth : Method} {c : Code} {dC : Nat → ClassId} {dI : Nat → Nat → Nat} {cI cJ : ClassId} {h : Nat} {ad : Nat → Nat} {sz : Nat} (σ : MS) (n0 : Int32) (hn2 : n0.toInt ≤ 2) (hd2 : (σ.1 5).toInt ≤ 40) (X : mX p s m ([.ref h, .int n0] : List Value).toArray c cX5_numbers wsX5_numbers dC dI cI cJ) (hA : ∀ q : Nat, s.heap.size ≤ q → mA h ad cI cJ σ sz q) (hr : meth.sig.returnType = (some .boolean)) (hlocks : meth.locks = false) (hml : c.maxLocals = 3) :
    ∀ (fu : Nat) (k1 : Int32) (τ : MS), F_numbers σ n0 = F_numbers_L12 n0 fu k1 τ → (1 ≤ k1.toInt) → ((n0.toInt - k1.toInt + 1).toNat < fu) → (n0.toInt ≤ (τ.1 5).toInt) → ((τ.1 5).toInt ≤ 40) → ∀ (H : Heap) (locs : List Loc), mH dC dI h ad cI cJ τ (mA h ad cI cJ σ sz) s.heap H locs → ∀ ls : Array Slot, lv_has ls 3 [(0, .ref h), (1, .int n0), (2, .int k1)] → W p l e ({ frames := 2, cells := 0, slots := 0, locals := 42 } : Room) s m ([.ref h, .int n0] : List Value).toArray below meth c H locs 0 0 (MQ below (va_Qi (fun r u => F_numbers σ n0 = (r, u)) (mAt dC dI cI cJ h ad (mA h ad cI cJ σ sz)) (mA h ad cI cJ σ sz)) ([.ref h, .int n0] : List Value).toArray s 0 0 (mA h ad cI cJ σ sz)) (F0 m 12 ls []) := by
  have hx := X.1
  have hb := X.2.1
  have hts := X.2.2.1
  have hown := X.2.2.2.2.1
  intro fu
  induction fu with
  | zero =>
    intro k1 τ hI hk hm hd hd3
    exact absurd hm (Nat.not_lt_zero _)
  | succ fu ih =>
    intro k1 τ hI hk hm hd hd3 H locs G ls hl
    refine lv_iload_n hx hb dX5_numbers_12 rfl (lv_at hl 2 rfl) ?_
    refine lv_iload_n hx hb dX5_numbers_13 rfl (lv_at hl 1 rfl) ?_
    refine lv_icmp_gt (tgt := 43) hx hb dX5_numbers_14 (by decide) (fun c_14 => ?_) (fun c_14 => ?_)
    · have c_14 : n0 < k1 := c_14
      refine lv_iconst (v := 1) hx hb dX5_numbers_43 (by decide) ?_
      exact m_zret X G hr hlocks rfl (by rw [hI]; simp only [F_numbers_L12, eq_true c_14, ↓reduceIte, si_self, sm_self, si_snd, sm_fst, si20_16, not_false_eq_true, not_true_eq_false, eq_self] <;> rfl) dX5_numbers_44
    · have c_14 : ¬ (n0 < k1) := c_14
      have h14 := i_nlt c_14
      refine lv_aload_n hx hb dX5_numbers_17 rfl (lv_at hl 0 rfl) ?_
      refine m_get_3 X G (by decide +kernel) dX5_numbers_18 ?_
      refine lv_aload_n hx hb dX5_numbers_21 rfl (lv_at hl 0 rfl) ?_
      refine m_get_5 X G (by decide +kernel) dX5_numbers_22 ?_
      refine lv_iload_n hx hb dX5_numbers_25 rfl (lv_at hl 2 rfl) ?_
      refine lv_isub hx hb dX5_numbers_26 ?_
      refine m_ld_3 X G (vin (i_subE (rfl : (τ.1 5).toInt = _) (rfl : k1.toInt = _) (by omega) (by omega)) (by omega) (by omega)) dX5_numbers_27 ?_
      refine lv_if_ge (tgt := 37) hx hb dX5_numbers_28 (by decide) (fun c_28 => ?_) (fun c_28 => ?_)
      · have c_28 : 0 ≤ (τ.2.2.1 3 ((τ.1 5) - k1).toNatClampNeg) := c_28
        have hk2 : (k1 + 1).toInt = k1.toInt + 1 := i_addE rfl rfl (by omega) (by omega)
        refine lv_iinc (v := (k1 + 1)) (lv' := [(2, .int (k1 + 1)), (0, .ref h), (1, .int n0)]) hx hb dX5_numbers_37 hl (k := 2) rfl rfl (by decide) rfl (fun ls hl => ?_)
        refine lv_goto (tgt := 12) hx hb dX5_numbers_40 (by decide) ?_
        exact ih (k1 + 1) τ (by rw [hI]; simp only [F_numbers_L12, eq_false c_14, eq_true c_28, ↓reduceIte, si_self, sm_self, si_snd, sm_fst, si20_16, not_false_eq_true, not_true_eq_false, eq_self] <;> rfl) (by omega) (by omega) hd hd3 H locs G ls (lv_sub hl [1, 2, 0] rfl)
      · have c_28 : ¬ (0 ≤ (τ.2.2.1 3 ((τ.1 5) - k1).toNatClampNeg)) := c_28
        refine lv_aload_n hx hb dX5_numbers_31 rfl (lv_at hl 0 rfl) ?_
        refine lv_iconst (v := 3) hx hb dX5_numbers_32 (by decide) ?_
        refine m_calli (As := [.int 3]) (rest := []) X hml G hA (c_M_fail l dC dI cI cJ h ad _ τ 3) (cwV 1 hts gX5_numbers_X5_fail rfl rfl rfl (by decide +kernel) ⟨Nat.le_of_ble_eq_true rfl, Nat.le_of_ble_eq_true rfl⟩) rfl hl.1 rfl (Nat.le_of_ble_eq_true rfl) dX5_numbers_33 ⟨Nat.zero_le _, Nat.zero_le _⟩ (fun r_33 u_33 H locs hw_33 G => ?_)
        obtain ⟨rfl, rfl⟩ := hw_33
        exact m_zret X G hr hlocks rfl (by rw [hI]; simp only [F_numbers_L12, eq_false c_14, eq_false c_28, ↓reduceIte, si_self, sm_self, si_snd, sm_fst, si20_16, not_false_eq_true, not_true_eq_false, eq_self] <;> rfl) dX5_numbers_36
set_option maxHeartbeats 4000000 in
set_option maxRecDepth 100000 in
theorem c_M_numbers (l : Launch) (dC : Nat → ClassId) (dI : Nat → Nat → Nat) (cI cJ : ClassId) (h : Nat) (ad : Nat → Nat) (sz : Nat) (σ : MS) (n0 : Int32) (hn2 : n0.toInt ≤ 2) (hd2 : (σ.1 5).toInt ≤ 40) : Met l yX5_numbers wsX5_numbers ({ frames := 2, cells := 0, slots := 0, locals := 42 } : Room) (va_Pc [.ref h, .int n0] (mPre dC dI cI cJ h ad sz σ)) (va_Qi (fun r u => F_numbers σ n0 = (r, u)) (mAt dC dI cI cJ h ad (mA h ad cI cJ σ sz)) (mA h ad cI cJ σ sz)) 0 0 (mA h ad cI cJ σ sz) := by
  refine m_ofW (cc := cX5_numbers) (maxL := 3) (ret := (some .boolean)) (by decide) rfl (by decide +kernel) rfl (Nat.le_of_ble_eq_true rfl) ?_
  intro p e s m below meth c X G hA hr hlocks hml ls hl
  have hl : lv_has ls 3 [(0, .ref h), (1, .int n0)] := hl
  have hx := X.1
  have hb := X.2.1
  have hts := X.2.2.1
  have hown := X.2.2.2.2.1
  refine lv_aload_n hx hb dX5_numbers_0 rfl (lv_at hl 0 rfl) ?_
  refine lv_iload_n hx hb dX5_numbers_1 rfl (lv_at hl 1 rfl) ?_
  refine m_calli (As := [.int n0]) (rest := []) X hml G hA (c_M_have l dC dI cI cJ h ad _ σ n0) (cwV 1 hts gX5_numbers_X5_have rfl rfl rfl (by decide +kernel) ⟨Nat.le_of_ble_eq_true rfl, Nat.le_of_ble_eq_true rfl⟩) rfl hl.1 rfl (Nat.le_of_ble_eq_true rfl) dX5_numbers_2 ⟨Nat.zero_le _, Nat.zero_le _⟩ (fun r_2 u_2 H locs hw_2 G => ?_)
  refine lv_if_ne (tgt := 10) hx hb dX5_numbers_5 (by decide) (fun c_5 => ?_) (fun c_5 => ?_)
  · have c_5 : ¬ (r_2 = 0) := c_5
    obtain ⟨rfl, hn⟩ := have_ok hw_2 c_5
    refine lv_iconst (v := 1) hx hb dX5_numbers_10 (by decide) ?_
    refine lv_istore_n (lv' := [(2, .int 1), (0, .ref h), (1, .int n0)]) hx hb dX5_numbers_11 rfl hl (by decide) rfl (fun ls hl => ?_)
    exact c_M_numbers_L12 l σ n0 hn2 hd2 X hA hr hlocks hml 3 1 σ (by simp only [F_numbers, hw_2, eq_false c_5, ↓reduceIte, si_self, sm_self, si_snd, sm_fst, si20_16, not_false_eq_true, not_true_eq_false, eq_self] <;> rfl) (by decide) (by have : (1 : Int32).toInt = 1 := rfl; omega) hn hd2 _ _ G ls (lv_sub hl [1, 2, 0] rfl)
  · have c_5 : r_2 = 0 := c_5
    refine lv_iconst (v := 0) hx hb dX5_numbers_8 (by decide) ?_
    exact m_zret X G hr hlocks rfl (by simp only [F_numbers, hw_2, eq_true c_5, ↓reduceIte, si_self, sm_self, si_snd, sm_fst, si20_16, not_false_eq_true, not_true_eq_false, eq_self] <;> rfl) dX5_numbers_9
theorem numbers_okL {n0 : Int32} : ∀ (fu : Nat) (k : Int32) (τ : MS), ¬ (F_numbers_L12 n0 fu k τ).1 = 0 → τ = (F_numbers_L12 n0 fu k τ).2 := by
  intro fu
  induction fu with
  | zero => intro k τ h; rfl
  | succ fu ih =>
    intro k τ
    simp only [F_numbers_L12]
    split
    · intro _; rfl
    · split
      · exact ih _ _
      · intro h; exact absurd rfl h
theorem numbers_ok {σ u : MS} {n r : Int32} (h : F_numbers σ n = (r, u)) (hr : ¬ r = 0) : σ = u ∧ n.toInt ≤ (σ.1 5).toInt := by
  obtain ⟨a, b, hq⟩ : ∃ a b, F_have σ n = (a, b) := ⟨_, _, rfl⟩
  by_cases c : a = 0
  · simp only [F_numbers, hq, c, ↓reduceIte, Prod.mk.injEq] at h
    exact absurd h.1.symm hr
  · obtain ⟨rfl, hn⟩ := have_ok hq c
    simp only [F_numbers, hq, c, ↓reduceIte] at h
    refine ⟨?_, hn⟩
    have h1 := numbers_okL (n0 := n) 3 1 σ (by rw [h]; exact hr)
    rw [h] at h1; exact h1
def F_product (σ : MS) (v0 : Int64) (w0 : Int64) : Int64 × MS := if 0 ≤ v0 then (if 0 ≤ w0 then (if v0 ≤ 0 then (((v0 * w0), σ)) else if w0 ≤ (999999999999999999 / v0) then (((v0 * w0), σ)) else (0, (si σ 16 5))) else if v0 ≤ 0 then (((v0 * w0), σ)) else if (-w0) ≤ (999999999999999999 / v0) then (((v0 * w0), σ)) else (0, (si σ 16 5))) else if 0 ≤ w0 then (if (-v0) ≤ 0 then (((v0 * w0), σ)) else if w0 ≤ (999999999999999999 / (-v0)) then (((v0 * w0), σ)) else (0, (si σ 16 5))) else if (-v0) ≤ 0 then (((v0 * w0), σ)) else if (-w0) ≤ (999999999999999999 / (-v0)) then (((v0 * w0), σ)) else (0, (si σ 16 5))
set_option maxHeartbeats 4000000 in
set_option maxRecDepth 100000 in
theorem c_M_product (l : Launch) (dC : Nat → ClassId) (dI : Nat → Nat → Nat) (cI cJ : ClassId) (h : Nat) (ad : Nat → Nat) (sz : Nat) (σ : MS) (v0 : Int64) (w0 : Int64) : Met l yX5_product wsX5_product ({ frames := 0, cells := 0, slots := 0, locals := 0 } : Room) (va_Pc [.ref h, .long v0, .long w0] (mPre dC dI cI cJ h ad sz σ)) (va_Ql (fun r u => F_product σ v0 w0 = (r, u)) (mAt dC dI cI cJ h ad (mA h ad cI cJ σ sz)) (mA h ad cI cJ σ sz)) 0 0 (mA h ad cI cJ σ sz) := by
  refine m_ofW (cc := cX5_product) (maxL := 9) (ret := (some .long)) (by decide) rfl (by decide +kernel) rfl (Nat.le_of_ble_eq_true rfl) ?_
  intro p e s m below meth c X G hA hr hlocks hml ls hl
  have hl : lv_has ls 9 [(0, .ref h), (1, .long v0), (3, .long w0)] := hl
  have hx := X.1
  have hb := X.2.1
  have hts := X.2.2.1
  have hown := X.2.2.2.2.1
  refine lv_lload_n hx hb dX5_product_0 rfl (lv_at hl 1 rfl) ?_
  refine lv_lconst (v := 0) hx hb dX5_product_1 (by decide) ?_
  refine W.lcmp hx hb dX5_product_2 ?_
  refine lv_if_ge (tgt := 11) hx hb dX5_product_3 (by decide) (fun c_3 => ?_) (fun c_3 => ?_)
  · have c_3 := ((l_cmp_ge _ _).mp c_3)
    have c_3 : 0 ≤ v0 := c_3
    refine lv_lload_n hx hb dX5_product_11 rfl (lv_at hl 1 rfl) ?_
    refine lv_lstore (lv' := [(5, .long v0), (0, .ref h), (1, .long v0), (3, .long w0)]) hx hb dX5_product_12 hl (by decide) rfl (fun ls hl => ?_)
    refine lv_lload_n hx hb dX5_product_14 rfl (lv_at hl 3 rfl) ?_
    refine lv_lconst (v := 0) hx hb dX5_product_15 (by decide) ?_
    refine W.lcmp hx hb dX5_product_16 ?_
    refine lv_if_ge (tgt := 25) hx hb dX5_product_17 (by decide) (fun c_17 => ?_) (fun c_17 => ?_)
    · have c_17 := ((l_cmp_ge _ _).mp c_17)
      have c_17 : 0 ≤ w0 := c_17
      refine lv_lload_n hx hb dX5_product_25 rfl (lv_at hl 3 rfl) ?_
      refine lv_lstore (lv' := [(7, .long w0), (5, .long v0), (0, .ref h), (1, .long v0), (3, .long w0)]) hx hb dX5_product_26 hl (by decide) rfl (fun ls hl => ?_)
      refine lv_lload hx hb dX5_product_28 (lv_at hl 1 rfl) ?_
      refine lv_lconst (v := 0) hx hb dX5_product_30 (by decide) ?_
      refine W.lcmp hx hb dX5_product_31 ?_
      refine lv_if_le (tgt := 54) hx hb dX5_product_32 (by decide) (fun c_32 => ?_) (fun c_32 => ?_)
      · have c_32 := ((l_cmp_le _ _).mp c_32)
        have c_32 : v0 ≤ 0 := c_32
        refine lv_lload_n hx hb dX5_product_54 rfl (lv_at hl 3 rfl) ?_
        refine lv_lload_n hx hb dX5_product_55 rfl (lv_at hl 4 rfl) ?_
        refine lv_lmul hx hb dX5_product_56 ?_
        exact m_lret X G hr hlocks (by simp only [F_product, eq_true c_3, eq_true c_17, eq_true c_32, ↓reduceIte, si_self, sm_self, si_snd, sm_fst, si20_16, not_false_eq_true, not_true_eq_false, eq_self] <;> rfl) dX5_product_57
      · have c_32 := (mt (l_cmp_le _ _).mpr c_32)
        have c_32 : ¬ (v0 ≤ 0) := c_32
        refine lv_lload hx hb dX5_product_35 (lv_at hl 0 rfl) ?_
        refine lv_ldc2 (v := 999999999999999999) hx hb hown (hts (.constantLong RX5 61 (999999999999999999)) (by decide +kernel)) dX5_product_37 ?_
        refine lv_lload hx hb dX5_product_40 (lv_at hl 1 rfl) ?_
        refine lv_ldiv hx hb dX5_product_42 (l_nz c_32) ?_
        refine W.lcmp hx hb dX5_product_43 ?_
        refine lv_if_le (tgt := 54) hx hb dX5_product_44 (by decide) (fun c_44 => ?_) (fun c_44 => ?_)
        · have c_44 := ((l_cmp_le _ _).mp c_44)
          have c_44 : w0 ≤ (999999999999999999 / v0) := c_44
          refine lv_lload_n hx hb dX5_product_54 rfl (lv_at hl 3 rfl) ?_
          refine lv_lload_n hx hb dX5_product_55 rfl (lv_at hl 4 rfl) ?_
          refine lv_lmul hx hb dX5_product_56 ?_
          exact m_lret X G hr hlocks (by simp only [F_product, eq_true c_3, eq_true c_17, eq_false c_32, eq_true c_44, ↓reduceIte, si_self, sm_self, si_snd, sm_fst, si20_16, not_false_eq_true, not_true_eq_false, eq_self] <;> rfl) dX5_product_57
        · have c_44 := (mt (l_cmp_le _ _).mpr c_44)
          have c_44 : ¬ (w0 ≤ (999999999999999999 / v0)) := c_44
          refine lv_aload_n hx hb dX5_product_47 rfl (lv_at hl 2 rfl) ?_
          refine lv_iconst (v := 5) hx hb dX5_product_48 (by decide) ?_
          refine m_put_16 X G (by decide +kernel) dX5_product_49 (fun H locs G => ?_)
          refine lv_lconst (v := 0) hx hb dX5_product_52 (by decide) ?_
          exact m_lret X G hr hlocks (by simp only [F_product, eq_true c_3, eq_true c_17, eq_false c_32, eq_false c_44, ↓reduceIte, si_self, sm_self, si_snd, sm_fst, si20_16, not_false_eq_true, not_true_eq_false, eq_self] <;> rfl) dX5_product_53
    · have c_17 := (mt (l_cmp_ge _ _).mpr c_17)
      have c_17 : ¬ (0 ≤ w0) := c_17
      refine lv_lload_n hx hb dX5_product_20 rfl (lv_at hl 3 rfl) ?_
      refine lv_lneg hx hb dX5_product_21 ?_
      refine lv_goto (tgt := 26) hx hb dX5_product_22 (by decide) ?_
      refine lv_lstore (lv' := [(7, .long (-w0)), (5, .long v0), (0, .ref h), (1, .long v0), (3, .long w0)]) hx hb dX5_product_26 hl (by decide) rfl (fun ls hl => ?_)
      refine lv_lload hx hb dX5_product_28 (lv_at hl 1 rfl) ?_
      refine lv_lconst (v := 0) hx hb dX5_product_30 (by decide) ?_
      refine W.lcmp hx hb dX5_product_31 ?_
      refine lv_if_le (tgt := 54) hx hb dX5_product_32 (by decide) (fun c_32 => ?_) (fun c_32 => ?_)
      · have c_32 := ((l_cmp_le _ _).mp c_32)
        have c_32 : v0 ≤ 0 := c_32
        refine lv_lload_n hx hb dX5_product_54 rfl (lv_at hl 3 rfl) ?_
        refine lv_lload_n hx hb dX5_product_55 rfl (lv_at hl 4 rfl) ?_
        refine lv_lmul hx hb dX5_product_56 ?_
        exact m_lret X G hr hlocks (by simp only [F_product, eq_true c_3, eq_false c_17, eq_true c_32, ↓reduceIte, si_self, sm_self, si_snd, sm_fst, si20_16, not_false_eq_true, not_true_eq_false, eq_self] <;> rfl) dX5_product_57
      · have c_32 := (mt (l_cmp_le _ _).mpr c_32)
        have c_32 : ¬ (v0 ≤ 0) := c_32
        refine lv_lload hx hb dX5_product_35 (lv_at hl 0 rfl) ?_
        refine lv_ldc2 (v := 999999999999999999) hx hb hown (hts (.constantLong RX5 61 (999999999999999999)) (by decide +kernel)) dX5_product_37 ?_
        refine lv_lload hx hb dX5_product_40 (lv_at hl 1 rfl) ?_
        refine lv_ldiv hx hb dX5_product_42 (l_nz c_32) ?_
        refine W.lcmp hx hb dX5_product_43 ?_
        refine lv_if_le (tgt := 54) hx hb dX5_product_44 (by decide) (fun c_44 => ?_) (fun c_44 => ?_)
        · have c_44 := ((l_cmp_le _ _).mp c_44)
          have c_44 : (-w0) ≤ (999999999999999999 / v0) := c_44
          refine lv_lload_n hx hb dX5_product_54 rfl (lv_at hl 3 rfl) ?_
          refine lv_lload_n hx hb dX5_product_55 rfl (lv_at hl 4 rfl) ?_
          refine lv_lmul hx hb dX5_product_56 ?_
          exact m_lret X G hr hlocks (by simp only [F_product, eq_true c_3, eq_false c_17, eq_false c_32, eq_true c_44, ↓reduceIte, si_self, sm_self, si_snd, sm_fst, si20_16, not_false_eq_true, not_true_eq_false, eq_self] <;> rfl) dX5_product_57
        · have c_44 := (mt (l_cmp_le _ _).mpr c_44)
          have c_44 : ¬ ((-w0) ≤ (999999999999999999 / v0)) := c_44
          refine lv_aload_n hx hb dX5_product_47 rfl (lv_at hl 2 rfl) ?_
          refine lv_iconst (v := 5) hx hb dX5_product_48 (by decide) ?_
          refine m_put_16 X G (by decide +kernel) dX5_product_49 (fun H locs G => ?_)
          refine lv_lconst (v := 0) hx hb dX5_product_52 (by decide) ?_
          exact m_lret X G hr hlocks (by simp only [F_product, eq_true c_3, eq_false c_17, eq_false c_32, eq_false c_44, ↓reduceIte, si_self, sm_self, si_snd, sm_fst, si20_16, not_false_eq_true, not_true_eq_false, eq_self] <;> rfl) dX5_product_53
  · have c_3 := (mt (l_cmp_ge _ _).mpr c_3)
    have c_3 : ¬ (0 ≤ v0) := c_3
    refine lv_lload_n hx hb dX5_product_6 rfl (lv_at hl 1 rfl) ?_
    refine lv_lneg hx hb dX5_product_7 ?_
    refine lv_goto (tgt := 12) hx hb dX5_product_8 (by decide) ?_
    refine lv_lstore (lv' := [(5, .long (-v0)), (0, .ref h), (1, .long v0), (3, .long w0)]) hx hb dX5_product_12 hl (by decide) rfl (fun ls hl => ?_)
    refine lv_lload_n hx hb dX5_product_14 rfl (lv_at hl 3 rfl) ?_
    refine lv_lconst (v := 0) hx hb dX5_product_15 (by decide) ?_
    refine W.lcmp hx hb dX5_product_16 ?_
    refine lv_if_ge (tgt := 25) hx hb dX5_product_17 (by decide) (fun c_17 => ?_) (fun c_17 => ?_)
    · have c_17 := ((l_cmp_ge _ _).mp c_17)
      have c_17 : 0 ≤ w0 := c_17
      refine lv_lload_n hx hb dX5_product_25 rfl (lv_at hl 3 rfl) ?_
      refine lv_lstore (lv' := [(7, .long w0), (5, .long (-v0)), (0, .ref h), (1, .long v0), (3, .long w0)]) hx hb dX5_product_26 hl (by decide) rfl (fun ls hl => ?_)
      refine lv_lload hx hb dX5_product_28 (lv_at hl 1 rfl) ?_
      refine lv_lconst (v := 0) hx hb dX5_product_30 (by decide) ?_
      refine W.lcmp hx hb dX5_product_31 ?_
      refine lv_if_le (tgt := 54) hx hb dX5_product_32 (by decide) (fun c_32 => ?_) (fun c_32 => ?_)
      · have c_32 := ((l_cmp_le _ _).mp c_32)
        have c_32 : (-v0) ≤ 0 := c_32
        refine lv_lload_n hx hb dX5_product_54 rfl (lv_at hl 3 rfl) ?_
        refine lv_lload_n hx hb dX5_product_55 rfl (lv_at hl 4 rfl) ?_
        refine lv_lmul hx hb dX5_product_56 ?_
        exact m_lret X G hr hlocks (by simp only [F_product, eq_false c_3, eq_true c_17, eq_true c_32, ↓reduceIte, si_self, sm_self, si_snd, sm_fst, si20_16, not_false_eq_true, not_true_eq_false, eq_self] <;> rfl) dX5_product_57
      · have c_32 := (mt (l_cmp_le _ _).mpr c_32)
        have c_32 : ¬ ((-v0) ≤ 0) := c_32
        refine lv_lload hx hb dX5_product_35 (lv_at hl 0 rfl) ?_
        refine lv_ldc2 (v := 999999999999999999) hx hb hown (hts (.constantLong RX5 61 (999999999999999999)) (by decide +kernel)) dX5_product_37 ?_
        refine lv_lload hx hb dX5_product_40 (lv_at hl 1 rfl) ?_
        refine lv_ldiv hx hb dX5_product_42 (l_nz c_32) ?_
        refine W.lcmp hx hb dX5_product_43 ?_
        refine lv_if_le (tgt := 54) hx hb dX5_product_44 (by decide) (fun c_44 => ?_) (fun c_44 => ?_)
        · have c_44 := ((l_cmp_le _ _).mp c_44)
          have c_44 : w0 ≤ (999999999999999999 / (-v0)) := c_44
          refine lv_lload_n hx hb dX5_product_54 rfl (lv_at hl 3 rfl) ?_
          refine lv_lload_n hx hb dX5_product_55 rfl (lv_at hl 4 rfl) ?_
          refine lv_lmul hx hb dX5_product_56 ?_
          exact m_lret X G hr hlocks (by simp only [F_product, eq_false c_3, eq_true c_17, eq_false c_32, eq_true c_44, ↓reduceIte, si_self, sm_self, si_snd, sm_fst, si20_16, not_false_eq_true, not_true_eq_false, eq_self] <;> rfl) dX5_product_57
        · have c_44 := (mt (l_cmp_le _ _).mpr c_44)
          have c_44 : ¬ (w0 ≤ (999999999999999999 / (-v0))) := c_44
          refine lv_aload_n hx hb dX5_product_47 rfl (lv_at hl 2 rfl) ?_
          refine lv_iconst (v := 5) hx hb dX5_product_48 (by decide) ?_
          refine m_put_16 X G (by decide +kernel) dX5_product_49 (fun H locs G => ?_)
          refine lv_lconst (v := 0) hx hb dX5_product_52 (by decide) ?_
          exact m_lret X G hr hlocks (by simp only [F_product, eq_false c_3, eq_true c_17, eq_false c_32, eq_false c_44, ↓reduceIte, si_self, sm_self, si_snd, sm_fst, si20_16, not_false_eq_true, not_true_eq_false, eq_self] <;> rfl) dX5_product_53
    · have c_17 := (mt (l_cmp_ge _ _).mpr c_17)
      have c_17 : ¬ (0 ≤ w0) := c_17
      refine lv_lload_n hx hb dX5_product_20 rfl (lv_at hl 3 rfl) ?_
      refine lv_lneg hx hb dX5_product_21 ?_
      refine lv_goto (tgt := 26) hx hb dX5_product_22 (by decide) ?_
      refine lv_lstore (lv' := [(7, .long (-w0)), (5, .long (-v0)), (0, .ref h), (1, .long v0), (3, .long w0)]) hx hb dX5_product_26 hl (by decide) rfl (fun ls hl => ?_)
      refine lv_lload hx hb dX5_product_28 (lv_at hl 1 rfl) ?_
      refine lv_lconst (v := 0) hx hb dX5_product_30 (by decide) ?_
      refine W.lcmp hx hb dX5_product_31 ?_
      refine lv_if_le (tgt := 54) hx hb dX5_product_32 (by decide) (fun c_32 => ?_) (fun c_32 => ?_)
      · have c_32 := ((l_cmp_le _ _).mp c_32)
        have c_32 : (-v0) ≤ 0 := c_32
        refine lv_lload_n hx hb dX5_product_54 rfl (lv_at hl 3 rfl) ?_
        refine lv_lload_n hx hb dX5_product_55 rfl (lv_at hl 4 rfl) ?_
        refine lv_lmul hx hb dX5_product_56 ?_
        exact m_lret X G hr hlocks (by simp only [F_product, eq_false c_3, eq_false c_17, eq_true c_32, ↓reduceIte, si_self, sm_self, si_snd, sm_fst, si20_16, not_false_eq_true, not_true_eq_false, eq_self] <;> rfl) dX5_product_57
      · have c_32 := (mt (l_cmp_le _ _).mpr c_32)
        have c_32 : ¬ ((-v0) ≤ 0) := c_32
        refine lv_lload hx hb dX5_product_35 (lv_at hl 0 rfl) ?_
        refine lv_ldc2 (v := 999999999999999999) hx hb hown (hts (.constantLong RX5 61 (999999999999999999)) (by decide +kernel)) dX5_product_37 ?_
        refine lv_lload hx hb dX5_product_40 (lv_at hl 1 rfl) ?_
        refine lv_ldiv hx hb dX5_product_42 (l_nz c_32) ?_
        refine W.lcmp hx hb dX5_product_43 ?_
        refine lv_if_le (tgt := 54) hx hb dX5_product_44 (by decide) (fun c_44 => ?_) (fun c_44 => ?_)
        · have c_44 := ((l_cmp_le _ _).mp c_44)
          have c_44 : (-w0) ≤ (999999999999999999 / (-v0)) := c_44
          refine lv_lload_n hx hb dX5_product_54 rfl (lv_at hl 3 rfl) ?_
          refine lv_lload_n hx hb dX5_product_55 rfl (lv_at hl 4 rfl) ?_
          refine lv_lmul hx hb dX5_product_56 ?_
          exact m_lret X G hr hlocks (by simp only [F_product, eq_false c_3, eq_false c_17, eq_false c_32, eq_true c_44, ↓reduceIte, si_self, sm_self, si_snd, sm_fst, si20_16, not_false_eq_true, not_true_eq_false, eq_self] <;> rfl) dX5_product_57
        · have c_44 := (mt (l_cmp_le _ _).mpr c_44)
          have c_44 : ¬ ((-w0) ≤ (999999999999999999 / (-v0))) := c_44
          refine lv_aload_n hx hb dX5_product_47 rfl (lv_at hl 2 rfl) ?_
          refine lv_iconst (v := 5) hx hb dX5_product_48 (by decide) ?_
          refine m_put_16 X G (by decide +kernel) dX5_product_49 (fun H locs G => ?_)
          refine lv_lconst (v := 0) hx hb dX5_product_52 (by decide) ?_
          exact m_lret X G hr hlocks (by simp only [F_product, eq_false c_3, eq_false c_17, eq_false c_32, eq_false c_44, ↓reduceIte, si_self, sm_self, si_snd, sm_fst, si20_16, not_false_eq_true, not_true_eq_false, eq_self] <;> rfl) dX5_product_53
theorem product_st {σ u : MS} {v w r : Int64} (h : F_product σ v w = (r, u)) : ∃ f, si σ 16 f = u := by
  have h2 : (F_product σ v w).2 = u := by rw [h]
  rw [← h2]
  unfold F_product
  repeat' split
  all_goals first | exact ⟨_, rfl⟩ | exact ⟨_, si_eta⟩
def F_sum (σ : MS) (b0 : Int32) : Int32 × MS := let q_2 := F_numbers σ 2; if q_2.1 = 0 then ((0, q_2.2)) else let q_67 := F_raised (si σ 20 (f_greater (σ.2.2.1 3 ((σ.1 5) - 1).toNatClampNeg) (σ.2.2.1 3 ((σ.1 5) - 2).toNatClampNeg))) (σ.2.2.2 2 ((σ.1 5) - 2).toNatClampNeg) ((f_greater (σ.2.2.1 3 ((σ.1 5) - 1).toNatClampNeg) (σ.2.2.1 3 ((σ.1 5) - 2).toNatClampNeg)) - (σ.2.2.1 3 ((σ.1 5) - 2).toNatClampNeg)); let q_99 := F_raised (si (si σ 20 (f_greater (σ.2.2.1 3 ((σ.1 5) - 1).toNatClampNeg) (σ.2.2.1 3 ((σ.1 5) - 2).toNatClampNeg))) 16 (q_67.2.1 16)) (σ.2.2.2 2 ((σ.1 5) - 1).toNatClampNeg) ((f_greater (σ.2.2.1 3 ((σ.1 5) - 1).toNatClampNeg) (σ.2.2.1 3 ((σ.1 5) - 2).toNatClampNeg)) - (σ.2.2.1 3 ((σ.1 5) - 1).toNatClampNeg)); if (q_99.2.1 16) ≤ 0 then (if b0 = 0 then (if (f_isBig (q_67.1 + q_99.1)) = 0 then ((1, (sm (si (si (si σ 20 (f_greater (σ.2.2.1 3 ((σ.1 5) - 1).toNatClampNeg) (σ.2.2.1 3 ((σ.1 5) - 2).toNatClampNeg))) 16 (q_67.2.1 16)) 16 (q_99.2.1 16)) (q_67.1 + q_99.1)))) else (0, (si (sm (si (si (si σ 20 (f_greater (σ.2.2.1 3 ((σ.1 5) - 1).toNatClampNeg) (σ.2.2.1 3 ((σ.1 5) - 2).toNatClampNeg))) 16 (q_67.2.1 16)) 16 (q_99.2.1 16)) (q_67.1 + q_99.1)) 16 5))) else if (f_isBig (q_67.1 - q_99.1)) = 0 then ((1, (sm (si (si (si σ 20 (f_greater (σ.2.2.1 3 ((σ.1 5) - 1).toNatClampNeg) (σ.2.2.1 3 ((σ.1 5) - 2).toNatClampNeg))) 16 (q_67.2.1 16)) 16 (q_99.2.1 16)) (q_67.1 - q_99.1)))) else (0, (si (sm (si (si (si σ 20 (f_greater (σ.2.2.1 3 ((σ.1 5) - 1).toNatClampNeg) (σ.2.2.1 3 ((σ.1 5) - 2).toNatClampNeg))) 16 (q_67.2.1 16)) 16 (q_99.2.1 16)) (q_67.1 - q_99.1)) 16 5))) else (0, (si (si (si σ 20 (f_greater (σ.2.2.1 3 ((σ.1 5) - 1).toNatClampNeg) (σ.2.2.1 3 ((σ.1 5) - 2).toNatClampNeg))) 16 (q_67.2.1 16)) 16 (q_99.2.1 16)))
set_option maxHeartbeats 4000000 in
set_option maxRecDepth 100000 in
theorem c_M_sum (l : Launch) (dC : Nat → ClassId) (dI : Nat → Nat → Nat) (cI cJ : ClassId) (h : Nat) (ad : Nat → Nat) (sz : Nat) (σ : MS) (b0 : Int32) (hd : (σ.1 5).toInt ≤ 40) : Met l yX5_sum wsX5_sum ({ frames := 3, cells := 0, slots := 0, locals := 64 } : Room) (va_Pc [.ref h, .int b0] (mPre dC dI cI cJ h ad sz σ)) (va_Qi (fun r u => F_sum σ b0 = (r, u)) (mAt dC dI cI cJ h ad (mA h ad cI cJ σ sz)) (mA h ad cI cJ σ sz)) 0 0 (mA h ad cI cJ σ sz) := by
  refine m_ofW (cc := cX5_sum) (maxL := 6) (ret := (some .boolean)) (by decide) rfl (by decide +kernel) rfl (Nat.le_of_ble_eq_true rfl) ?_
  intro p e s m below meth c X G hA hr hlocks hml ls hl
  have hl : lv_has ls 6 [(0, .ref h), (1, .int b0)] := hl
  have hx := X.1
  have hb := X.2.1
  have hts := X.2.2.1
  have hown := X.2.2.2.2.1
  refine lv_aload_n hx hb dX5_sum_0 rfl (lv_at hl 0 rfl) ?_
  refine lv_iconst (v := 2) hx hb dX5_sum_1 (by decide) ?_
  refine m_calli (As := [.int 2]) (rest := []) X hml G hA (c_M_numbers l dC dI cI cJ h ad _ σ 2 (by decide) hd) (cwV 1 hts gX5_sum_X5_numbers rfl rfl rfl (by decide +kernel) ⟨Nat.le_of_ble_eq_true rfl, Nat.le_of_ble_eq_true rfl⟩) rfl hl.1 rfl (Nat.le_of_ble_eq_true rfl) dX5_sum_2 ⟨Nat.zero_le _, Nat.zero_le _⟩ (fun r_2 u_2 H locs hw_2 G => ?_)
  refine lv_if_ne (tgt := 10) hx hb dX5_sum_5 (by decide) (fun c_5 => ?_) (fun c_5 => ?_)
  · have c_5 : ¬ (r_2 = 0) := c_5
    obtain ⟨rfl, hn⟩ := numbers_ok hw_2 c_5
    have hn : 2 ≤ (σ.1 5).toInt := hn
    refine lv_aload_n hx hb dX5_sum_10 rfl (lv_at hl 0 rfl) ?_
    refine lv_aload_n hx hb dX5_sum_11 rfl (lv_at hl 0 rfl) ?_
    refine m_get_3 X G (by decide +kernel) dX5_sum_12 ?_
    refine lv_aload_n hx hb dX5_sum_15 rfl (lv_at hl 0 rfl) ?_
    refine m_get_5 X G (by decide +kernel) dX5_sum_16 ?_
    refine lv_iconst (v := 1) hx hb dX5_sum_19 (by decide) ?_
    refine lv_isub hx hb dX5_sum_20 ?_
    refine m_ld_3 X G (vin (i_subE (rfl : (σ.1 5).toInt = _) (show (1 : Int32).toInt = 1 from rfl) (by omega) (by omega)) (by omega) (by omega)) dX5_sum_21 ?_
    refine lv_aload_n hx hb dX5_sum_22 rfl (lv_at hl 0 rfl) ?_
    refine m_get_3 X G (by decide +kernel) dX5_sum_23 ?_
    refine lv_aload_n hx hb dX5_sum_26 rfl (lv_at hl 0 rfl) ?_
    refine m_get_5 X G (by decide +kernel) dX5_sum_27 ?_
    refine lv_iconst (v := 2) hx hb dX5_sum_30 (by decide) ?_
    refine lv_isub hx hb dX5_sum_31 ?_
    refine m_ld_3 X G (vin (i_subE (rfl : (σ.1 5).toInt = _) (show (2 : Int32).toInt = 2 from rfl) (by omega) (by omega)) (by omega) (by omega)) dX5_sum_32 ?_
    refine W.callR (W.runS (As := [.int (σ.2.2.1 3 ((σ.1 5) - 1).toNatClampNeg), .int (σ.2.2.1 3 ((σ.1 5) - 2).toNatClampNeg)]) (rest := [.ref h]) ⟨hx, hb, hml, hown, hts⟩ (c_M_greater l (σ.2.2.1 3 ((σ.1 5) - 1).toNatClampNeg) (σ.2.2.1 3 ((σ.1 5) - 2).toNatClampNeg)) (va_cwS 2 hts gX5_sum_X5_greater rfl rfl rfl (by decide +kernel) ⟨Nat.le_of_ble_eq_true rfl, Nat.le_of_ble_eq_true rfl⟩) ⟨fun a U g mk q => q, fun U _ _ => ⟨rfl, trivial⟩⟩ rfl rfl hl.1 rfl (lv_room (Nat.le_of_ble_eq_true rfl)) dX5_sum_33 ⟨Nat.zero_le _, Nat.zero_le _⟩) ?_
    refine W.eq (g2 := F0 m 36 ls [.int (f_greater (σ.2.2.1 3 ((σ.1 5) - 1).toNatClampNeg) (σ.2.2.1 3 ((σ.1 5) - 2).toNatClampNeg)), .ref h]) rfl ?_
    refine m_put_20 X G (by decide +kernel) dX5_sum_36 (fun H locs G => ?_)
    refine lv_aload_n hx hb dX5_sum_39 rfl (lv_at hl 0 rfl) ?_
    refine lv_aload_n hx hb dX5_sum_40 rfl (lv_at hl 0 rfl) ?_
    refine m_get_2 X G (by decide +kernel) dX5_sum_41 ?_
    refine lv_aload_n hx hb dX5_sum_44 rfl (lv_at hl 0 rfl) ?_
    refine m_get_5 X G (by decide +kernel) dX5_sum_45 ?_
    refine lv_iconst (v := 2) hx hb dX5_sum_48 (by decide) ?_
    refine lv_isub hx hb dX5_sum_49 ?_
    refine m_ld_2 X G (vin (i_subE (rfl : (σ.1 5).toInt = _) (show (2 : Int32).toInt = 2 from rfl) (by omega) (by omega)) (by omega) (by omega)) dX5_sum_50 ?_
    refine lv_aload_n hx hb dX5_sum_51 rfl (lv_at hl 0 rfl) ?_
    refine m_get_20 X G (by decide +kernel) dX5_sum_52 ?_
    refine lv_aload_n hx hb dX5_sum_55 rfl (lv_at hl 0 rfl) ?_
    refine m_get_3 X G (by decide +kernel) dX5_sum_56 ?_
    refine lv_aload_n hx hb dX5_sum_59 rfl (lv_at hl 0 rfl) ?_
    refine m_get_5 X G (by decide +kernel) dX5_sum_60 ?_
    refine lv_iconst (v := 2) hx hb dX5_sum_63 (by decide) ?_
    refine lv_isub hx hb dX5_sum_64 ?_
    refine m_ld_3 X G (vin (i_subE (rfl : (σ.1 5).toInt = _) (show (2 : Int32).toInt = 2 from rfl) (by omega) (by omega)) (by omega) (by omega)) dX5_sum_65 ?_
    refine lv_isub hx hb dX5_sum_66 ?_
    refine m_calll (As := [.long (σ.2.2.2 2 ((σ.1 5) - 2).toNatClampNeg), .int ((f_greater (σ.2.2.1 3 ((σ.1 5) - 1).toNatClampNeg) (σ.2.2.1 3 ((σ.1 5) - 2).toNatClampNeg)) - (σ.2.2.1 3 ((σ.1 5) - 2).toNatClampNeg))]) (rest := []) X hml G hA (c_M_raised l dC dI cI cJ h ad _ (si σ 20 (f_greater (σ.2.2.1 3 ((σ.1 5) - 1).toNatClampNeg) (σ.2.2.1 3 ((σ.1 5) - 2).toNatClampNeg))) (σ.2.2.2 2 ((σ.1 5) - 2).toNatClampNeg) ((f_greater (σ.2.2.1 3 ((σ.1 5) - 1).toNatClampNeg) (σ.2.2.1 3 ((σ.1 5) - 2).toNatClampNeg)) - (σ.2.2.1 3 ((σ.1 5) - 2).toNatClampNeg))) (cwV 2 hts gX5_sum_X5_raised rfl rfl rfl (by decide +kernel) ⟨Nat.le_of_ble_eq_true rfl, Nat.le_of_ble_eq_true rfl⟩) rfl hl.1 rfl (Nat.le_of_ble_eq_true rfl) dX5_sum_67 ⟨Nat.zero_le _, Nat.zero_le _⟩ (fun r_67 u_67 H locs hw_67 G => ?_)
    obtain ⟨f_67, rfl⟩ := raised_st hw_67
    refine lv_lstore_n (lv' := [(2, .long r_67), (0, .ref h), (1, .int b0)]) hx hb dX5_sum_70 rfl hl (by decide) rfl (fun ls hl => ?_)
    refine lv_aload_n hx hb dX5_sum_71 rfl (lv_at hl 1 rfl) ?_
    refine lv_aload_n hx hb dX5_sum_72 rfl (lv_at hl 1 rfl) ?_
    refine m_get_2 X G (by decide +kernel) dX5_sum_73 ?_
    refine lv_aload_n hx hb dX5_sum_76 rfl (lv_at hl 1 rfl) ?_
    refine m_get_5 X G (by decide +kernel) dX5_sum_77 ?_
    refine lv_iconst (v := 1) hx hb dX5_sum_80 (by decide) ?_
    refine lv_isub hx hb dX5_sum_81 ?_
    refine m_ld_2 X G (vin (i_subE (rfl : (σ.1 5).toInt = _) (show (1 : Int32).toInt = 1 from rfl) (by omega) (by omega)) (by omega) (by omega)) dX5_sum_82 ?_
    refine lv_aload_n hx hb dX5_sum_83 rfl (lv_at hl 1 rfl) ?_
    refine m_get_20 X G (by decide +kernel) dX5_sum_84 ?_
    refine lv_aload_n hx hb dX5_sum_87 rfl (lv_at hl 1 rfl) ?_
    refine m_get_3 X G (by decide +kernel) dX5_sum_88 ?_
    refine lv_aload_n hx hb dX5_sum_91 rfl (lv_at hl 1 rfl) ?_
    refine m_get_5 X G (by decide +kernel) dX5_sum_92 ?_
    refine lv_iconst (v := 1) hx hb dX5_sum_95 (by decide) ?_
    refine lv_isub hx hb dX5_sum_96 ?_
    refine m_ld_3 X G (vin (i_subE (rfl : (σ.1 5).toInt = _) (show (1 : Int32).toInt = 1 from rfl) (by omega) (by omega)) (by omega) (by omega)) dX5_sum_97 ?_
    refine lv_isub hx hb dX5_sum_98 ?_
    refine m_calll (As := [.long (σ.2.2.2 2 ((σ.1 5) - 1).toNatClampNeg), .int ((f_greater (σ.2.2.1 3 ((σ.1 5) - 1).toNatClampNeg) (σ.2.2.1 3 ((σ.1 5) - 2).toNatClampNeg)) - (σ.2.2.1 3 ((σ.1 5) - 1).toNatClampNeg))]) (rest := []) X hml G hA (c_M_raised l dC dI cI cJ h ad _ (si (si σ 20 (f_greater (σ.2.2.1 3 ((σ.1 5) - 1).toNatClampNeg) (σ.2.2.1 3 ((σ.1 5) - 2).toNatClampNeg))) 16 f_67) (σ.2.2.2 2 ((σ.1 5) - 1).toNatClampNeg) ((f_greater (σ.2.2.1 3 ((σ.1 5) - 1).toNatClampNeg) (σ.2.2.1 3 ((σ.1 5) - 2).toNatClampNeg)) - (σ.2.2.1 3 ((σ.1 5) - 1).toNatClampNeg))) (cwV 2 hts gX5_sum_X5_raised rfl rfl rfl (by decide +kernel) ⟨Nat.le_of_ble_eq_true rfl, Nat.le_of_ble_eq_true rfl⟩) rfl hl.1 rfl (Nat.le_of_ble_eq_true rfl) dX5_sum_99 ⟨Nat.zero_le _, Nat.zero_le _⟩ (fun r_99 u_99 H locs hw_99 G => ?_)
    obtain ⟨f_99, rfl⟩ := raised_st hw_99
    refine lv_lstore (lv' := [(4, .long r_99), (2, .long r_67), (0, .ref h), (1, .int b0)]) hx hb dX5_sum_102 hl (by decide) rfl (fun ls hl => ?_)
    refine lv_aload_n hx hb dX5_sum_104 rfl (lv_at hl 2 rfl) ?_
    refine m_get_16 X G (by decide +kernel) dX5_sum_105 ?_
    refine lv_if_le (tgt := 113) hx hb dX5_sum_108 (by decide) (fun c_108 => ?_) (fun c_108 => ?_)
    · have c_108 : f_99 ≤ 0 := c_108
      refine lv_aload_n hx hb dX5_sum_113 rfl (lv_at hl 2 rfl) ?_
      refine lv_iload_n hx hb dX5_sum_114 rfl (lv_at hl 3 rfl) ?_
      refine lv_if_eq (tgt := 125) hx hb dX5_sum_115 (by decide) (fun c_115 => ?_) (fun c_115 => ?_)
      · have c_115 : b0 = 0 := c_115
        refine lv_lload_n hx hb dX5_sum_125 rfl (lv_at hl 1 rfl) ?_
        refine lv_lload hx hb dX5_sum_126 (lv_at hl 0 rfl) ?_
        refine lv_ladd hx hb dX5_sum_128 ?_
        refine m_put_19 X G (by decide +kernel) dX5_sum_129 (fun H locs G => ?_)
        refine lv_aload_n hx hb dX5_sum_132 rfl (lv_at hl 2 rfl) ?_
        refine m_get_19 X G (by decide +kernel) dX5_sum_133 ?_
        refine W.callR (W.runS (As := [.long (r_67 + r_99)]) (rest := []) ⟨hx, hb, hml, hown, hts⟩ (c_M_isBig l (r_67 + r_99)) (va_cwS 1 hts gX5_sum_X5_isBig rfl rfl rfl (by decide +kernel) ⟨Nat.le_of_ble_eq_true rfl, Nat.le_of_ble_eq_true rfl⟩) ⟨fun a U g mk q => q, fun U _ _ => ⟨rfl, trivial⟩⟩ rfl rfl hl.1 rfl (lv_room (Nat.le_of_ble_eq_true rfl)) dX5_sum_136 ⟨Nat.zero_le _, Nat.zero_le _⟩) ?_
        refine W.eq (g2 := F0 m 139 ls [.int (f_isBig (r_67 + r_99))]) rfl ?_
        refine lv_if_eq (tgt := 150) hx hb dX5_sum_139 (by decide) (fun c_139 => ?_) (fun c_139 => ?_)
        · have c_139 : (f_isBig (r_67 + r_99)) = 0 := c_139
          refine lv_iconst (v := 1) hx hb dX5_sum_150 (by decide) ?_
          refine lv_goto (tgt := 155) hx hb dX5_sum_151 (by decide) ?_
          exact m_zret X G hr hlocks rfl (by simp only [F_sum, hw_2, eq_false c_5, hw_67, hw_99, eq_true c_108, eq_true c_115, eq_true c_139, ↓reduceIte, si_self, sm_self, si_snd, sm_fst, si20_16, not_false_eq_true, not_true_eq_false, eq_self] <;> rfl) dX5_sum_155
        · have c_139 : ¬ ((f_isBig (r_67 + r_99)) = 0) := c_139
          refine lv_aload_n hx hb dX5_sum_142 rfl (lv_at hl 2 rfl) ?_
          refine lv_iconst (v := 5) hx hb dX5_sum_143 (by decide) ?_
          refine m_calli (As := [.int 5]) (rest := []) X hml G hA (c_M_fail l dC dI cI cJ h ad _ (sm (si (si (si σ 20 (f_greater (σ.2.2.1 3 ((σ.1 5) - 1).toNatClampNeg) (σ.2.2.1 3 ((σ.1 5) - 2).toNatClampNeg))) 16 f_67) 16 f_99) (r_67 + r_99)) 5) (cwV 1 hts gX5_sum_X5_fail rfl rfl rfl (by decide +kernel) ⟨Nat.le_of_ble_eq_true rfl, Nat.le_of_ble_eq_true rfl⟩) rfl hl.1 rfl (Nat.le_of_ble_eq_true rfl) dX5_sum_144 ⟨Nat.zero_le _, Nat.zero_le _⟩ (fun r_144 u_144 H locs hw_144 G => ?_)
          obtain ⟨rfl, rfl⟩ := hw_144
          refine lv_if_eq (tgt := 154) hx hb dX5_sum_147 (by decide) (fun c9 => ?_) (fun c9 => absurd (show (0 : Int32) = 0 from by decide) c9)
          refine lv_iconst (v := 0) hx hb dX5_sum_154 (by decide) ?_
          exact m_zret X G hr hlocks rfl (by simp only [F_sum, hw_2, eq_false c_5, hw_67, hw_99, eq_true c_108, eq_true c_115, eq_false c_139, ↓reduceIte, si_self, sm_self, si_snd, sm_fst, si20_16, not_false_eq_true, not_true_eq_false, eq_self] <;> rfl) dX5_sum_155
      · have c_115 : ¬ (b0 = 0) := c_115
        refine lv_lload_n hx hb dX5_sum_118 rfl (lv_at hl 1 rfl) ?_
        refine lv_lload hx hb dX5_sum_119 (lv_at hl 0 rfl) ?_
        refine lv_lsub hx hb dX5_sum_121 ?_
        refine lv_goto (tgt := 129) hx hb dX5_sum_122 (by decide) ?_
        refine m_put_19 X G (by decide +kernel) dX5_sum_129 (fun H locs G => ?_)
        refine lv_aload_n hx hb dX5_sum_132 rfl (lv_at hl 2 rfl) ?_
        refine m_get_19 X G (by decide +kernel) dX5_sum_133 ?_
        refine W.callR (W.runS (As := [.long (r_67 - r_99)]) (rest := []) ⟨hx, hb, hml, hown, hts⟩ (c_M_isBig l (r_67 - r_99)) (va_cwS 1 hts gX5_sum_X5_isBig rfl rfl rfl (by decide +kernel) ⟨Nat.le_of_ble_eq_true rfl, Nat.le_of_ble_eq_true rfl⟩) ⟨fun a U g mk q => q, fun U _ _ => ⟨rfl, trivial⟩⟩ rfl rfl hl.1 rfl (lv_room (Nat.le_of_ble_eq_true rfl)) dX5_sum_136 ⟨Nat.zero_le _, Nat.zero_le _⟩) ?_
        refine W.eq (g2 := F0 m 139 ls [.int (f_isBig (r_67 - r_99))]) rfl ?_
        refine lv_if_eq (tgt := 150) hx hb dX5_sum_139 (by decide) (fun c_139 => ?_) (fun c_139 => ?_)
        · have c_139 : (f_isBig (r_67 - r_99)) = 0 := c_139
          refine lv_iconst (v := 1) hx hb dX5_sum_150 (by decide) ?_
          refine lv_goto (tgt := 155) hx hb dX5_sum_151 (by decide) ?_
          exact m_zret X G hr hlocks rfl (by simp only [F_sum, hw_2, eq_false c_5, hw_67, hw_99, eq_true c_108, eq_false c_115, eq_true c_139, ↓reduceIte, si_self, sm_self, si_snd, sm_fst, si20_16, not_false_eq_true, not_true_eq_false, eq_self] <;> rfl) dX5_sum_155
        · have c_139 : ¬ ((f_isBig (r_67 - r_99)) = 0) := c_139
          refine lv_aload_n hx hb dX5_sum_142 rfl (lv_at hl 2 rfl) ?_
          refine lv_iconst (v := 5) hx hb dX5_sum_143 (by decide) ?_
          refine m_calli (As := [.int 5]) (rest := []) X hml G hA (c_M_fail l dC dI cI cJ h ad _ (sm (si (si (si σ 20 (f_greater (σ.2.2.1 3 ((σ.1 5) - 1).toNatClampNeg) (σ.2.2.1 3 ((σ.1 5) - 2).toNatClampNeg))) 16 f_67) 16 f_99) (r_67 - r_99)) 5) (cwV 1 hts gX5_sum_X5_fail rfl rfl rfl (by decide +kernel) ⟨Nat.le_of_ble_eq_true rfl, Nat.le_of_ble_eq_true rfl⟩) rfl hl.1 rfl (Nat.le_of_ble_eq_true rfl) dX5_sum_144 ⟨Nat.zero_le _, Nat.zero_le _⟩ (fun r_144 u_144 H locs hw_144 G => ?_)
          obtain ⟨rfl, rfl⟩ := hw_144
          refine lv_if_eq (tgt := 154) hx hb dX5_sum_147 (by decide) (fun c9 => ?_) (fun c9 => absurd (show (0 : Int32) = 0 from by decide) c9)
          refine lv_iconst (v := 0) hx hb dX5_sum_154 (by decide) ?_
          exact m_zret X G hr hlocks rfl (by simp only [F_sum, hw_2, eq_false c_5, hw_67, hw_99, eq_true c_108, eq_false c_115, eq_false c_139, ↓reduceIte, si_self, sm_self, si_snd, sm_fst, si20_16, not_false_eq_true, not_true_eq_false, eq_self] <;> rfl) dX5_sum_155
    · have c_108 : ¬ (f_99 ≤ 0) := c_108
      refine lv_iconst (v := 0) hx hb dX5_sum_111 (by decide) ?_
      exact m_zret X G hr hlocks rfl (by simp only [F_sum, hw_2, eq_false c_5, hw_67, hw_99, eq_false c_108, ↓reduceIte, si_self, sm_self, si_snd, sm_fst, si20_16, not_false_eq_true, not_true_eq_false, eq_self] <;> rfl) dX5_sum_112
  · have c_5 : r_2 = 0 := c_5
    refine lv_iconst (v := 0) hx hb dX5_sum_8 (by decide) ?_
    exact m_zret X G hr hlocks rfl (by simp only [F_sum, hw_2, eq_true c_5, ↓reduceIte, si_self, sm_self, si_snd, sm_fst, si20_16, not_false_eq_true, not_true_eq_false, eq_self] <;> rfl) dX5_sum_9
def F_times (σ : MS) : Int32 × MS := let q_2 := F_numbers σ 2; if q_2.1 = 0 then ((0, q_2.2)) else if (f_greater (σ.1 6) (f_greater (σ.2.2.1 3 ((σ.1 5) - 1).toNatClampNeg) (σ.2.2.1 3 ((σ.1 5) - 2).toNatClampNeg))) ≤ ((σ.2.2.1 3 ((σ.1 5) - 1).toNatClampNeg) + (σ.2.2.1 3 ((σ.1 5) - 2).toNatClampNeg)) then (let q_91 := F_product (si σ 20 (f_greater (σ.1 6) (f_greater (σ.2.2.1 3 ((σ.1 5) - 1).toNatClampNeg) (σ.2.2.1 3 ((σ.1 5) - 2).toNatClampNeg)))) (σ.2.2.2 2 ((σ.1 5) - 2).toNatClampNeg) (σ.2.2.2 2 ((σ.1 5) - 1).toNatClampNeg); if (q_91.2.1 16) = 0 then ((1, (sm (si (si σ 20 (f_greater (σ.1 6) (f_greater (σ.2.2.1 3 ((σ.1 5) - 1).toNatClampNeg) (σ.2.2.1 3 ((σ.1 5) - 2).toNatClampNeg)))) 16 (q_91.2.1 16)) (f_cut q_91.1 (((σ.2.2.1 3 ((σ.1 5) - 1).toNatClampNeg) + (σ.2.2.1 3 ((σ.1 5) - 2).toNatClampNeg)) - (f_greater (σ.1 6) (f_greater (σ.2.2.1 3 ((σ.1 5) - 1).toNatClampNeg) (σ.2.2.1 3 ((σ.1 5) - 2).toNatClampNeg)))))))) else (0, (sm (si (si σ 20 (f_greater (σ.1 6) (f_greater (σ.2.2.1 3 ((σ.1 5) - 1).toNatClampNeg) (σ.2.2.1 3 ((σ.1 5) - 2).toNatClampNeg)))) 16 (q_91.2.1 16)) (f_cut q_91.1 (((σ.2.2.1 3 ((σ.1 5) - 1).toNatClampNeg) + (σ.2.2.1 3 ((σ.1 5) - 2).toNatClampNeg)) - (f_greater (σ.1 6) (f_greater (σ.2.2.1 3 ((σ.1 5) - 1).toNatClampNeg) (σ.2.2.1 3 ((σ.1 5) - 2).toNatClampNeg)))))))) else let q_91 := F_product (si (si σ 20 (f_greater (σ.1 6) (f_greater (σ.2.2.1 3 ((σ.1 5) - 1).toNatClampNeg) (σ.2.2.1 3 ((σ.1 5) - 2).toNatClampNeg)))) 20 ((σ.2.2.1 3 ((σ.1 5) - 1).toNatClampNeg) + (σ.2.2.1 3 ((σ.1 5) - 2).toNatClampNeg))) (σ.2.2.2 2 ((σ.1 5) - 2).toNatClampNeg) (σ.2.2.2 2 ((σ.1 5) - 1).toNatClampNeg); if (q_91.2.1 16) = 0 then ((1, (sm (si (si (si σ 20 (f_greater (σ.1 6) (f_greater (σ.2.2.1 3 ((σ.1 5) - 1).toNatClampNeg) (σ.2.2.1 3 ((σ.1 5) - 2).toNatClampNeg)))) 20 ((σ.2.2.1 3 ((σ.1 5) - 1).toNatClampNeg) + (σ.2.2.1 3 ((σ.1 5) - 2).toNatClampNeg))) 16 (q_91.2.1 16)) (f_cut q_91.1 (((σ.2.2.1 3 ((σ.1 5) - 1).toNatClampNeg) + (σ.2.2.1 3 ((σ.1 5) - 2).toNatClampNeg)) - ((σ.2.2.1 3 ((σ.1 5) - 1).toNatClampNeg) + (σ.2.2.1 3 ((σ.1 5) - 2).toNatClampNeg))))))) else (0, (sm (si (si (si σ 20 (f_greater (σ.1 6) (f_greater (σ.2.2.1 3 ((σ.1 5) - 1).toNatClampNeg) (σ.2.2.1 3 ((σ.1 5) - 2).toNatClampNeg)))) 20 ((σ.2.2.1 3 ((σ.1 5) - 1).toNatClampNeg) + (σ.2.2.1 3 ((σ.1 5) - 2).toNatClampNeg))) 16 (q_91.2.1 16)) (f_cut q_91.1 (((σ.2.2.1 3 ((σ.1 5) - 1).toNatClampNeg) + (σ.2.2.1 3 ((σ.1 5) - 2).toNatClampNeg)) - ((σ.2.2.1 3 ((σ.1 5) - 1).toNatClampNeg) + (σ.2.2.1 3 ((σ.1 5) - 2).toNatClampNeg))))))
set_option maxHeartbeats 4000000 in
set_option maxRecDepth 100000 in
theorem c_M_times (l : Launch) (dC : Nat → ClassId) (dI : Nat → Nat → Nat) (cI cJ : ClassId) (h : Nat) (ad : Nat → Nat) (sz : Nat) (σ : MS) (hd : (σ.1 5).toInt ≤ 40) : Met l yX5_times wsX5_times ({ frames := 3, cells := 0, slots := 0, locals := 64 } : Room) (va_Pc [.ref h] (mPre dC dI cI cJ h ad sz σ)) (va_Qi (fun r u => F_times σ = (r, u)) (mAt dC dI cI cJ h ad (mA h ad cI cJ σ sz)) (mA h ad cI cJ σ sz)) 0 0 (mA h ad cI cJ σ sz) := by
  refine m_ofW (cc := cX5_times) (maxL := 3) (ret := (some .boolean)) (by decide) rfl (by decide +kernel) rfl (Nat.le_of_ble_eq_true rfl) ?_
  intro p e s m below meth c X G hA hr hlocks hml ls hl
  have hl : lv_has ls 3 [(0, .ref h)] := hl
  have hx := X.1
  have hb := X.2.1
  have hts := X.2.2.1
  have hown := X.2.2.2.2.1
  refine lv_aload_n hx hb dX5_times_0 rfl (lv_at hl 0 rfl) ?_
  refine lv_iconst (v := 2) hx hb dX5_times_1 (by decide) ?_
  refine m_calli (As := [.int 2]) (rest := []) X hml G hA (c_M_numbers l dC dI cI cJ h ad _ σ 2 (by decide) hd) (cwV 1 hts gX5_times_X5_numbers rfl rfl rfl (by decide +kernel) ⟨Nat.le_of_ble_eq_true rfl, Nat.le_of_ble_eq_true rfl⟩) rfl hl.1 rfl (Nat.le_of_ble_eq_true rfl) dX5_times_2 ⟨Nat.zero_le _, Nat.zero_le _⟩ (fun r_2 u_2 H locs hw_2 G => ?_)
  refine lv_if_ne (tgt := 10) hx hb dX5_times_5 (by decide) (fun c_5 => ?_) (fun c_5 => ?_)
  · have c_5 : ¬ (r_2 = 0) := c_5
    obtain ⟨rfl, hn⟩ := numbers_ok hw_2 c_5
    have hn : 2 ≤ (σ.1 5).toInt := hn
    refine lv_aload_n hx hb dX5_times_10 rfl (lv_at hl 0 rfl) ?_
    refine m_get_3 X G (by decide +kernel) dX5_times_11 ?_
    refine lv_aload_n hx hb dX5_times_14 rfl (lv_at hl 0 rfl) ?_
    refine m_get_5 X G (by decide +kernel) dX5_times_15 ?_
    refine lv_iconst (v := 1) hx hb dX5_times_18 (by decide) ?_
    refine lv_isub hx hb dX5_times_19 ?_
    refine m_ld_3 X G (vin (i_subE (rfl : (σ.1 5).toInt = _) (show (1 : Int32).toInt = 1 from rfl) (by omega) (by omega)) (by omega) (by omega)) dX5_times_20 ?_
    refine lv_istore_n (lv' := [(1, .int (σ.2.2.1 3 ((σ.1 5) - 1).toNatClampNeg)), (0, .ref h)]) hx hb dX5_times_21 rfl hl (by decide) rfl (fun ls hl => ?_)
    refine lv_aload_n hx hb dX5_times_22 rfl (lv_at hl 1 rfl) ?_
    refine m_get_3 X G (by decide +kernel) dX5_times_23 ?_
    refine lv_aload_n hx hb dX5_times_26 rfl (lv_at hl 1 rfl) ?_
    refine m_get_5 X G (by decide +kernel) dX5_times_27 ?_
    refine lv_iconst (v := 2) hx hb dX5_times_30 (by decide) ?_
    refine lv_isub hx hb dX5_times_31 ?_
    refine m_ld_3 X G (vin (i_subE (rfl : (σ.1 5).toInt = _) (show (2 : Int32).toInt = 2 from rfl) (by omega) (by omega)) (by omega) (by omega)) dX5_times_32 ?_
    refine lv_istore_n (lv' := [(2, .int (σ.2.2.1 3 ((σ.1 5) - 2).toNatClampNeg)), (1, .int (σ.2.2.1 3 ((σ.1 5) - 1).toNatClampNeg)), (0, .ref h)]) hx hb dX5_times_33 rfl hl (by decide) rfl (fun ls hl => ?_)
    refine lv_aload_n hx hb dX5_times_34 rfl (lv_at hl 2 rfl) ?_
    refine lv_aload_n hx hb dX5_times_35 rfl (lv_at hl 2 rfl) ?_
    refine m_get_6 X G (by decide +kernel) dX5_times_36 ?_
    refine lv_iload_n hx hb dX5_times_39 rfl (lv_at hl 1 rfl) ?_
    refine lv_iload_n hx hb dX5_times_40 rfl (lv_at hl 0 rfl) ?_
    refine W.callR (W.runS (As := [.int (σ.2.2.1 3 ((σ.1 5) - 1).toNatClampNeg), .int (σ.2.2.1 3 ((σ.1 5) - 2).toNatClampNeg)]) (rest := [.int (σ.1 6), .ref h]) ⟨hx, hb, hml, hown, hts⟩ (c_M_greater l (σ.2.2.1 3 ((σ.1 5) - 1).toNatClampNeg) (σ.2.2.1 3 ((σ.1 5) - 2).toNatClampNeg)) (va_cwS 2 hts gX5_times_X5_greater rfl rfl rfl (by decide +kernel) ⟨Nat.le_of_ble_eq_true rfl, Nat.le_of_ble_eq_true rfl⟩) ⟨fun a U g mk q => q, fun U _ _ => ⟨rfl, trivial⟩⟩ rfl rfl hl.1 rfl (lv_room (Nat.le_of_ble_eq_true rfl)) dX5_times_41 ⟨Nat.zero_le _, Nat.zero_le _⟩) ?_
    refine W.eq (g2 := F0 m 44 ls [.int (f_greater (σ.2.2.1 3 ((σ.1 5) - 1).toNatClampNeg) (σ.2.2.1 3 ((σ.1 5) - 2).toNatClampNeg)), .int (σ.1 6), .ref h]) rfl ?_
    refine W.callR (W.runS (As := [.int (σ.1 6), .int (f_greater (σ.2.2.1 3 ((σ.1 5) - 1).toNatClampNeg) (σ.2.2.1 3 ((σ.1 5) - 2).toNatClampNeg))]) (rest := [.ref h]) ⟨hx, hb, hml, hown, hts⟩ (c_M_greater l (σ.1 6) (f_greater (σ.2.2.1 3 ((σ.1 5) - 1).toNatClampNeg) (σ.2.2.1 3 ((σ.1 5) - 2).toNatClampNeg))) (va_cwS 2 hts gX5_times_X5_greater rfl rfl rfl (by decide +kernel) ⟨Nat.le_of_ble_eq_true rfl, Nat.le_of_ble_eq_true rfl⟩) ⟨fun a U g mk q => q, fun U _ _ => ⟨rfl, trivial⟩⟩ rfl rfl hl.1 rfl (lv_room (Nat.le_of_ble_eq_true rfl)) dX5_times_44 ⟨Nat.zero_le _, Nat.zero_le _⟩) ?_
    refine W.eq (g2 := F0 m 47 ls [.int (f_greater (σ.1 6) (f_greater (σ.2.2.1 3 ((σ.1 5) - 1).toNatClampNeg) (σ.2.2.1 3 ((σ.1 5) - 2).toNatClampNeg))), .ref h]) rfl ?_
    refine m_put_20 X G (by decide +kernel) dX5_times_47 (fun H locs G => ?_)
    refine lv_iload_n hx hb dX5_times_50 rfl (lv_at hl 1 rfl) ?_
    refine lv_iload_n hx hb dX5_times_51 rfl (lv_at hl 0 rfl) ?_
    refine lv_iadd hx hb dX5_times_52 ?_
    refine lv_aload_n hx hb dX5_times_53 rfl (lv_at hl 2 rfl) ?_
    refine m_get_20 X G (by decide +kernel) dX5_times_54 ?_
    refine lv_icmp_ge (tgt := 67) hx hb dX5_times_57 (by decide) (fun c_57 => ?_) (fun c_57 => ?_)
    · have c_57 : (f_greater (σ.1 6) (f_greater (σ.2.2.1 3 ((σ.1 5) - 1).toNatClampNeg) (σ.2.2.1 3 ((σ.1 5) - 2).toNatClampNeg))) ≤ ((σ.2.2.1 3 ((σ.1 5) - 1).toNatClampNeg) + (σ.2.2.1 3 ((σ.1 5) - 2).toNatClampNeg)) := c_57
      refine lv_aload_n hx hb dX5_times_67 rfl (lv_at hl 2 rfl) ?_
      refine lv_aload_n hx hb dX5_times_68 rfl (lv_at hl 2 rfl) ?_
      refine lv_aload_n hx hb dX5_times_69 rfl (lv_at hl 2 rfl) ?_
      refine m_get_2 X G (by decide +kernel) dX5_times_70 ?_
      refine lv_aload_n hx hb dX5_times_73 rfl (lv_at hl 2 rfl) ?_
      refine m_get_5 X G (by decide +kernel) dX5_times_74 ?_
      refine lv_iconst (v := 2) hx hb dX5_times_77 (by decide) ?_
      refine lv_isub hx hb dX5_times_78 ?_
      refine m_ld_2 X G (vin (i_subE (rfl : (σ.1 5).toInt = _) (show (2 : Int32).toInt = 2 from rfl) (by omega) (by omega)) (by omega) (by omega)) dX5_times_79 ?_
      refine lv_aload_n hx hb dX5_times_80 rfl (lv_at hl 2 rfl) ?_
      refine m_get_2 X G (by decide +kernel) dX5_times_81 ?_
      refine lv_aload_n hx hb dX5_times_84 rfl (lv_at hl 2 rfl) ?_
      refine m_get_5 X G (by decide +kernel) dX5_times_85 ?_
      refine lv_iconst (v := 1) hx hb dX5_times_88 (by decide) ?_
      refine lv_isub hx hb dX5_times_89 ?_
      refine m_ld_2 X G (vin (i_subE (rfl : (σ.1 5).toInt = _) (show (1 : Int32).toInt = 1 from rfl) (by omega) (by omega)) (by omega) (by omega)) dX5_times_90 ?_
      refine m_calll (As := [.long (σ.2.2.2 2 ((σ.1 5) - 2).toNatClampNeg), .long (σ.2.2.2 2 ((σ.1 5) - 1).toNatClampNeg)]) (rest := [.ref h]) X hml G hA (c_M_product l dC dI cI cJ h ad _ (si σ 20 (f_greater (σ.1 6) (f_greater (σ.2.2.1 3 ((σ.1 5) - 1).toNatClampNeg) (σ.2.2.1 3 ((σ.1 5) - 2).toNatClampNeg)))) (σ.2.2.2 2 ((σ.1 5) - 2).toNatClampNeg) (σ.2.2.2 2 ((σ.1 5) - 1).toNatClampNeg)) (cwV 2 hts gX5_times_X5_product rfl rfl rfl (by decide +kernel) ⟨Nat.le_of_ble_eq_true rfl, Nat.le_of_ble_eq_true rfl⟩) rfl hl.1 rfl (Nat.le_of_ble_eq_true rfl) dX5_times_91 ⟨Nat.zero_le _, Nat.zero_le _⟩ (fun r_91 u_91 H locs hw_91 G => ?_)
      obtain ⟨f_91, rfl⟩ := product_st hw_91
      refine lv_iload_n hx hb dX5_times_94 rfl (lv_at hl 1 rfl) ?_
      refine lv_iload_n hx hb dX5_times_95 rfl (lv_at hl 0 rfl) ?_
      refine lv_iadd hx hb dX5_times_96 ?_
      refine lv_aload_n hx hb dX5_times_97 rfl (lv_at hl 2 rfl) ?_
      refine m_get_20 X G (by decide +kernel) dX5_times_98 ?_
      refine lv_isub hx hb dX5_times_101 ?_
      refine W.callRL (W.runS (As := [.long r_91, .int (((σ.2.2.1 3 ((σ.1 5) - 1).toNatClampNeg) + (σ.2.2.1 3 ((σ.1 5) - 2).toNatClampNeg)) - (f_greater (σ.1 6) (f_greater (σ.2.2.1 3 ((σ.1 5) - 1).toNatClampNeg) (σ.2.2.1 3 ((σ.1 5) - 2).toNatClampNeg))))]) (rest := [.ref h]) ⟨hx, hb, hml, hown, hts⟩ (c_M_cut l r_91 (((σ.2.2.1 3 ((σ.1 5) - 1).toNatClampNeg) + (σ.2.2.1 3 ((σ.1 5) - 2).toNatClampNeg)) - (f_greater (σ.1 6) (f_greater (σ.2.2.1 3 ((σ.1 5) - 1).toNatClampNeg) (σ.2.2.1 3 ((σ.1 5) - 2).toNatClampNeg))))) (va_cwS 2 hts gX5_times_X5_cut rfl rfl rfl (by decide +kernel) ⟨Nat.le_of_ble_eq_true rfl, Nat.le_of_ble_eq_true rfl⟩) ⟨fun a U g mk q => q, fun U _ _ => ⟨rfl, trivial⟩⟩ rfl rfl hl.1 rfl (lv_room (Nat.le_of_ble_eq_true rfl)) dX5_times_102 ⟨Nat.zero_le _, Nat.zero_le _⟩) ?_
      refine W.eq (g2 := F0 m 105 ls [.long (f_cut r_91 (((σ.2.2.1 3 ((σ.1 5) - 1).toNatClampNeg) + (σ.2.2.1 3 ((σ.1 5) - 2).toNatClampNeg)) - (f_greater (σ.1 6) (f_greater (σ.2.2.1 3 ((σ.1 5) - 1).toNatClampNeg) (σ.2.2.1 3 ((σ.1 5) - 2).toNatClampNeg))))), .ref h]) rfl ?_
      refine m_put_19 X G (by decide +kernel) dX5_times_105 (fun H locs G => ?_)
      refine lv_aload_n hx hb dX5_times_108 rfl (lv_at hl 2 rfl) ?_
      refine m_get_16 X G (by decide +kernel) dX5_times_109 ?_
      refine lv_if_ne (tgt := 119) hx hb dX5_times_112 (by decide) (fun c_112 => ?_) (fun c_112 => ?_)
      · have c_112 : ¬ (f_91 = 0) := c_112
        refine lv_iconst (v := 0) hx hb dX5_times_119 (by decide) ?_
        exact m_zret X G hr hlocks rfl (by simp only [F_times, hw_2, eq_false c_5, eq_true c_57, hw_91, eq_false c_112, ↓reduceIte, si_self, sm_self, si_snd, sm_fst, si20_16, not_false_eq_true, not_true_eq_false, eq_self] <;> rfl) dX5_times_120
      · have c_112 : f_91 = 0 := c_112
        refine lv_iconst (v := 1) hx hb dX5_times_115 (by decide) ?_
        refine lv_goto (tgt := 120) hx hb dX5_times_116 (by decide) ?_
        exact m_zret X G hr hlocks rfl (by simp only [F_times, hw_2, eq_false c_5, eq_true c_57, hw_91, eq_true c_112, ↓reduceIte, si_self, sm_self, si_snd, sm_fst, si20_16, not_false_eq_true, not_true_eq_false, eq_self] <;> rfl) dX5_times_120
    · have c_57 : ¬ ((f_greater (σ.1 6) (f_greater (σ.2.2.1 3 ((σ.1 5) - 1).toNatClampNeg) (σ.2.2.1 3 ((σ.1 5) - 2).toNatClampNeg))) ≤ ((σ.2.2.1 3 ((σ.1 5) - 1).toNatClampNeg) + (σ.2.2.1 3 ((σ.1 5) - 2).toNatClampNeg))) := c_57
      refine lv_aload_n hx hb dX5_times_60 rfl (lv_at hl 2 rfl) ?_
      refine lv_iload_n hx hb dX5_times_61 rfl (lv_at hl 1 rfl) ?_
      refine lv_iload_n hx hb dX5_times_62 rfl (lv_at hl 0 rfl) ?_
      refine lv_iadd hx hb dX5_times_63 ?_
      refine m_put_20 X G (by decide +kernel) dX5_times_64 (fun H locs G => ?_)
      refine lv_aload_n hx hb dX5_times_67 rfl (lv_at hl 2 rfl) ?_
      refine lv_aload_n hx hb dX5_times_68 rfl (lv_at hl 2 rfl) ?_
      refine lv_aload_n hx hb dX5_times_69 rfl (lv_at hl 2 rfl) ?_
      refine m_get_2 X G (by decide +kernel) dX5_times_70 ?_
      refine lv_aload_n hx hb dX5_times_73 rfl (lv_at hl 2 rfl) ?_
      refine m_get_5 X G (by decide +kernel) dX5_times_74 ?_
      refine lv_iconst (v := 2) hx hb dX5_times_77 (by decide) ?_
      refine lv_isub hx hb dX5_times_78 ?_
      refine m_ld_2 X G (vin (i_subE (rfl : (σ.1 5).toInt = _) (show (2 : Int32).toInt = 2 from rfl) (by omega) (by omega)) (by omega) (by omega)) dX5_times_79 ?_
      refine lv_aload_n hx hb dX5_times_80 rfl (lv_at hl 2 rfl) ?_
      refine m_get_2 X G (by decide +kernel) dX5_times_81 ?_
      refine lv_aload_n hx hb dX5_times_84 rfl (lv_at hl 2 rfl) ?_
      refine m_get_5 X G (by decide +kernel) dX5_times_85 ?_
      refine lv_iconst (v := 1) hx hb dX5_times_88 (by decide) ?_
      refine lv_isub hx hb dX5_times_89 ?_
      refine m_ld_2 X G (vin (i_subE (rfl : (σ.1 5).toInt = _) (show (1 : Int32).toInt = 1 from rfl) (by omega) (by omega)) (by omega) (by omega)) dX5_times_90 ?_
      refine m_calll (As := [.long (σ.2.2.2 2 ((σ.1 5) - 2).toNatClampNeg), .long (σ.2.2.2 2 ((σ.1 5) - 1).toNatClampNeg)]) (rest := [.ref h]) X hml G hA (c_M_product l dC dI cI cJ h ad _ (si (si σ 20 (f_greater (σ.1 6) (f_greater (σ.2.2.1 3 ((σ.1 5) - 1).toNatClampNeg) (σ.2.2.1 3 ((σ.1 5) - 2).toNatClampNeg)))) 20 ((σ.2.2.1 3 ((σ.1 5) - 1).toNatClampNeg) + (σ.2.2.1 3 ((σ.1 5) - 2).toNatClampNeg))) (σ.2.2.2 2 ((σ.1 5) - 2).toNatClampNeg) (σ.2.2.2 2 ((σ.1 5) - 1).toNatClampNeg)) (cwV 2 hts gX5_times_X5_product rfl rfl rfl (by decide +kernel) ⟨Nat.le_of_ble_eq_true rfl, Nat.le_of_ble_eq_true rfl⟩) rfl hl.1 rfl (Nat.le_of_ble_eq_true rfl) dX5_times_91 ⟨Nat.zero_le _, Nat.zero_le _⟩ (fun r_91 u_91 H locs hw_91 G => ?_)
      obtain ⟨f_91, rfl⟩ := product_st hw_91
      refine lv_iload_n hx hb dX5_times_94 rfl (lv_at hl 1 rfl) ?_
      refine lv_iload_n hx hb dX5_times_95 rfl (lv_at hl 0 rfl) ?_
      refine lv_iadd hx hb dX5_times_96 ?_
      refine lv_aload_n hx hb dX5_times_97 rfl (lv_at hl 2 rfl) ?_
      refine m_get_20 X G (by decide +kernel) dX5_times_98 ?_
      refine lv_isub hx hb dX5_times_101 ?_
      refine W.callRL (W.runS (As := [.long r_91, .int (((σ.2.2.1 3 ((σ.1 5) - 1).toNatClampNeg) + (σ.2.2.1 3 ((σ.1 5) - 2).toNatClampNeg)) - ((σ.2.2.1 3 ((σ.1 5) - 1).toNatClampNeg) + (σ.2.2.1 3 ((σ.1 5) - 2).toNatClampNeg)))]) (rest := [.ref h]) ⟨hx, hb, hml, hown, hts⟩ (c_M_cut l r_91 (((σ.2.2.1 3 ((σ.1 5) - 1).toNatClampNeg) + (σ.2.2.1 3 ((σ.1 5) - 2).toNatClampNeg)) - ((σ.2.2.1 3 ((σ.1 5) - 1).toNatClampNeg) + (σ.2.2.1 3 ((σ.1 5) - 2).toNatClampNeg)))) (va_cwS 2 hts gX5_times_X5_cut rfl rfl rfl (by decide +kernel) ⟨Nat.le_of_ble_eq_true rfl, Nat.le_of_ble_eq_true rfl⟩) ⟨fun a U g mk q => q, fun U _ _ => ⟨rfl, trivial⟩⟩ rfl rfl hl.1 rfl (lv_room (Nat.le_of_ble_eq_true rfl)) dX5_times_102 ⟨Nat.zero_le _, Nat.zero_le _⟩) ?_
      refine W.eq (g2 := F0 m 105 ls [.long (f_cut r_91 (((σ.2.2.1 3 ((σ.1 5) - 1).toNatClampNeg) + (σ.2.2.1 3 ((σ.1 5) - 2).toNatClampNeg)) - ((σ.2.2.1 3 ((σ.1 5) - 1).toNatClampNeg) + (σ.2.2.1 3 ((σ.1 5) - 2).toNatClampNeg)))), .ref h]) rfl ?_
      refine m_put_19 X G (by decide +kernel) dX5_times_105 (fun H locs G => ?_)
      refine lv_aload_n hx hb dX5_times_108 rfl (lv_at hl 2 rfl) ?_
      refine m_get_16 X G (by decide +kernel) dX5_times_109 ?_
      refine lv_if_ne (tgt := 119) hx hb dX5_times_112 (by decide) (fun c_112 => ?_) (fun c_112 => ?_)
      · have c_112 : ¬ (f_91 = 0) := c_112
        refine lv_iconst (v := 0) hx hb dX5_times_119 (by decide) ?_
        exact m_zret X G hr hlocks rfl (by simp only [F_times, hw_2, eq_false c_5, eq_false c_57, hw_91, eq_false c_112, ↓reduceIte, si_self, sm_self, si_snd, sm_fst, si20_16, not_false_eq_true, not_true_eq_false, eq_self] <;> rfl) dX5_times_120
      · have c_112 : f_91 = 0 := c_112
        refine lv_iconst (v := 1) hx hb dX5_times_115 (by decide) ?_
        refine lv_goto (tgt := 120) hx hb dX5_times_116 (by decide) ?_
        exact m_zret X G hr hlocks rfl (by simp only [F_times, hw_2, eq_false c_5, eq_false c_57, hw_91, eq_true c_112, ↓reduceIte, si_self, sm_self, si_snd, sm_fst, si20_16, not_false_eq_true, not_true_eq_false, eq_self] <;> rfl) dX5_times_120
  · have c_5 : r_2 = 0 := c_5
    refine lv_iconst (v := 0) hx hb dX5_times_8 (by decide) ?_
    exact m_zret X G hr hlocks rfl (by simp only [F_times, hw_2, eq_true c_5, ↓reduceIte, si_self, sm_self, si_snd, sm_fst, si20_16, not_false_eq_true, not_true_eq_false, eq_self] <;> rfl) dX5_times_9
def F_quotient (σ : MS) : Int32 × MS := let q_2 := F_numbers σ 2; if q_2.1 = 0 then ((0, q_2.2)) else if (σ.2.2.2 2 ((σ.1 5) - 1).toNatClampNeg) = 0 then ((0, (si σ 16 4))) else let q_80 := F_raised σ (σ.2.2.2 2 ((σ.1 5) - 2).toNatClampNeg) (((σ.1 6) + (σ.2.2.1 3 ((σ.1 5) - 1).toNatClampNeg)) - (σ.2.2.1 3 ((σ.1 5) - 2).toNatClampNeg)); let q_89 := F_raised (si σ 16 (q_80.2.1 16)) (σ.2.2.2 2 ((σ.1 5) - 1).toNatClampNeg) (-(((σ.1 6) + (σ.2.2.1 3 ((σ.1 5) - 1).toNatClampNeg)) - (σ.2.2.1 3 ((σ.1 5) - 2).toNatClampNeg))); if (q_89.2.1 16) ≤ 0 then ((1, (si (sm (si (si σ 16 (q_80.2.1 16)) 16 (q_89.2.1 16)) (q_80.1 / q_89.1)) 20 (σ.1 6)))) else (0, (si (si σ 16 (q_80.2.1 16)) 16 (q_89.2.1 16)))
set_option maxHeartbeats 4000000 in
set_option maxRecDepth 100000 in
theorem c_M_quotient (l : Launch) (dC : Nat → ClassId) (dI : Nat → Nat → Nat) (cI cJ : ClassId) (h : Nat) (ad : Nat → Nat) (sz : Nat) (σ : MS) (hd : (σ.1 5).toInt ≤ 40) : Met l yX5_quotient wsX5_quotient ({ frames := 3, cells := 0, slots := 0, locals := 64 } : Room) (va_Pc [.ref h] (mPre dC dI cI cJ h ad sz σ)) (va_Qi (fun r u => F_quotient σ = (r, u)) (mAt dC dI cI cJ h ad (mA h ad cI cJ σ sz)) (mA h ad cI cJ σ sz)) 0 0 (mA h ad cI cJ σ sz) := by
  refine m_ofW (cc := cX5_quotient) (maxL := 6) (ret := (some .boolean)) (by decide) rfl (by decide +kernel) rfl (Nat.le_of_ble_eq_true rfl) ?_
  intro p e s m below meth c X G hA hr hlocks hml ls hl
  have hl : lv_has ls 6 [(0, .ref h)] := hl
  have hx := X.1
  have hb := X.2.1
  have hts := X.2.2.1
  have hown := X.2.2.2.2.1
  refine lv_aload_n hx hb dX5_quotient_0 rfl (lv_at hl 0 rfl) ?_
  refine lv_iconst (v := 2) hx hb dX5_quotient_1 (by decide) ?_
  refine m_calli (As := [.int 2]) (rest := []) X hml G hA (c_M_numbers l dC dI cI cJ h ad _ σ 2 (by decide) hd) (cwV 1 hts gX5_quotient_X5_numbers rfl rfl rfl (by decide +kernel) ⟨Nat.le_of_ble_eq_true rfl, Nat.le_of_ble_eq_true rfl⟩) rfl hl.1 rfl (Nat.le_of_ble_eq_true rfl) dX5_quotient_2 ⟨Nat.zero_le _, Nat.zero_le _⟩ (fun r_2 u_2 H locs hw_2 G => ?_)
  refine lv_if_ne (tgt := 10) hx hb dX5_quotient_5 (by decide) (fun c_5 => ?_) (fun c_5 => ?_)
  · have c_5 : ¬ (r_2 = 0) := c_5
    obtain ⟨rfl, hn⟩ := numbers_ok hw_2 c_5
    have hn : 2 ≤ (σ.1 5).toInt := hn
    refine lv_aload_n hx hb dX5_quotient_10 rfl (lv_at hl 0 rfl) ?_
    refine m_get_2 X G (by decide +kernel) dX5_quotient_11 ?_
    refine lv_aload_n hx hb dX5_quotient_14 rfl (lv_at hl 0 rfl) ?_
    refine m_get_5 X G (by decide +kernel) dX5_quotient_15 ?_
    refine lv_iconst (v := 2) hx hb dX5_quotient_18 (by decide) ?_
    refine lv_isub hx hb dX5_quotient_19 ?_
    refine m_ld_2 X G (vin (i_subE (rfl : (σ.1 5).toInt = _) (show (2 : Int32).toInt = 2 from rfl) (by omega) (by omega)) (by omega) (by omega)) dX5_quotient_20 ?_
    refine lv_lstore_n (lv' := [(1, .long (σ.2.2.2 2 ((σ.1 5) - 2).toNatClampNeg)), (0, .ref h)]) hx hb dX5_quotient_21 rfl hl (by decide) rfl (fun ls hl => ?_)
    refine lv_aload_n hx hb dX5_quotient_22 rfl (lv_at hl 1 rfl) ?_
    refine m_get_2 X G (by decide +kernel) dX5_quotient_23 ?_
    refine lv_aload_n hx hb dX5_quotient_26 rfl (lv_at hl 1 rfl) ?_
    refine m_get_5 X G (by decide +kernel) dX5_quotient_27 ?_
    refine lv_iconst (v := 1) hx hb dX5_quotient_30 (by decide) ?_
    refine lv_isub hx hb dX5_quotient_31 ?_
    refine m_ld_2 X G (vin (i_subE (rfl : (σ.1 5).toInt = _) (show (1 : Int32).toInt = 1 from rfl) (by omega) (by omega)) (by omega) (by omega)) dX5_quotient_32 ?_
    refine lv_lstore_n (lv' := [(3, .long (σ.2.2.2 2 ((σ.1 5) - 1).toNatClampNeg)), (1, .long (σ.2.2.2 2 ((σ.1 5) - 2).toNatClampNeg)), (0, .ref h)]) hx hb dX5_quotient_33 rfl hl (by decide) rfl (fun ls hl => ?_)
    refine lv_lload_n hx hb dX5_quotient_34 rfl (lv_at hl 0 rfl) ?_
    refine lv_lconst (v := 0) hx hb dX5_quotient_35 (by decide) ?_
    refine W.lcmp hx hb dX5_quotient_36 ?_
    refine lv_if_ne (tgt := 46) hx hb dX5_quotient_37 (by decide) (fun c_37 => ?_) (fun c_37 => ?_)
    · have c_37 := (mt (l_cmp_eq _ _).mpr c_37)
      have c_37 : ¬ ((σ.2.2.2 2 ((σ.1 5) - 1).toNatClampNeg) = 0) := c_37
      refine lv_aload_n hx hb dX5_quotient_46 rfl (lv_at hl 2 rfl) ?_
      refine m_get_6 X G (by decide +kernel) dX5_quotient_47 ?_
      refine lv_aload_n hx hb dX5_quotient_50 rfl (lv_at hl 2 rfl) ?_
      refine m_get_3 X G (by decide +kernel) dX5_quotient_51 ?_
      refine lv_aload_n hx hb dX5_quotient_54 rfl (lv_at hl 2 rfl) ?_
      refine m_get_5 X G (by decide +kernel) dX5_quotient_55 ?_
      refine lv_iconst (v := 1) hx hb dX5_quotient_58 (by decide) ?_
      refine lv_isub hx hb dX5_quotient_59 ?_
      refine m_ld_3 X G (vin (i_subE (rfl : (σ.1 5).toInt = _) (show (1 : Int32).toInt = 1 from rfl) (by omega) (by omega)) (by omega) (by omega)) dX5_quotient_60 ?_
      refine lv_iadd hx hb dX5_quotient_61 ?_
      refine lv_aload_n hx hb dX5_quotient_62 rfl (lv_at hl 2 rfl) ?_
      refine m_get_3 X G (by decide +kernel) dX5_quotient_63 ?_
      refine lv_aload_n hx hb dX5_quotient_66 rfl (lv_at hl 2 rfl) ?_
      refine m_get_5 X G (by decide +kernel) dX5_quotient_67 ?_
      refine lv_iconst (v := 2) hx hb dX5_quotient_70 (by decide) ?_
      refine lv_isub hx hb dX5_quotient_71 ?_
      refine m_ld_3 X G (vin (i_subE (rfl : (σ.1 5).toInt = _) (show (2 : Int32).toInt = 2 from rfl) (by omega) (by omega)) (by omega) (by omega)) dX5_quotient_72 ?_
      refine lv_isub hx hb dX5_quotient_73 ?_
      refine lv_istore (lv' := [(5, .int (((σ.1 6) + (σ.2.2.1 3 ((σ.1 5) - 1).toNatClampNeg)) - (σ.2.2.1 3 ((σ.1 5) - 2).toNatClampNeg))), (3, .long (σ.2.2.2 2 ((σ.1 5) - 1).toNatClampNeg)), (1, .long (σ.2.2.2 2 ((σ.1 5) - 2).toNatClampNeg)), (0, .ref h)]) hx hb dX5_quotient_74 hl (by decide) rfl (fun ls hl => ?_)
      refine lv_aload_n hx hb dX5_quotient_76 rfl (lv_at hl 3 rfl) ?_
      refine lv_lload_n hx hb dX5_quotient_77 rfl (lv_at hl 2 rfl) ?_
      refine lv_iload hx hb dX5_quotient_78 (lv_at hl 0 rfl) ?_
      refine m_calll (As := [.long (σ.2.2.2 2 ((σ.1 5) - 2).toNatClampNeg), .int (((σ.1 6) + (σ.2.2.1 3 ((σ.1 5) - 1).toNatClampNeg)) - (σ.2.2.1 3 ((σ.1 5) - 2).toNatClampNeg))]) (rest := []) X hml G hA (c_M_raised l dC dI cI cJ h ad _ σ (σ.2.2.2 2 ((σ.1 5) - 2).toNatClampNeg) (((σ.1 6) + (σ.2.2.1 3 ((σ.1 5) - 1).toNatClampNeg)) - (σ.2.2.1 3 ((σ.1 5) - 2).toNatClampNeg))) (cwV 2 hts gX5_quotient_X5_raised rfl rfl rfl (by decide +kernel) ⟨Nat.le_of_ble_eq_true rfl, Nat.le_of_ble_eq_true rfl⟩) rfl hl.1 rfl (Nat.le_of_ble_eq_true rfl) dX5_quotient_80 ⟨Nat.zero_le _, Nat.zero_le _⟩ (fun r_80 u_80 H locs hw_80 G => ?_)
      obtain ⟨f_80, rfl⟩ := raised_st hw_80
      refine lv_lstore_n (lv' := [(1, .long r_80), (5, .int (((σ.1 6) + (σ.2.2.1 3 ((σ.1 5) - 1).toNatClampNeg)) - (σ.2.2.1 3 ((σ.1 5) - 2).toNatClampNeg))), (3, .long (σ.2.2.2 2 ((σ.1 5) - 1).toNatClampNeg)), (0, .ref h)]) hx hb dX5_quotient_83 rfl hl (by decide) rfl (fun ls hl => ?_)
      refine lv_aload_n hx hb dX5_quotient_84 rfl (lv_at hl 3 rfl) ?_
      refine lv_lload_n hx hb dX5_quotient_85 rfl (lv_at hl 2 rfl) ?_
      refine lv_iload hx hb dX5_quotient_86 (lv_at hl 1 rfl) ?_
      refine lv_ineg hx hb dX5_quotient_88 ?_
      refine m_calll (As := [.long (σ.2.2.2 2 ((σ.1 5) - 1).toNatClampNeg), .int (-(((σ.1 6) + (σ.2.2.1 3 ((σ.1 5) - 1).toNatClampNeg)) - (σ.2.2.1 3 ((σ.1 5) - 2).toNatClampNeg)))]) (rest := []) X hml G hA (c_M_raised l dC dI cI cJ h ad _ (si σ 16 f_80) (σ.2.2.2 2 ((σ.1 5) - 1).toNatClampNeg) (-(((σ.1 6) + (σ.2.2.1 3 ((σ.1 5) - 1).toNatClampNeg)) - (σ.2.2.1 3 ((σ.1 5) - 2).toNatClampNeg)))) (cwV 2 hts gX5_quotient_X5_raised rfl rfl rfl (by decide +kernel) ⟨Nat.le_of_ble_eq_true rfl, Nat.le_of_ble_eq_true rfl⟩) rfl hl.1 rfl (Nat.le_of_ble_eq_true rfl) dX5_quotient_89 ⟨Nat.zero_le _, Nat.zero_le _⟩ (fun r_89 u_89 H locs hw_89 G => ?_)
      obtain ⟨f_89, rfl⟩ := raised_st hw_89
      refine lv_lstore_n (lv' := [(3, .long r_89), (1, .long r_80), (5, .int (((σ.1 6) + (σ.2.2.1 3 ((σ.1 5) - 1).toNatClampNeg)) - (σ.2.2.1 3 ((σ.1 5) - 2).toNatClampNeg))), (0, .ref h)]) hx hb dX5_quotient_92 rfl hl (by decide) rfl (fun ls hl => ?_)
      refine lv_aload_n hx hb dX5_quotient_93 rfl (lv_at hl 3 rfl) ?_
      refine m_get_16 X G (by decide +kernel) dX5_quotient_94 ?_
      refine lv_if_le (tgt := 102) hx hb dX5_quotient_97 (by decide) (fun c_97 => ?_) (fun c_97 => ?_)
      · have c_97 : f_89 ≤ 0 := c_97
        refine lv_aload_n hx hb dX5_quotient_102 rfl (lv_at hl 3 rfl) ?_
        refine lv_lload_n hx hb dX5_quotient_103 rfl (lv_at hl 1 rfl) ?_
        refine lv_lload_n hx hb dX5_quotient_104 rfl (lv_at hl 0 rfl) ?_
        refine lv_ldiv hx hb dX5_quotient_105 (raised_nz hw_89 c_37) ?_
        refine m_put_19 X G (by decide +kernel) dX5_quotient_106 (fun H locs G => ?_)
        refine lv_aload_n hx hb dX5_quotient_109 rfl (lv_at hl 3 rfl) ?_
        refine lv_aload_n hx hb dX5_quotient_110 rfl (lv_at hl 3 rfl) ?_
        refine m_get_6 X G (by decide +kernel) dX5_quotient_111 ?_
        refine m_put_20 X G (by decide +kernel) dX5_quotient_114 (fun H locs G => ?_)
        refine lv_iconst (v := 1) hx hb dX5_quotient_117 (by decide) ?_
        exact m_zret X G hr hlocks rfl (by simp only [F_quotient, hw_2, eq_false c_5, eq_false c_37, hw_80, hw_89, eq_true c_97, ↓reduceIte, si_self, sm_self, si_snd, sm_fst, si20_16, not_false_eq_true, not_true_eq_false, eq_self] <;> rfl) dX5_quotient_118
      · have c_97 : ¬ (f_89 ≤ 0) := c_97
        refine lv_iconst (v := 0) hx hb dX5_quotient_100 (by decide) ?_
        exact m_zret X G hr hlocks rfl (by simp only [F_quotient, hw_2, eq_false c_5, eq_false c_37, hw_80, hw_89, eq_false c_97, ↓reduceIte, si_self, sm_self, si_snd, sm_fst, si20_16, not_false_eq_true, not_true_eq_false, eq_self] <;> rfl) dX5_quotient_101
    · have c_37 := ((l_cmp_eq _ _).mp c_37)
      have c_37 : (σ.2.2.2 2 ((σ.1 5) - 1).toNatClampNeg) = 0 := c_37
      refine lv_aload_n hx hb dX5_quotient_40 rfl (lv_at hl 2 rfl) ?_
      refine lv_iconst (v := 4) hx hb dX5_quotient_41 (by decide) ?_
      refine m_calli (As := [.int 4]) (rest := []) X hml G hA (c_M_fail l dC dI cI cJ h ad _ σ 4) (cwV 1 hts gX5_quotient_X5_fail rfl rfl rfl (by decide +kernel) ⟨Nat.le_of_ble_eq_true rfl, Nat.le_of_ble_eq_true rfl⟩) rfl hl.1 rfl (Nat.le_of_ble_eq_true rfl) dX5_quotient_42 ⟨Nat.zero_le _, Nat.zero_le _⟩ (fun r_42 u_42 H locs hw_42 G => ?_)
      obtain ⟨rfl, rfl⟩ := hw_42
      exact m_zret X G hr hlocks rfl (by simp only [F_quotient, hw_2, eq_false c_5, eq_true c_37, ↓reduceIte, si_self, sm_self, si_snd, sm_fst, si20_16, not_false_eq_true, not_true_eq_false, eq_self] <;> rfl) dX5_quotient_45
  · have c_5 : r_2 = 0 := c_5
    refine lv_iconst (v := 0) hx hb dX5_quotient_8 (by decide) ?_
    exact m_zret X G hr hlocks rfl (by simp only [F_quotient, hw_2, eq_true c_5, ↓reduceIte, si_self, sm_self, si_snd, sm_fst, si20_16, not_false_eq_true, not_true_eq_false, eq_self] <;> rfl) dX5_quotient_9
def sf (σ u : MS) : Prop := (∀ k, k ≠ 16 → k ≠ 20 → u.1 k = σ.1 k) ∧ u.2.2 = σ.2.2
theorem sf_refl (σ : MS) : sf σ σ := ⟨fun _ _ _ => rfl, rfl⟩
theorem sf_si16 {σ u : MS} {v : Int32} (h : sf σ u) : sf σ (si u 16 v) := ⟨fun k h1 h2 => by simp only [si, upd, h1, ↓reduceIte]; exact h.1 k h1 h2, h.2⟩
theorem sf_si20 {σ u : MS} {v : Int32} (h : sf σ u) : sf σ (si u 20 v) := ⟨fun k h1 h2 => by simp only [si, upd, h2, ↓reduceIte]; exact h.1 k h1 h2, h.2⟩
theorem sf_sm {σ u : MS} {v : Int64} (h : sf σ u) : sf σ (sm u v) := ⟨h.1, h.2⟩
theorem sf_numbersL {σ : MS} {n0 : Int32} : ∀ (fu : Nat) (k : Int32) (τ : MS), sf σ τ → sf σ (F_numbers_L12 n0 fu k τ).2 := by
  intro fu
  induction fu with
  | zero => intro k τ h; exact h
  | succ fu ih =>
    intro k τ h
    simp only [F_numbers_L12]
    split
    · exact h
    · split
      · exact ih _ _ h
      · exact sf_si16 h
theorem sf_numbers {σ u : MS} {n : Int32} (h : sf σ u) : sf σ (F_numbers u n).2 := by
  simp only [F_numbers]
  split
  · simp only [F_have]; split
    · exact h
    · exact sf_si16 h
  · exact sf_numbersL _ _ _ h
theorem sf_ex {σ u : MS} (h : sf σ u) : ∃ f m n, si (sm (si σ 16 f) m) 20 n = u := by
  obtain ⟨h1, h2⟩ := h
  refine ⟨u.1 16, u.2.1, u.1 20, ?_⟩
  obtain ⟨a, b, c⟩ := u
  obtain ⟨a0, b0, c0⟩ := σ
  simp only at h1 h2
  simp only [si, sm, Prod.mk.injEq, true_and]
  refine ⟨?_, h2.symm⟩
  funext k
  by_cases e1 : k = 20
  · simp [upd, e1]
  · by_cases e2 : k = 16
    · simp [upd, e2]
    · simp only [upd, e1, e2, ↓reduceIte]; exact (h1 k e2 e1).symm
theorem sf_sum {σ : MS} {b : Int32} : sf σ (F_sum σ b).2 := by
  unfold F_sum
  dsimp only
  repeat' split
  all_goals
    dsimp only
    repeat first | exact sf_refl _ | exact sf_numbers (sf_refl _) | apply sf_si16 | apply sf_si20 | apply sf_sm
theorem sum_st {σ u : MS} {r : Int32} {b : Int32} (h : F_sum σ b = (r, u)) : ∃ f m n, si (sm (si σ 16 f) m) 20 n = u := by
  refine sf_ex ?_
  have h1 := sf_sum (σ := σ) (b := b)
  rw [h] at h1; exact h1
theorem sum_ok {σ u : MS} {r : Int32} {b : Int32} (h : F_sum σ b = (r, u)) (hr : ¬ r = 0) : 2 ≤ (σ.1 5).toInt := by
  obtain ⟨a, b, hq⟩ : ∃ a b, F_numbers σ 2 = (a, b) := ⟨_, _, rfl⟩
  by_cases c : a = 0
  · simp only [F_sum, hq, c, ↓reduceIte, Prod.mk.injEq] at h
    exact absurd h.1.symm hr
  · exact (numbers_ok hq c).2
theorem sf_times {σ : MS} : sf σ (F_times σ).2 := by
  unfold F_times
  dsimp only
  repeat' split
  all_goals
    dsimp only
    repeat first | exact sf_refl _ | exact sf_numbers (sf_refl _) | apply sf_si16 | apply sf_si20 | apply sf_sm
theorem times_st {σ u : MS} {r : Int32} (h : F_times σ = (r, u)) : ∃ f m n, si (sm (si σ 16 f) m) 20 n = u := by
  refine sf_ex ?_
  have h1 := sf_times (σ := σ)
  rw [h] at h1; exact h1
theorem times_ok {σ u : MS} {r : Int32} (h : F_times σ = (r, u)) (hr : ¬ r = 0) : 2 ≤ (σ.1 5).toInt := by
  obtain ⟨a, b, hq⟩ : ∃ a b, F_numbers σ 2 = (a, b) := ⟨_, _, rfl⟩
  by_cases c : a = 0
  · simp only [F_times, hq, c, ↓reduceIte, Prod.mk.injEq] at h
    exact absurd h.1.symm hr
  · exact (numbers_ok hq c).2
theorem sf_quotient {σ : MS} : sf σ (F_quotient σ).2 := by
  unfold F_quotient
  dsimp only
  repeat' split
  all_goals
    dsimp only
    repeat first | exact sf_refl _ | exact sf_numbers (sf_refl _) | apply sf_si16 | apply sf_si20 | apply sf_sm
theorem quotient_st {σ u : MS} {r : Int32} (h : F_quotient σ = (r, u)) : ∃ f m n, si (sm (si σ 16 f) m) 20 n = u := by
  refine sf_ex ?_
  have h1 := sf_quotient (σ := σ)
  rw [h] at h1; exact h1
theorem quotient_ok {σ u : MS} {r : Int32} (h : F_quotient σ = (r, u)) (hr : ¬ r = 0) : 2 ≤ (σ.1 5).toInt := by
  obtain ⟨a, b, hq⟩ : ∃ a b, F_numbers σ 2 = (a, b) := ⟨_, _, rfl⟩
  by_cases c : a = 0
  · simp only [F_quotient, hq, c, ↓reduceIte, Prod.mk.injEq] at h
    exact absurd h.1.symm hr
  · exact (numbers_ok hq c).2
def F_rest (σ : MS) : Int32 × MS := let q_1 := F_quotient σ; if q_1.1 = 0 then ((0, (si (sm (si σ 16 (q_1.2.1 16)) q_1.2.2.1) 20 (q_1.2.1 20)))) else let q_64 := F_product (si (si (sm (si σ 16 (q_1.2.1 16)) q_1.2.2.1) 20 (q_1.2.1 20)) 20 (f_greater ((σ.1 6) + (σ.2.2.1 3 ((σ.1 5) - 1).toNatClampNeg)) (σ.2.2.1 3 ((σ.1 5) - 2).toNatClampNeg))) q_1.2.2.1 (σ.2.2.2 2 ((σ.1 5) - 1).toNatClampNeg); let q_73 := F_raised (si (si (si (sm (si σ 16 (q_1.2.1 16)) q_1.2.2.1) 20 (q_1.2.1 20)) 20 (f_greater ((σ.1 6) + (σ.2.2.1 3 ((σ.1 5) - 1).toNatClampNeg)) (σ.2.2.1 3 ((σ.1 5) - 2).toNatClampNeg))) 16 (q_64.2.1 16)) q_64.1 ((f_greater ((σ.1 6) + (σ.2.2.1 3 ((σ.1 5) - 1).toNatClampNeg)) (σ.2.2.1 3 ((σ.1 5) - 2).toNatClampNeg)) - ((σ.1 6) + (σ.2.2.1 3 ((σ.1 5) - 1).toNatClampNeg))); let q_95 := F_raised (si (si (si (si (sm (si σ 16 (q_1.2.1 16)) q_1.2.2.1) 20 (q_1.2.1 20)) 20 (f_greater ((σ.1 6) + (σ.2.2.1 3 ((σ.1 5) - 1).toNatClampNeg)) (σ.2.2.1 3 ((σ.1 5) - 2).toNatClampNeg))) 16 (q_64.2.1 16)) 16 (q_73.2.1 16)) (σ.2.2.2 2 ((σ.1 5) - 2).toNatClampNeg) ((f_greater ((σ.1 6) + (σ.2.2.1 3 ((σ.1 5) - 1).toNatClampNeg)) (σ.2.2.1 3 ((σ.1 5) - 2).toNatClampNeg)) - (σ.2.2.1 3 ((σ.1 5) - 2).toNatClampNeg)); if (q_95.2.1 16) = 0 then (if 9 < (f_greater ((σ.1 6) + (σ.2.2.1 3 ((σ.1 5) - 1).toNatClampNeg)) (σ.2.2.1 3 ((σ.1 5) - 2).toNatClampNeg)) then ((0, (si (sm (si (si (si (si (si (sm (si σ 16 (q_1.2.1 16)) q_1.2.2.1) 20 (q_1.2.1 20)) 20 (f_greater ((σ.1 6) + (σ.2.2.1 3 ((σ.1 5) - 1).toNatClampNeg)) (σ.2.2.1 3 ((σ.1 5) - 2).toNatClampNeg))) 16 (q_64.2.1 16)) 16 (q_73.2.1 16)) 16 (q_95.2.1 16)) (q_95.1 - q_73.1)) 16 5))) else if (f_isBig (q_95.1 - q_73.1)) = 0 then ((1, (sm (si (si (si (si (si (sm (si σ 16 (q_1.2.1 16)) q_1.2.2.1) 20 (q_1.2.1 20)) 20 (f_greater ((σ.1 6) + (σ.2.2.1 3 ((σ.1 5) - 1).toNatClampNeg)) (σ.2.2.1 3 ((σ.1 5) - 2).toNatClampNeg))) 16 (q_64.2.1 16)) 16 (q_73.2.1 16)) 16 (q_95.2.1 16)) (q_95.1 - q_73.1)))) else (0, (si (sm (si (si (si (si (si (sm (si σ 16 (q_1.2.1 16)) q_1.2.2.1) 20 (q_1.2.1 20)) 20 (f_greater ((σ.1 6) + (σ.2.2.1 3 ((σ.1 5) - 1).toNatClampNeg)) (σ.2.2.1 3 ((σ.1 5) - 2).toNatClampNeg))) 16 (q_64.2.1 16)) 16 (q_73.2.1 16)) 16 (q_95.2.1 16)) (q_95.1 - q_73.1)) 16 5))) else (0, (sm (si (si (si (si (si (sm (si σ 16 (q_1.2.1 16)) q_1.2.2.1) 20 (q_1.2.1 20)) 20 (f_greater ((σ.1 6) + (σ.2.2.1 3 ((σ.1 5) - 1).toNatClampNeg)) (σ.2.2.1 3 ((σ.1 5) - 2).toNatClampNeg))) 16 (q_64.2.1 16)) 16 (q_73.2.1 16)) 16 (q_95.2.1 16)) (q_95.1 - q_73.1)))
set_option maxHeartbeats 4000000 in
set_option maxRecDepth 100000 in
theorem c_M_rest (l : Launch) (dC : Nat → ClassId) (dI : Nat → Nat → Nat) (cI cJ : ClassId) (h : Nat) (ad : Nat → Nat) (sz : Nat) (σ : MS) (hd : (σ.1 5).toInt ≤ 40) : Met l yX5_rest wsX5_rest ({ frames := 4, cells := 0, slots := 0, locals := 89 } : Room) (va_Pc [.ref h] (mPre dC dI cI cJ h ad sz σ)) (va_Qi (fun r u => F_rest σ = (r, u)) (mAt dC dI cI cJ h ad (mA h ad cI cJ σ sz)) (mA h ad cI cJ σ sz)) 0 0 (mA h ad cI cJ σ sz) := by
  refine m_ofW (cc := cX5_rest) (maxL := 7) (ret := (some .boolean)) (by decide) rfl (by decide +kernel) rfl (Nat.le_of_ble_eq_true rfl) ?_
  intro p e s m below meth c X G hA hr hlocks hml ls hl
  have hl : lv_has ls 7 [(0, .ref h)] := hl
  have hx := X.1
  have hb := X.2.1
  have hts := X.2.2.1
  have hown := X.2.2.2.2.1
  refine lv_aload_n hx hb dX5_rest_0 rfl (lv_at hl 0 rfl) ?_
  refine m_calli (As := []) (rest := []) X hml G hA (c_M_quotient l dC dI cI cJ h ad _ σ hd) (cwV 0 hts gX5_rest_X5_quotient rfl rfl rfl (by decide +kernel) ⟨Nat.le_of_ble_eq_true rfl, Nat.le_of_ble_eq_true rfl⟩) rfl hl.1 rfl (Nat.le_of_ble_eq_true rfl) dX5_rest_1 ⟨Nat.zero_le _, Nat.zero_le _⟩ (fun r_1 u_1 H locs hw_1 G => ?_)
  obtain ⟨f_1, m_1, n_1, rfl⟩ := quotient_st hw_1
  refine lv_if_ne (tgt := 9) hx hb dX5_rest_4 (by decide) (fun c_4 => ?_) (fun c_4 => ?_)
  · have c_4 : ¬ (r_1 = 0) := c_4
    have hn := quotient_ok hw_1 c_4
    refine lv_aload_n hx hb dX5_rest_9 rfl (lv_at hl 0 rfl) ?_
    refine m_get_6 X G (by decide +kernel) dX5_rest_10 ?_
    refine lv_aload_n hx hb dX5_rest_13 rfl (lv_at hl 0 rfl) ?_
    refine m_get_3 X G (by decide +kernel) dX5_rest_14 ?_
    refine lv_aload_n hx hb dX5_rest_17 rfl (lv_at hl 0 rfl) ?_
    refine m_get_5 X G (by decide +kernel) dX5_rest_18 ?_
    refine lv_iconst (v := 1) hx hb dX5_rest_21 (by decide) ?_
    refine lv_isub hx hb dX5_rest_22 ?_
    refine m_ld_3 X G (vin (i_subE (rfl : (σ.1 5).toInt = _) (show (1 : Int32).toInt = 1 from rfl) (by omega) (by omega)) (by omega) (by omega)) dX5_rest_23 ?_
    refine lv_iadd hx hb dX5_rest_24 ?_
    refine lv_istore_n (lv' := [(1, .int ((σ.1 6) + (σ.2.2.1 3 ((σ.1 5) - 1).toNatClampNeg))), (0, .ref h)]) hx hb dX5_rest_25 rfl hl (by decide) rfl (fun ls hl => ?_)
    refine lv_aload_n hx hb dX5_rest_26 rfl (lv_at hl 1 rfl) ?_
    refine m_get_3 X G (by decide +kernel) dX5_rest_27 ?_
    refine lv_aload_n hx hb dX5_rest_30 rfl (lv_at hl 1 rfl) ?_
    refine m_get_5 X G (by decide +kernel) dX5_rest_31 ?_
    refine lv_iconst (v := 2) hx hb dX5_rest_34 (by decide) ?_
    refine lv_isub hx hb dX5_rest_35 ?_
    refine m_ld_3 X G (vin (i_subE (rfl : (σ.1 5).toInt = _) (show (2 : Int32).toInt = 2 from rfl) (by omega) (by omega)) (by omega) (by omega)) dX5_rest_36 ?_
    refine lv_istore_n (lv' := [(2, .int (σ.2.2.1 3 ((σ.1 5) - 2).toNatClampNeg)), (1, .int ((σ.1 6) + (σ.2.2.1 3 ((σ.1 5) - 1).toNatClampNeg))), (0, .ref h)]) hx hb dX5_rest_37 rfl hl (by decide) rfl (fun ls hl => ?_)
    refine lv_aload_n hx hb dX5_rest_38 rfl (lv_at hl 2 rfl) ?_
    refine lv_iload_n hx hb dX5_rest_39 rfl (lv_at hl 1 rfl) ?_
    refine lv_iload_n hx hb dX5_rest_40 rfl (lv_at hl 0 rfl) ?_
    refine W.callR (W.runS (As := [.int ((σ.1 6) + (σ.2.2.1 3 ((σ.1 5) - 1).toNatClampNeg)), .int (σ.2.2.1 3 ((σ.1 5) - 2).toNatClampNeg)]) (rest := [.ref h]) ⟨hx, hb, hml, hown, hts⟩ (c_M_greater l ((σ.1 6) + (σ.2.2.1 3 ((σ.1 5) - 1).toNatClampNeg)) (σ.2.2.1 3 ((σ.1 5) - 2).toNatClampNeg)) (va_cwS 2 hts gX5_rest_X5_greater rfl rfl rfl (by decide +kernel) ⟨Nat.le_of_ble_eq_true rfl, Nat.le_of_ble_eq_true rfl⟩) ⟨fun a U g mk q => q, fun U _ _ => ⟨rfl, trivial⟩⟩ rfl rfl hl.1 rfl (lv_room (Nat.le_of_ble_eq_true rfl)) dX5_rest_41 ⟨Nat.zero_le _, Nat.zero_le _⟩) ?_
    refine W.eq (g2 := F0 m 44 ls [.int (f_greater ((σ.1 6) + (σ.2.2.1 3 ((σ.1 5) - 1).toNatClampNeg)) (σ.2.2.1 3 ((σ.1 5) - 2).toNatClampNeg)), .ref h]) rfl ?_
    refine m_put_20 X G (by decide +kernel) dX5_rest_44 (fun H locs G => ?_)
    refine lv_aload_n hx hb dX5_rest_47 rfl (lv_at hl 2 rfl) ?_
    refine lv_aload_n hx hb dX5_rest_48 rfl (lv_at hl 2 rfl) ?_
    refine lv_aload_n hx hb dX5_rest_49 rfl (lv_at hl 2 rfl) ?_
    refine m_get_19 X G (by decide +kernel) dX5_rest_50 ?_
    refine lv_aload_n hx hb dX5_rest_53 rfl (lv_at hl 2 rfl) ?_
    refine m_get_2 X G (by decide +kernel) dX5_rest_54 ?_
    refine lv_aload_n hx hb dX5_rest_57 rfl (lv_at hl 2 rfl) ?_
    refine m_get_5 X G (by decide +kernel) dX5_rest_58 ?_
    refine lv_iconst (v := 1) hx hb dX5_rest_61 (by decide) ?_
    refine lv_isub hx hb dX5_rest_62 ?_
    refine m_ld_2 X G (vin (i_subE (rfl : (σ.1 5).toInt = _) (show (1 : Int32).toInt = 1 from rfl) (by omega) (by omega)) (by omega) (by omega)) dX5_rest_63 ?_
    refine m_calll (As := [.long m_1, .long (σ.2.2.2 2 ((σ.1 5) - 1).toNatClampNeg)]) (rest := [.ref h]) X hml G hA (c_M_product l dC dI cI cJ h ad _ (si (si (sm (si σ 16 f_1) m_1) 20 n_1) 20 (f_greater ((σ.1 6) + (σ.2.2.1 3 ((σ.1 5) - 1).toNatClampNeg)) (σ.2.2.1 3 ((σ.1 5) - 2).toNatClampNeg))) m_1 (σ.2.2.2 2 ((σ.1 5) - 1).toNatClampNeg)) (cwV 2 hts gX5_rest_X5_product rfl rfl rfl (by decide +kernel) ⟨Nat.le_of_ble_eq_true rfl, Nat.le_of_ble_eq_true rfl⟩) rfl hl.1 rfl (Nat.le_of_ble_eq_true rfl) dX5_rest_64 ⟨Nat.zero_le _, Nat.zero_le _⟩ (fun r_64 u_64 H locs hw_64 G => ?_)
    obtain ⟨f_64, rfl⟩ := product_st hw_64
    refine lv_aload_n hx hb dX5_rest_67 rfl (lv_at hl 2 rfl) ?_
    refine m_get_20 X G (by decide +kernel) dX5_rest_68 ?_
    refine lv_iload_n hx hb dX5_rest_71 rfl (lv_at hl 1 rfl) ?_
    refine lv_isub hx hb dX5_rest_72 ?_
    refine m_calll (As := [.long r_64, .int ((f_greater ((σ.1 6) + (σ.2.2.1 3 ((σ.1 5) - 1).toNatClampNeg)) (σ.2.2.1 3 ((σ.1 5) - 2).toNatClampNeg)) - ((σ.1 6) + (σ.2.2.1 3 ((σ.1 5) - 1).toNatClampNeg)))]) (rest := []) X hml G hA (c_M_raised l dC dI cI cJ h ad _ (si (si (si (sm (si σ 16 f_1) m_1) 20 n_1) 20 (f_greater ((σ.1 6) + (σ.2.2.1 3 ((σ.1 5) - 1).toNatClampNeg)) (σ.2.2.1 3 ((σ.1 5) - 2).toNatClampNeg))) 16 f_64) r_64 ((f_greater ((σ.1 6) + (σ.2.2.1 3 ((σ.1 5) - 1).toNatClampNeg)) (σ.2.2.1 3 ((σ.1 5) - 2).toNatClampNeg)) - ((σ.1 6) + (σ.2.2.1 3 ((σ.1 5) - 1).toNatClampNeg)))) (cwV 2 hts gX5_rest_X5_raised rfl rfl rfl (by decide +kernel) ⟨Nat.le_of_ble_eq_true rfl, Nat.le_of_ble_eq_true rfl⟩) rfl hl.1 rfl (Nat.le_of_ble_eq_true rfl) dX5_rest_73 ⟨Nat.zero_le _, Nat.zero_le _⟩ (fun r_73 u_73 H locs hw_73 G => ?_)
    obtain ⟨f_73, rfl⟩ := raised_st hw_73
    refine lv_lstore_n (lv' := [(3, .long r_73), (2, .int (σ.2.2.1 3 ((σ.1 5) - 2).toNatClampNeg)), (1, .int ((σ.1 6) + (σ.2.2.1 3 ((σ.1 5) - 1).toNatClampNeg))), (0, .ref h)]) hx hb dX5_rest_76 rfl hl (by decide) rfl (fun ls hl => ?_)
    refine lv_aload_n hx hb dX5_rest_77 rfl (lv_at hl 3 rfl) ?_
    refine lv_aload_n hx hb dX5_rest_78 rfl (lv_at hl 3 rfl) ?_
    refine m_get_2 X G (by decide +kernel) dX5_rest_79 ?_
    refine lv_aload_n hx hb dX5_rest_82 rfl (lv_at hl 3 rfl) ?_
    refine m_get_5 X G (by decide +kernel) dX5_rest_83 ?_
    refine lv_iconst (v := 2) hx hb dX5_rest_86 (by decide) ?_
    refine lv_isub hx hb dX5_rest_87 ?_
    refine m_ld_2 X G (vin (i_subE (rfl : (σ.1 5).toInt = _) (show (2 : Int32).toInt = 2 from rfl) (by omega) (by omega)) (by omega) (by omega)) dX5_rest_88 ?_
    refine lv_aload_n hx hb dX5_rest_89 rfl (lv_at hl 3 rfl) ?_
    refine m_get_20 X G (by decide +kernel) dX5_rest_90 ?_
    refine lv_iload_n hx hb dX5_rest_93 rfl (lv_at hl 1 rfl) ?_
    refine lv_isub hx hb dX5_rest_94 ?_
    refine m_calll (As := [.long (σ.2.2.2 2 ((σ.1 5) - 2).toNatClampNeg), .int ((f_greater ((σ.1 6) + (σ.2.2.1 3 ((σ.1 5) - 1).toNatClampNeg)) (σ.2.2.1 3 ((σ.1 5) - 2).toNatClampNeg)) - (σ.2.2.1 3 ((σ.1 5) - 2).toNatClampNeg))]) (rest := []) X hml G hA (c_M_raised l dC dI cI cJ h ad _ (si (si (si (si (sm (si σ 16 f_1) m_1) 20 n_1) 20 (f_greater ((σ.1 6) + (σ.2.2.1 3 ((σ.1 5) - 1).toNatClampNeg)) (σ.2.2.1 3 ((σ.1 5) - 2).toNatClampNeg))) 16 f_64) 16 f_73) (σ.2.2.2 2 ((σ.1 5) - 2).toNatClampNeg) ((f_greater ((σ.1 6) + (σ.2.2.1 3 ((σ.1 5) - 1).toNatClampNeg)) (σ.2.2.1 3 ((σ.1 5) - 2).toNatClampNeg)) - (σ.2.2.1 3 ((σ.1 5) - 2).toNatClampNeg))) (cwV 2 hts gX5_rest_X5_raised rfl rfl rfl (by decide +kernel) ⟨Nat.le_of_ble_eq_true rfl, Nat.le_of_ble_eq_true rfl⟩) rfl hl.1 rfl (Nat.le_of_ble_eq_true rfl) dX5_rest_95 ⟨Nat.zero_le _, Nat.zero_le _⟩ (fun r_95 u_95 H locs hw_95 G => ?_)
    obtain ⟨f_95, rfl⟩ := raised_st hw_95
    refine lv_lstore (lv' := [(5, .long r_95), (3, .long r_73), (2, .int (σ.2.2.1 3 ((σ.1 5) - 2).toNatClampNeg)), (1, .int ((σ.1 6) + (σ.2.2.1 3 ((σ.1 5) - 1).toNatClampNeg))), (0, .ref h)]) hx hb dX5_rest_98 hl (by decide) rfl (fun ls hl => ?_)
    refine lv_aload_n hx hb dX5_rest_100 rfl (lv_at hl 4 rfl) ?_
    refine lv_lload hx hb dX5_rest_101 (lv_at hl 0 rfl) ?_
    refine lv_lload_n hx hb dX5_rest_103 rfl (lv_at hl 1 rfl) ?_
    refine lv_lsub hx hb dX5_rest_104 ?_
    refine m_put_19 X G (by decide +kernel) dX5_rest_105 (fun H locs G => ?_)
    refine lv_aload_n hx hb dX5_rest_108 rfl (lv_at hl 4 rfl) ?_
    refine m_get_16 X G (by decide +kernel) dX5_rest_109 ?_
    refine lv_if_ne (tgt := 139) hx hb dX5_rest_112 (by decide) (fun c_112 => ?_) (fun c_112 => ?_)
    · have c_112 : ¬ (f_95 = 0) := c_112
      refine lv_aload_n hx hb dX5_rest_139 rfl (lv_at hl 4 rfl) ?_
      refine m_get_16 X G (by decide +kernel) dX5_rest_140 ?_
      refine lv_if_ne (tgt := 150) hx hb dX5_rest_143 (by decide) (fun c9 => ?_) (fun c9 => absurd c9 c_112)
      refine lv_iconst (v := 0) hx hb dX5_rest_150 (by decide) ?_
      exact m_zret X G hr hlocks rfl (by simp only [F_rest, hw_1, eq_false c_4, hw_64, hw_73, hw_95, eq_false c_112, ↓reduceIte, si_self, sm_self, si_snd, sm_fst, si20_16, not_false_eq_true, not_true_eq_false, eq_self] <;> rfl) dX5_rest_151
    · have c_112 : f_95 = 0 := c_112
      refine lv_aload_n hx hb dX5_rest_115 rfl (lv_at hl 4 rfl) ?_
      refine m_get_20 X G (by decide +kernel) dX5_rest_116 ?_
      refine lv_bipush (v := 9) hx hb dX5_rest_119 (by decide) ?_
      refine lv_icmp_gt (tgt := 134) hx hb dX5_rest_121 (by decide) (fun c_121 => ?_) (fun c_121 => ?_)
      · have c_121 : 9 < (f_greater ((σ.1 6) + (σ.2.2.1 3 ((σ.1 5) - 1).toNatClampNeg)) (σ.2.2.1 3 ((σ.1 5) - 2).toNatClampNeg)) := c_121
        refine lv_aload_n hx hb dX5_rest_134 rfl (lv_at hl 4 rfl) ?_
        refine lv_iconst (v := 5) hx hb dX5_rest_135 (by decide) ?_
        refine m_put_16 X G (by decide +kernel) dX5_rest_136 (fun H locs G => ?_)
        refine lv_aload_n hx hb dX5_rest_139 rfl (lv_at hl 4 rfl) ?_
        refine m_get_16 X G (by decide +kernel) dX5_rest_140 ?_
        refine lv_if_ne (tgt := 150) hx hb dX5_rest_143 (by decide) (fun c9 => ?_) (fun c9 => absurd c9 (show ¬ ((5 : Int32) = 0) from by decide))
        refine lv_iconst (v := 0) hx hb dX5_rest_150 (by decide) ?_
        exact m_zret X G hr hlocks rfl (by simp only [F_rest, hw_1, eq_false c_4, hw_64, hw_73, hw_95, eq_true c_112, eq_true c_121, ↓reduceIte, si_self, sm_self, si_snd, sm_fst, si20_16, not_false_eq_true, not_true_eq_false, eq_self] <;> rfl) dX5_rest_151
      · have c_121 : ¬ (9 < (f_greater ((σ.1 6) + (σ.2.2.1 3 ((σ.1 5) - 1).toNatClampNeg)) (σ.2.2.1 3 ((σ.1 5) - 2).toNatClampNeg))) := c_121
        refine lv_aload_n hx hb dX5_rest_124 rfl (lv_at hl 4 rfl) ?_
        refine m_get_19 X G (by decide +kernel) dX5_rest_125 ?_
        refine W.callR (W.runS (As := [.long (r_95 - r_73)]) (rest := []) ⟨hx, hb, hml, hown, hts⟩ (c_M_isBig l (r_95 - r_73)) (va_cwS 1 hts gX5_rest_X5_isBig rfl rfl rfl (by decide +kernel) ⟨Nat.le_of_ble_eq_true rfl, Nat.le_of_ble_eq_true rfl⟩) ⟨fun a U g mk q => q, fun U _ _ => ⟨rfl, trivial⟩⟩ rfl rfl hl.1 rfl (lv_room (Nat.le_of_ble_eq_true rfl)) dX5_rest_128 ⟨Nat.zero_le _, Nat.zero_le _⟩) ?_
        refine W.eq (g2 := F0 m 131 ls [.int (f_isBig (r_95 - r_73))]) rfl ?_
        refine lv_if_eq (tgt := 139) hx hb dX5_rest_131 (by decide) (fun c_131 => ?_) (fun c_131 => ?_)
        · have c_131 : (f_isBig (r_95 - r_73)) = 0 := c_131
          refine lv_aload_n hx hb dX5_rest_139 rfl (lv_at hl 4 rfl) ?_
          refine m_get_16 X G (by decide +kernel) dX5_rest_140 ?_
          refine lv_if_ne (tgt := 150) hx hb dX5_rest_143 (by decide) (fun c9 => absurd (show f_95 = 0 from by rw [c_112] <;> decide) c9) (fun c9 => ?_)
          refine lv_iconst (v := 1) hx hb dX5_rest_146 (by decide) ?_
          refine lv_goto (tgt := 151) hx hb dX5_rest_147 (by decide) ?_
          exact m_zret X G hr hlocks rfl (by simp only [F_rest, hw_1, eq_false c_4, hw_64, hw_73, hw_95, eq_true c_112, eq_false c_121, eq_true c_131, ↓reduceIte, si_self, sm_self, si_snd, sm_fst, si20_16, not_false_eq_true, not_true_eq_false, eq_self] <;> rfl) dX5_rest_151
        · have c_131 : ¬ ((f_isBig (r_95 - r_73)) = 0) := c_131
          refine lv_aload_n hx hb dX5_rest_134 rfl (lv_at hl 4 rfl) ?_
          refine lv_iconst (v := 5) hx hb dX5_rest_135 (by decide) ?_
          refine m_put_16 X G (by decide +kernel) dX5_rest_136 (fun H locs G => ?_)
          refine lv_aload_n hx hb dX5_rest_139 rfl (lv_at hl 4 rfl) ?_
          refine m_get_16 X G (by decide +kernel) dX5_rest_140 ?_
          refine lv_if_ne (tgt := 150) hx hb dX5_rest_143 (by decide) (fun c9 => ?_) (fun c9 => absurd c9 (show ¬ ((5 : Int32) = 0) from by decide))
          refine lv_iconst (v := 0) hx hb dX5_rest_150 (by decide) ?_
          exact m_zret X G hr hlocks rfl (by simp only [F_rest, hw_1, eq_false c_4, hw_64, hw_73, hw_95, eq_true c_112, eq_false c_121, eq_false c_131, ↓reduceIte, si_self, sm_self, si_snd, sm_fst, si20_16, not_false_eq_true, not_true_eq_false, eq_self] <;> rfl) dX5_rest_151
  · have c_4 : r_1 = 0 := c_4
    refine lv_iconst (v := 0) hx hb dX5_rest_7 (by decide) ?_
    exact m_zret X G hr hlocks rfl (by simp only [F_rest, hw_1, eq_true c_4, ↓reduceIte, si_self, sm_self, si_snd, sm_fst, si20_16, not_false_eq_true, not_true_eq_false, eq_self] <;> rfl) dX5_rest_8
theorem sf_rest {σ : MS} : sf σ (F_rest σ).2 := by
  unfold F_rest
  dsimp only
  repeat' split
  all_goals
    dsimp only
    repeat first | exact sf_refl _ | exact sf_numbers (sf_refl _) | apply sf_si16 | apply sf_si20 | apply sf_sm
theorem rest_st {σ u : MS} {r : Int32} (h : F_rest σ = (r, u)) : ∃ f m n, si (sm (si σ 16 f) m) 20 n = u := by
  refine sf_ex ?_
  have h1 := sf_rest (σ := σ)
  rw [h] at h1; exact h1
theorem rest_ok {σ u : MS} {r : Int32} (h : F_rest σ = (r, u)) (hr : ¬ r = 0) : 2 ≤ (σ.1 5).toInt := by
  obtain ⟨a, b, hq⟩ : ∃ a b, F_quotient σ = (a, b) := ⟨_, _, rfl⟩
  by_cases c : a = 0
  · simp only [F_rest, hq, c, ↓reduceIte, Prod.mk.injEq] at h
    exact absurd h.1.symm hr
  · exact quotient_ok hq c
def F_root_L107 : Nat → Int64 → Int64 → Int64 → Int32 → MS → Int32 × MS
  | 0, _, _, _, _, τ => (0, τ)
  | f + 1, y1, l1, h1, k1, τ => if 40 ≤ k1 then ((1, (sm τ l1))) else if h1 ≤ l1 then ((1, (sm τ l1))) else if y1 < ((((l1 + h1) + 1) / 2) * (((l1 + h1) + 1) / 2)) then (F_root_L107 f y1 l1 ((((l1 + h1) + 1) / 2) - 1) (k1 + 1) τ) else F_root_L107 f y1 (((l1 + h1) + 1) / 2) h1 (k1 + 1) τ
def F_root (σ : MS) : Int32 × MS := let q_2 := F_numbers σ 1; if q_2.1 = 0 then ((0, q_2.2)) else if 0 ≤ (σ.2.2.2 2 ((σ.1 5) - 1).toNatClampNeg) then (let q_84 := F_raised (si σ 20 (f_greater (σ.1 6) (σ.2.2.1 3 ((σ.1 5) - 1).toNatClampNeg))) (σ.2.2.2 2 ((σ.1 5) - 1).toNatClampNeg) ((2 * (f_greater (σ.1 6) (σ.2.2.1 3 ((σ.1 5) - 1).toNatClampNeg))) - (σ.2.2.1 3 ((σ.1 5) - 1).toNatClampNeg)); if (q_84.2.1 16) ≤ 0 then (F_root_L107 (41) q_84.1 0 1000000000 0 (si (si σ 20 (f_greater (σ.1 6) (σ.2.2.1 3 ((σ.1 5) - 1).toNatClampNeg))) 16 (q_84.2.1 16))) else (0, (si (si σ 20 (f_greater (σ.1 6) (σ.2.2.1 3 ((σ.1 5) - 1).toNatClampNeg))) 16 (q_84.2.1 16)))) else (0, (si σ 16 4))
set_option maxHeartbeats 4000000 in
set_option maxRecDepth 100000 in
theorem c_M_root_L107 {p : Program} (l : Launch) {e : Env} {s : State} {m : MethodId} {below : List Frame} {meth : Method} {c : Code} {dC : Nat → ClassId} {dI : Nat → Nat → Nat} {cI cJ : ClassId} {h : Nat} {ad : Nat → Nat} {sz : Nat} (σ : MS) (hd : (σ.1 5).toInt ≤ 40) (X : mX p s m ([.ref h] : List Value).toArray c cX5_root wsX5_root dC dI cI cJ) (hA : ∀ q : Nat, s.heap.size ≤ q → mA h ad cI cJ σ sz q) (hr : meth.sig.returnType = (some .boolean)) (hlocks : meth.locks = false) (hml : c.maxLocals = 10) :
    ∀ (fu : Nat) (y1 : Int64) (l1 : Int64) (h1 : Int64) (k1 : Int32) (τ : MS), F_root σ = F_root_L107 fu y1 l1 h1 k1 τ → (((40 : Int32).toInt - k1.toInt).toNat < fu) → ∀ (H : Heap) (locs : List Loc), mH dC dI h ad cI cJ τ (mA h ad cI cJ σ sz) s.heap H locs → ∀ ls : Array Slot, lv_has ls 10 [(0, .ref h), (1, .long y1), (3, .long l1), (5, .long h1), (7, .int k1)] → W p l e ({ frames := 3, cells := 0, slots := 0, locals := 64 } : Room) s m ([.ref h] : List Value).toArray below meth c H locs 0 0 (MQ below (va_Qi (fun r u => F_root σ = (r, u)) (mAt dC dI cI cJ h ad (mA h ad cI cJ σ sz)) (mA h ad cI cJ σ sz)) ([.ref h] : List Value).toArray s 0 0 (mA h ad cI cJ σ sz)) (F0 m 107 ls []) := by
  have hx := X.1
  have hb := X.2.1
  have hts := X.2.2.1
  have hown := X.2.2.2.2.1
  intro fu
  induction fu with
  | zero =>
    intro y1 l1 h1 k1 τ hI hm
    exact absurd hm (Nat.not_lt_zero _)
  | succ fu ih =>
    intro y1 l1 h1 k1 τ hI hm H locs G ls hl
    refine lv_iload hx hb dX5_root_107 (lv_at hl 4 rfl) ?_
    refine lv_bipush (v := 40) hx hb dX5_root_109 (by decide) ?_
    refine lv_icmp_ge (tgt := 161) hx hb dX5_root_111 (by decide) (fun c_111 => ?_) (fun c_111 => ?_)
    · have c_111 : 40 ≤ k1 := c_111
      refine lv_aload_n hx hb dX5_root_161 rfl (lv_at hl 0 rfl) ?_
      refine lv_lload_n hx hb dX5_root_162 rfl (lv_at hl 2 rfl) ?_
      refine m_put_19 X G (by decide +kernel) dX5_root_163 (fun H locs G => ?_)
      refine lv_iconst (v := 1) hx hb dX5_root_166 (by decide) ?_
      exact m_zret X G hr hlocks rfl (by rw [hI]; simp only [F_root_L107, eq_true c_111, ↓reduceIte, si_self, sm_self, si_snd, sm_fst, si20_16, not_false_eq_true, not_true_eq_false, eq_self] <;> rfl) dX5_root_167
    · have c_111 : ¬ (40 ≤ k1) := c_111
      refine lv_lload_n hx hb dX5_root_114 rfl (lv_at hl 2 rfl) ?_
      refine lv_lload hx hb dX5_root_115 (lv_at hl 3 rfl) ?_
      refine W.lcmp hx hb dX5_root_117 ?_
      refine lv_if_ge (tgt := 161) hx hb dX5_root_118 (by decide) (fun c_118 => ?_) (fun c_118 => ?_)
      · have c_118 := ((l_cmp_ge _ _).mp c_118)
        have c_118 : h1 ≤ l1 := c_118
        refine lv_aload_n hx hb dX5_root_161 rfl (lv_at hl 0 rfl) ?_
        refine lv_lload_n hx hb dX5_root_162 rfl (lv_at hl 2 rfl) ?_
        refine m_put_19 X G (by decide +kernel) dX5_root_163 (fun H locs G => ?_)
        refine lv_iconst (v := 1) hx hb dX5_root_166 (by decide) ?_
        exact m_zret X G hr hlocks rfl (by rw [hI]; simp only [F_root_L107, eq_false c_111, eq_true c_118, ↓reduceIte, si_self, sm_self, si_snd, sm_fst, si20_16, not_false_eq_true, not_true_eq_false, eq_self] <;> rfl) dX5_root_167
      · have c_118 := (mt (l_cmp_ge _ _).mpr c_118)
        have c_118 : ¬ (h1 ≤ l1) := c_118
        refine lv_lload_n hx hb dX5_root_121 rfl (lv_at hl 2 rfl) ?_
        refine lv_lload hx hb dX5_root_122 (lv_at hl 3 rfl) ?_
        refine lv_ladd hx hb dX5_root_124 ?_
        refine lv_lconst (v := 1) hx hb dX5_root_125 (by decide) ?_
        refine lv_ladd hx hb dX5_root_126 ?_
        refine lv_ldc2 (v := 2) hx hb hown (hts (.constantLong RX5 109 (2)) (by decide +kernel)) dX5_root_127 ?_
        refine lv_ldiv hx hb dX5_root_130 (by decide) ?_
        refine lv_lstore (lv' := [(8, .long (((l1 + h1) + 1) / 2)), (0, .ref h), (1, .long y1), (3, .long l1), (5, .long h1), (7, .int k1)]) hx hb dX5_root_131 hl (by decide) rfl (fun ls hl => ?_)
        refine lv_lload hx hb dX5_root_133 (lv_at hl 0 rfl) ?_
        refine lv_lload hx hb dX5_root_135 (lv_at hl 0 rfl) ?_
        refine lv_lmul hx hb dX5_root_137 ?_
        refine lv_lload_n hx hb dX5_root_138 rfl (lv_at hl 2 rfl) ?_
        refine W.lcmp hx hb dX5_root_139 ?_
        refine lv_if_gt (tgt := 149) hx hb dX5_root_140 (by decide) (fun c_140 => ?_) (fun c_140 => ?_)
        · have c_140 := ((l_cmp_gt _ _).mp c_140)
          have c_140 : y1 < ((((l1 + h1) + 1) / 2) * (((l1 + h1) + 1) / 2)) := c_140
          refine lv_lload hx hb dX5_root_149 (lv_at hl 0 rfl) ?_
          refine lv_lconst (v := 1) hx hb dX5_root_151 (by decide) ?_
          refine lv_lsub hx hb dX5_root_152 ?_
          refine lv_lstore (lv' := [(5, .long ((((l1 + h1) + 1) / 2) - 1)), (8, .long (((l1 + h1) + 1) / 2)), (0, .ref h), (1, .long y1), (3, .long l1), (7, .int k1)]) hx hb dX5_root_153 hl (by decide) rfl (fun ls hl => ?_)
          refine lv_iinc (v := (k1 + 1)) (lv' := [(7, .int (k1 + 1)), (5, .long ((((l1 + h1) + 1) / 2) - 1)), (8, .long (((l1 + h1) + 1) / 2)), (0, .ref h), (1, .long y1), (3, .long l1)]) hx hb dX5_root_155 hl (k := 5) rfl rfl (by decide) rfl (fun ls hl => ?_)
          refine lv_goto (tgt := 107) hx hb dX5_root_158 (by decide) ?_
          exact ih y1 l1 ((((l1 + h1) + 1) / 2) - 1) (k1 + 1) τ (by rw [hI]; simp only [F_root_L107, eq_false c_111, eq_false c_118, eq_true c_140, ↓reduceIte, si_self, sm_self, si_snd, sm_fst, si20_16, not_false_eq_true, not_true_eq_false, eq_self] <;> rfl) (mu_inc hm c_111) H locs G ls (lv_sub hl [3, 4, 5, 1, 0] rfl)
        · have c_140 := (mt (l_cmp_gt _ _).mpr c_140)
          have c_140 : ¬ (y1 < ((((l1 + h1) + 1) / 2) * (((l1 + h1) + 1) / 2))) := c_140
          refine lv_lload hx hb dX5_root_143 (lv_at hl 0 rfl) ?_
          refine lv_lstore_n (lv' := [(3, .long (((l1 + h1) + 1) / 2)), (8, .long (((l1 + h1) + 1) / 2)), (0, .ref h), (1, .long y1), (5, .long h1), (7, .int k1)]) hx hb dX5_root_145 rfl hl (by decide) rfl (fun ls hl => ?_)
          refine lv_goto (tgt := 155) hx hb dX5_root_146 (by decide) ?_
          refine lv_iinc (v := (k1 + 1)) (lv' := [(7, .int (k1 + 1)), (3, .long (((l1 + h1) + 1) / 2)), (8, .long (((l1 + h1) + 1) / 2)), (0, .ref h), (1, .long y1), (5, .long h1)]) hx hb dX5_root_155 hl (k := 5) rfl rfl (by decide) rfl (fun ls hl => ?_)
          refine lv_goto (tgt := 107) hx hb dX5_root_158 (by decide) ?_
          exact ih y1 (((l1 + h1) + 1) / 2) h1 (k1 + 1) τ (by rw [hI]; simp only [F_root_L107, eq_false c_111, eq_false c_118, eq_false c_140, ↓reduceIte, si_self, sm_self, si_snd, sm_fst, si20_16, not_false_eq_true, not_true_eq_false, eq_self] <;> rfl) (mu_inc hm c_111) H locs G ls (lv_sub hl [3, 4, 1, 5, 0] rfl)
set_option maxHeartbeats 4000000 in
set_option maxRecDepth 100000 in
theorem c_M_root (l : Launch) (dC : Nat → ClassId) (dI : Nat → Nat → Nat) (cI cJ : ClassId) (h : Nat) (ad : Nat → Nat) (sz : Nat) (σ : MS) (hd : (σ.1 5).toInt ≤ 40) : Met l yX5_root wsX5_root ({ frames := 3, cells := 0, slots := 0, locals := 64 } : Room) (va_Pc [.ref h] (mPre dC dI cI cJ h ad sz σ)) (va_Qi (fun r u => F_root σ = (r, u)) (mAt dC dI cI cJ h ad (mA h ad cI cJ σ sz)) (mA h ad cI cJ σ sz)) 0 0 (mA h ad cI cJ σ sz) := by
  refine m_ofW (cc := cX5_root) (maxL := 10) (ret := (some .boolean)) (by decide) rfl (by decide +kernel) rfl (Nat.le_of_ble_eq_true rfl) ?_
  intro p e s m below meth c X G hA hr hlocks hml ls hl
  have hl : lv_has ls 10 [(0, .ref h)] := hl
  have hx := X.1
  have hb := X.2.1
  have hts := X.2.2.1
  have hown := X.2.2.2.2.1
  refine lv_aload_n hx hb dX5_root_0 rfl (lv_at hl 0 rfl) ?_
  refine lv_iconst (v := 1) hx hb dX5_root_1 (by decide) ?_
  refine m_calli (As := [.int 1]) (rest := []) X hml G hA (c_M_numbers l dC dI cI cJ h ad _ σ 1 (by decide) hd) (cwV 1 hts gX5_root_X5_numbers rfl rfl rfl (by decide +kernel) ⟨Nat.le_of_ble_eq_true rfl, Nat.le_of_ble_eq_true rfl⟩) rfl hl.1 rfl (Nat.le_of_ble_eq_true rfl) dX5_root_2 ⟨Nat.zero_le _, Nat.zero_le _⟩ (fun r_2 u_2 H locs hw_2 G => ?_)
  refine lv_if_ne (tgt := 10) hx hb dX5_root_5 (by decide) (fun c_5 => ?_) (fun c_5 => ?_)
  · have c_5 : ¬ (r_2 = 0) := c_5
    obtain ⟨rfl, hn⟩ := numbers_ok hw_2 c_5
    have hn : 1 ≤ (σ.1 5).toInt := hn
    refine lv_aload_n hx hb dX5_root_10 rfl (lv_at hl 0 rfl) ?_
    refine m_get_2 X G (by decide +kernel) dX5_root_11 ?_
    refine lv_aload_n hx hb dX5_root_14 rfl (lv_at hl 0 rfl) ?_
    refine m_get_5 X G (by decide +kernel) dX5_root_15 ?_
    refine lv_iconst (v := 1) hx hb dX5_root_18 (by decide) ?_
    refine lv_isub hx hb dX5_root_19 ?_
    refine m_ld_2 X G (vin (i_subE (rfl : (σ.1 5).toInt = _) (show (1 : Int32).toInt = 1 from rfl) (by omega) (by omega)) (by omega) (by omega)) dX5_root_20 ?_
    refine lv_lconst (v := 0) hx hb dX5_root_21 (by decide) ?_
    refine W.lcmp hx hb dX5_root_22 ?_
    refine lv_if_ge (tgt := 32) hx hb dX5_root_23 (by decide) (fun c_23 => ?_) (fun c_23 => ?_)
    · have c_23 := ((l_cmp_ge _ _).mp c_23)
      have c_23 : 0 ≤ (σ.2.2.2 2 ((σ.1 5) - 1).toNatClampNeg) := c_23
      refine lv_aload_n hx hb dX5_root_32 rfl (lv_at hl 0 rfl) ?_
      refine lv_aload_n hx hb dX5_root_33 rfl (lv_at hl 0 rfl) ?_
      refine m_get_6 X G (by decide +kernel) dX5_root_34 ?_
      refine lv_aload_n hx hb dX5_root_37 rfl (lv_at hl 0 rfl) ?_
      refine m_get_3 X G (by decide +kernel) dX5_root_38 ?_
      refine lv_aload_n hx hb dX5_root_41 rfl (lv_at hl 0 rfl) ?_
      refine m_get_5 X G (by decide +kernel) dX5_root_42 ?_
      refine lv_iconst (v := 1) hx hb dX5_root_45 (by decide) ?_
      refine lv_isub hx hb dX5_root_46 ?_
      refine m_ld_3 X G (vin (i_subE (rfl : (σ.1 5).toInt = _) (show (1 : Int32).toInt = 1 from rfl) (by omega) (by omega)) (by omega) (by omega)) dX5_root_47 ?_
      refine W.callR (W.runS (As := [.int (σ.1 6), .int (σ.2.2.1 3 ((σ.1 5) - 1).toNatClampNeg)]) (rest := [.ref h]) ⟨hx, hb, hml, hown, hts⟩ (c_M_greater l (σ.1 6) (σ.2.2.1 3 ((σ.1 5) - 1).toNatClampNeg)) (va_cwS 2 hts gX5_root_X5_greater rfl rfl rfl (by decide +kernel) ⟨Nat.le_of_ble_eq_true rfl, Nat.le_of_ble_eq_true rfl⟩) ⟨fun a U g mk q => q, fun U _ _ => ⟨rfl, trivial⟩⟩ rfl rfl hl.1 rfl (lv_room (Nat.le_of_ble_eq_true rfl)) dX5_root_48 ⟨Nat.zero_le _, Nat.zero_le _⟩) ?_
      refine W.eq (g2 := F0 m 51 ls [.int (f_greater (σ.1 6) (σ.2.2.1 3 ((σ.1 5) - 1).toNatClampNeg)), .ref h]) rfl ?_
      refine m_put_20 X G (by decide +kernel) dX5_root_51 (fun H locs G => ?_)
      refine lv_aload_n hx hb dX5_root_54 rfl (lv_at hl 0 rfl) ?_
      refine lv_aload_n hx hb dX5_root_55 rfl (lv_at hl 0 rfl) ?_
      refine m_get_2 X G (by decide +kernel) dX5_root_56 ?_
      refine lv_aload_n hx hb dX5_root_59 rfl (lv_at hl 0 rfl) ?_
      refine m_get_5 X G (by decide +kernel) dX5_root_60 ?_
      refine lv_iconst (v := 1) hx hb dX5_root_63 (by decide) ?_
      refine lv_isub hx hb dX5_root_64 ?_
      refine m_ld_2 X G (vin (i_subE (rfl : (σ.1 5).toInt = _) (show (1 : Int32).toInt = 1 from rfl) (by omega) (by omega)) (by omega) (by omega)) dX5_root_65 ?_
      refine lv_iconst (v := 2) hx hb dX5_root_66 (by decide) ?_
      refine lv_aload_n hx hb dX5_root_67 rfl (lv_at hl 0 rfl) ?_
      refine m_get_20 X G (by decide +kernel) dX5_root_68 ?_
      refine lv_imul hx hb dX5_root_71 ?_
      refine lv_aload_n hx hb dX5_root_72 rfl (lv_at hl 0 rfl) ?_
      refine m_get_3 X G (by decide +kernel) dX5_root_73 ?_
      refine lv_aload_n hx hb dX5_root_76 rfl (lv_at hl 0 rfl) ?_
      refine m_get_5 X G (by decide +kernel) dX5_root_77 ?_
      refine lv_iconst (v := 1) hx hb dX5_root_80 (by decide) ?_
      refine lv_isub hx hb dX5_root_81 ?_
      refine m_ld_3 X G (vin (i_subE (rfl : (σ.1 5).toInt = _) (show (1 : Int32).toInt = 1 from rfl) (by omega) (by omega)) (by omega) (by omega)) dX5_root_82 ?_
      refine lv_isub hx hb dX5_root_83 ?_
      refine m_calll (As := [.long (σ.2.2.2 2 ((σ.1 5) - 1).toNatClampNeg), .int ((2 * (f_greater (σ.1 6) (σ.2.2.1 3 ((σ.1 5) - 1).toNatClampNeg))) - (σ.2.2.1 3 ((σ.1 5) - 1).toNatClampNeg))]) (rest := []) X hml G hA (c_M_raised l dC dI cI cJ h ad _ (si σ 20 (f_greater (σ.1 6) (σ.2.2.1 3 ((σ.1 5) - 1).toNatClampNeg))) (σ.2.2.2 2 ((σ.1 5) - 1).toNatClampNeg) ((2 * (f_greater (σ.1 6) (σ.2.2.1 3 ((σ.1 5) - 1).toNatClampNeg))) - (σ.2.2.1 3 ((σ.1 5) - 1).toNatClampNeg))) (cwV 2 hts gX5_root_X5_raised rfl rfl rfl (by decide +kernel) ⟨Nat.le_of_ble_eq_true rfl, Nat.le_of_ble_eq_true rfl⟩) rfl hl.1 rfl (Nat.le_of_ble_eq_true rfl) dX5_root_84 ⟨Nat.zero_le _, Nat.zero_le _⟩ (fun r_84 u_84 H locs hw_84 G => ?_)
      obtain ⟨f_84, rfl⟩ := raised_st hw_84
      refine lv_lstore_n (lv' := [(1, .long r_84), (0, .ref h)]) hx hb dX5_root_87 rfl hl (by decide) rfl (fun ls hl => ?_)
      refine lv_aload_n hx hb dX5_root_88 rfl (lv_at hl 1 rfl) ?_
      refine m_get_16 X G (by decide +kernel) dX5_root_89 ?_
      refine lv_if_le (tgt := 97) hx hb dX5_root_92 (by decide) (fun c_92 => ?_) (fun c_92 => ?_)
      · have c_92 : f_84 ≤ 0 := c_92
        refine lv_lconst (v := 0) hx hb dX5_root_97 (by decide) ?_
        refine lv_lstore_n (lv' := [(3, .long 0), (1, .long r_84), (0, .ref h)]) hx hb dX5_root_98 rfl hl (by decide) rfl (fun ls hl => ?_)
        refine lv_ldc2 (v := 1000000000) hx hb hown (hts (.constantLong RX5 107 (1000000000)) (by decide +kernel)) dX5_root_99 ?_
        refine lv_lstore (lv' := [(5, .long 1000000000), (3, .long 0), (1, .long r_84), (0, .ref h)]) hx hb dX5_root_102 hl (by decide) rfl (fun ls hl => ?_)
        refine lv_iconst (v := 0) hx hb dX5_root_104 (by decide) ?_
        refine lv_istore (lv' := [(7, .int 0), (5, .long 1000000000), (3, .long 0), (1, .long r_84), (0, .ref h)]) hx hb dX5_root_105 hl (by decide) rfl (fun ls hl => ?_)
        exact c_M_root_L107 l σ hd X hA hr hlocks hml 41 r_84 0 1000000000 0 (si (si σ 20 (f_greater (σ.1 6) (σ.2.2.1 3 ((σ.1 5) - 1).toNatClampNeg))) 16 f_84) (by simp only [F_root, hw_2, eq_false c_5, eq_true c_23, hw_84, eq_true c_92, ↓reduceIte, si_self, sm_self, si_snd, sm_fst, si20_16, not_false_eq_true, not_true_eq_false, eq_self] <;> rfl) (by decide) _ _ G ls (lv_sub hl [4, 3, 2, 1, 0] rfl)
      · have c_92 : ¬ (f_84 ≤ 0) := c_92
        refine lv_iconst (v := 0) hx hb dX5_root_95 (by decide) ?_
        exact m_zret X G hr hlocks rfl (by simp only [F_root, hw_2, eq_false c_5, eq_true c_23, hw_84, eq_false c_92, ↓reduceIte, si_self, sm_self, si_snd, sm_fst, si20_16, not_false_eq_true, not_true_eq_false, eq_self] <;> rfl) dX5_root_96
    · have c_23 := (mt (l_cmp_ge _ _).mpr c_23)
      have c_23 : ¬ (0 ≤ (σ.2.2.2 2 ((σ.1 5) - 1).toNatClampNeg)) := c_23
      refine lv_aload_n hx hb dX5_root_26 rfl (lv_at hl 0 rfl) ?_
      refine lv_iconst (v := 4) hx hb dX5_root_27 (by decide) ?_
      refine m_calli (As := [.int 4]) (rest := []) X hml G hA (c_M_fail l dC dI cI cJ h ad _ σ 4) (cwV 1 hts gX5_root_X5_fail rfl rfl rfl (by decide +kernel) ⟨Nat.le_of_ble_eq_true rfl, Nat.le_of_ble_eq_true rfl⟩) rfl hl.1 rfl (Nat.le_of_ble_eq_true rfl) dX5_root_28 ⟨Nat.zero_le _, Nat.zero_le _⟩ (fun r_28 u_28 H locs hw_28 G => ?_)
      obtain ⟨rfl, rfl⟩ := hw_28
      exact m_zret X G hr hlocks rfl (by simp only [F_root, hw_2, eq_false c_5, eq_false c_23, ↓reduceIte, si_self, sm_self, si_snd, sm_fst, si20_16, not_false_eq_true, not_true_eq_false, eq_self] <;> rfl) dX5_root_31
  · have c_5 : r_2 = 0 := c_5
    refine lv_iconst (v := 0) hx hb dX5_root_8 (by decide) ?_
    exact m_zret X G hr hlocks rfl (by simp only [F_root, hw_2, eq_true c_5, ↓reduceIte, si_self, sm_self, si_snd, sm_fst, si20_16, not_false_eq_true, not_true_eq_false, eq_self] <;> rfl) dX5_root_9
theorem sf_rootL {σ : MS} : ∀ (fu : Nat) (y l h : Int64) (k : Int32) (τ : MS), sf σ τ → sf σ (F_root_L107 fu y l h k τ).2 := by
  intro fu
  induction fu with
  | zero => intro y l h k τ h1; exact h1
  | succ fu ih =>
    intro y l h k τ h1
    simp only [F_root_L107]
    repeat' split
    all_goals first | exact sf_sm h1 | exact ih _ _ _ _ _ h1
theorem sf_root {σ : MS} : sf σ (F_root σ).2 := by
  unfold F_root
  dsimp only
  repeat' split
  all_goals
    try dsimp only
    first
      | (apply sf_rootL; repeat first | exact sf_refl _ | apply sf_si16 | apply sf_si20 | apply sf_sm)
      | (repeat first | exact sf_refl _ | exact sf_numbers (sf_refl _) | apply sf_si16 | apply sf_si20 | apply sf_sm)
theorem root_st {σ u : MS} {r : Int32} (h : F_root σ = (r, u)) : ∃ f m n, si (sm (si σ 16 f) m) 20 n = u := by
  refine sf_ex ?_
  have h1 := sf_root (σ := σ)
  rw [h] at h1; exact h1
theorem root_ok {σ u : MS} {r : Int32} (h : F_root σ = (r, u)) (hr : ¬ r = 0) : 1 ≤ (σ.1 5).toInt := by
  obtain ⟨a, b, hq⟩ : ∃ a b, F_numbers σ 1 = (a, b) := ⟨_, _, rfl⟩
  by_cases c : a = 0
  · simp only [F_root, hq, c, ↓reduceIte, Prod.mk.injEq] at h
    exact absurd h.1.symm hr
  · exact (numbers_ok hq c).2
def F_compared (σ : MS) : Int32 × MS := let q_51 := F_raised σ (σ.2.2.2 2 ((σ.1 5) - 2).toNatClampNeg) ((f_greater (σ.2.2.1 3 ((σ.1 5) - 1).toNatClampNeg) (σ.2.2.1 3 ((σ.1 5) - 2).toNatClampNeg)) - (σ.2.2.1 3 ((σ.1 5) - 2).toNatClampNeg)); let q_80 := F_raised (si σ 16 (q_51.2.1 16)) (σ.2.2.2 2 ((σ.1 5) - 1).toNatClampNeg) ((f_greater (σ.2.2.1 3 ((σ.1 5) - 1).toNatClampNeg) (σ.2.2.1 3 ((σ.1 5) - 2).toNatClampNeg)) - (σ.2.2.1 3 ((σ.1 5) - 1).toNatClampNeg)); if q_51.1 ≤ q_80.1 then (if q_80.1 ≤ q_51.1 then (if (q_80.2.1 16) = 0 then ((1, (sm (si (si σ 16 (q_51.2.1 16)) 16 (q_80.2.1 16)) 0))) else (0, (sm (si (si σ 16 (q_51.2.1 16)) 16 (q_80.2.1 16)) 0))) else if (q_80.2.1 16) = 0 then ((1, (sm (si (si σ 16 (q_51.2.1 16)) 16 (q_80.2.1 16)) (-1)))) else (0, (sm (si (si σ 16 (q_51.2.1 16)) 16 (q_80.2.1 16)) (-1)))) else if (q_80.2.1 16) = 0 then ((1, (sm (si (si σ 16 (q_51.2.1 16)) 16 (q_80.2.1 16)) 1))) else (0, (sm (si (si σ 16 (q_51.2.1 16)) 16 (q_80.2.1 16)) 1))
set_option maxHeartbeats 4000000 in
set_option maxRecDepth 100000 in
theorem c_M_compared (l : Launch) (dC : Nat → ClassId) (dI : Nat → Nat → Nat) (cI cJ : ClassId) (h : Nat) (ad : Nat → Nat) (sz : Nat) (σ : MS) (hn : 2 ≤ (σ.1 5).toInt) (hd : (σ.1 5).toInt ≤ 40) : Met l yX5_compared wsX5_compared ({ frames := 1, cells := 0, slots := 0, locals := 26 } : Room) (va_Pc [.ref h] (mPre dC dI cI cJ h ad sz σ)) (va_Qi (fun r u => F_compared σ = (r, u)) (mAt dC dI cI cJ h ad (mA h ad cI cJ σ sz)) (mA h ad cI cJ σ sz)) 0 0 (mA h ad cI cJ σ sz) := by
  refine m_ofW (cc := cX5_compared) (maxL := 6) (ret := (some .boolean)) (by decide) rfl (by decide +kernel) rfl (Nat.le_of_ble_eq_true rfl) ?_
  intro p e s m below meth c X G hA hr hlocks hml ls hl
  have hl : lv_has ls 6 [(0, .ref h)] := hl
  have hx := X.1
  have hb := X.2.1
  have hts := X.2.2.1
  have hown := X.2.2.2.2.1
  refine lv_aload_n hx hb dX5_compared_0 rfl (lv_at hl 0 rfl) ?_
  refine m_get_3 X G (by decide +kernel) dX5_compared_1 ?_
  refine lv_aload_n hx hb dX5_compared_4 rfl (lv_at hl 0 rfl) ?_
  refine m_get_5 X G (by decide +kernel) dX5_compared_5 ?_
  refine lv_iconst (v := 1) hx hb dX5_compared_8 (by decide) ?_
  refine lv_isub hx hb dX5_compared_9 ?_
  refine m_ld_3 X G (vin (i_subE (rfl : (σ.1 5).toInt = _) (show (1 : Int32).toInt = 1 from rfl) (by omega) (by omega)) (by omega) (by omega)) dX5_compared_10 ?_
  refine lv_aload_n hx hb dX5_compared_11 rfl (lv_at hl 0 rfl) ?_
  refine m_get_3 X G (by decide +kernel) dX5_compared_12 ?_
  refine lv_aload_n hx hb dX5_compared_15 rfl (lv_at hl 0 rfl) ?_
  refine m_get_5 X G (by decide +kernel) dX5_compared_16 ?_
  refine lv_iconst (v := 2) hx hb dX5_compared_19 (by decide) ?_
  refine lv_isub hx hb dX5_compared_20 ?_
  refine m_ld_3 X G (vin (i_subE (rfl : (σ.1 5).toInt = _) (show (2 : Int32).toInt = 2 from rfl) (by omega) (by omega)) (by omega) (by omega)) dX5_compared_21 ?_
  refine W.callR (W.runS (As := [.int (σ.2.2.1 3 ((σ.1 5) - 1).toNatClampNeg), .int (σ.2.2.1 3 ((σ.1 5) - 2).toNatClampNeg)]) (rest := []) ⟨hx, hb, hml, hown, hts⟩ (c_M_greater l (σ.2.2.1 3 ((σ.1 5) - 1).toNatClampNeg) (σ.2.2.1 3 ((σ.1 5) - 2).toNatClampNeg)) (va_cwS 2 hts gX5_compared_X5_greater rfl rfl rfl (by decide +kernel) ⟨Nat.le_of_ble_eq_true rfl, Nat.le_of_ble_eq_true rfl⟩) ⟨fun a U g mk q => q, fun U _ _ => ⟨rfl, trivial⟩⟩ rfl rfl hl.1 rfl (lv_room (Nat.le_of_ble_eq_true rfl)) dX5_compared_22 ⟨Nat.zero_le _, Nat.zero_le _⟩) ?_
  refine W.eq (g2 := F0 m 25 ls [.int (f_greater (σ.2.2.1 3 ((σ.1 5) - 1).toNatClampNeg) (σ.2.2.1 3 ((σ.1 5) - 2).toNatClampNeg))]) rfl ?_
  refine lv_istore_n (lv' := [(1, .int (f_greater (σ.2.2.1 3 ((σ.1 5) - 1).toNatClampNeg) (σ.2.2.1 3 ((σ.1 5) - 2).toNatClampNeg))), (0, .ref h)]) hx hb dX5_compared_25 rfl hl (by decide) rfl (fun ls hl => ?_)
  refine lv_aload_n hx hb dX5_compared_26 rfl (lv_at hl 1 rfl) ?_
  refine lv_aload_n hx hb dX5_compared_27 rfl (lv_at hl 1 rfl) ?_
  refine m_get_2 X G (by decide +kernel) dX5_compared_28 ?_
  refine lv_aload_n hx hb dX5_compared_31 rfl (lv_at hl 1 rfl) ?_
  refine m_get_5 X G (by decide +kernel) dX5_compared_32 ?_
  refine lv_iconst (v := 2) hx hb dX5_compared_35 (by decide) ?_
  refine lv_isub hx hb dX5_compared_36 ?_
  refine m_ld_2 X G (vin (i_subE (rfl : (σ.1 5).toInt = _) (show (2 : Int32).toInt = 2 from rfl) (by omega) (by omega)) (by omega) (by omega)) dX5_compared_37 ?_
  refine lv_iload_n hx hb dX5_compared_38 rfl (lv_at hl 0 rfl) ?_
  refine lv_aload_n hx hb dX5_compared_39 rfl (lv_at hl 1 rfl) ?_
  refine m_get_3 X G (by decide +kernel) dX5_compared_40 ?_
  refine lv_aload_n hx hb dX5_compared_43 rfl (lv_at hl 1 rfl) ?_
  refine m_get_5 X G (by decide +kernel) dX5_compared_44 ?_
  refine lv_iconst (v := 2) hx hb dX5_compared_47 (by decide) ?_
  refine lv_isub hx hb dX5_compared_48 ?_
  refine m_ld_3 X G (vin (i_subE (rfl : (σ.1 5).toInt = _) (show (2 : Int32).toInt = 2 from rfl) (by omega) (by omega)) (by omega) (by omega)) dX5_compared_49 ?_
  refine lv_isub hx hb dX5_compared_50 ?_
  refine m_calll (As := [.long (σ.2.2.2 2 ((σ.1 5) - 2).toNatClampNeg), .int ((f_greater (σ.2.2.1 3 ((σ.1 5) - 1).toNatClampNeg) (σ.2.2.1 3 ((σ.1 5) - 2).toNatClampNeg)) - (σ.2.2.1 3 ((σ.1 5) - 2).toNatClampNeg))]) (rest := []) X hml G hA (c_M_raised l dC dI cI cJ h ad _ σ (σ.2.2.2 2 ((σ.1 5) - 2).toNatClampNeg) ((f_greater (σ.2.2.1 3 ((σ.1 5) - 1).toNatClampNeg) (σ.2.2.1 3 ((σ.1 5) - 2).toNatClampNeg)) - (σ.2.2.1 3 ((σ.1 5) - 2).toNatClampNeg))) (cwV 2 hts gX5_compared_X5_raised rfl rfl rfl (by decide +kernel) ⟨Nat.le_of_ble_eq_true rfl, Nat.le_of_ble_eq_true rfl⟩) rfl hl.1 rfl (Nat.le_of_ble_eq_true rfl) dX5_compared_51 ⟨Nat.zero_le _, Nat.zero_le _⟩ (fun r_51 u_51 H locs hw_51 G => ?_)
  obtain ⟨f_51, rfl⟩ := raised_st hw_51
  refine lv_lstore_n (lv' := [(2, .long r_51), (1, .int (f_greater (σ.2.2.1 3 ((σ.1 5) - 1).toNatClampNeg) (σ.2.2.1 3 ((σ.1 5) - 2).toNatClampNeg))), (0, .ref h)]) hx hb dX5_compared_54 rfl hl (by decide) rfl (fun ls hl => ?_)
  refine lv_aload_n hx hb dX5_compared_55 rfl (lv_at hl 2 rfl) ?_
  refine lv_aload_n hx hb dX5_compared_56 rfl (lv_at hl 2 rfl) ?_
  refine m_get_2 X G (by decide +kernel) dX5_compared_57 ?_
  refine lv_aload_n hx hb dX5_compared_60 rfl (lv_at hl 2 rfl) ?_
  refine m_get_5 X G (by decide +kernel) dX5_compared_61 ?_
  refine lv_iconst (v := 1) hx hb dX5_compared_64 (by decide) ?_
  refine lv_isub hx hb dX5_compared_65 ?_
  refine m_ld_2 X G (vin (i_subE (rfl : (σ.1 5).toInt = _) (show (1 : Int32).toInt = 1 from rfl) (by omega) (by omega)) (by omega) (by omega)) dX5_compared_66 ?_
  refine lv_iload_n hx hb dX5_compared_67 rfl (lv_at hl 1 rfl) ?_
  refine lv_aload_n hx hb dX5_compared_68 rfl (lv_at hl 2 rfl) ?_
  refine m_get_3 X G (by decide +kernel) dX5_compared_69 ?_
  refine lv_aload_n hx hb dX5_compared_72 rfl (lv_at hl 2 rfl) ?_
  refine m_get_5 X G (by decide +kernel) dX5_compared_73 ?_
  refine lv_iconst (v := 1) hx hb dX5_compared_76 (by decide) ?_
  refine lv_isub hx hb dX5_compared_77 ?_
  refine m_ld_3 X G (vin (i_subE (rfl : (σ.1 5).toInt = _) (show (1 : Int32).toInt = 1 from rfl) (by omega) (by omega)) (by omega) (by omega)) dX5_compared_78 ?_
  refine lv_isub hx hb dX5_compared_79 ?_
  refine m_calll (As := [.long (σ.2.2.2 2 ((σ.1 5) - 1).toNatClampNeg), .int ((f_greater (σ.2.2.1 3 ((σ.1 5) - 1).toNatClampNeg) (σ.2.2.1 3 ((σ.1 5) - 2).toNatClampNeg)) - (σ.2.2.1 3 ((σ.1 5) - 1).toNatClampNeg))]) (rest := []) X hml G hA (c_M_raised l dC dI cI cJ h ad _ (si σ 16 f_51) (σ.2.2.2 2 ((σ.1 5) - 1).toNatClampNeg) ((f_greater (σ.2.2.1 3 ((σ.1 5) - 1).toNatClampNeg) (σ.2.2.1 3 ((σ.1 5) - 2).toNatClampNeg)) - (σ.2.2.1 3 ((σ.1 5) - 1).toNatClampNeg))) (cwV 2 hts gX5_compared_X5_raised rfl rfl rfl (by decide +kernel) ⟨Nat.le_of_ble_eq_true rfl, Nat.le_of_ble_eq_true rfl⟩) rfl hl.1 rfl (Nat.le_of_ble_eq_true rfl) dX5_compared_80 ⟨Nat.zero_le _, Nat.zero_le _⟩ (fun r_80 u_80 H locs hw_80 G => ?_)
  obtain ⟨f_80, rfl⟩ := raised_st hw_80
  refine lv_lstore (lv' := [(4, .long r_80), (2, .long r_51), (1, .int (f_greater (σ.2.2.1 3 ((σ.1 5) - 1).toNatClampNeg) (σ.2.2.1 3 ((σ.1 5) - 2).toNatClampNeg))), (0, .ref h)]) hx hb dX5_compared_83 hl (by decide) rfl (fun ls hl => ?_)
  refine lv_aload_n hx hb dX5_compared_85 rfl (lv_at hl 3 rfl) ?_
  refine lv_lload_n hx hb dX5_compared_86 rfl (lv_at hl 1 rfl) ?_
  refine lv_lload hx hb dX5_compared_87 (lv_at hl 0 rfl) ?_
  refine W.lcmp hx hb dX5_compared_89 ?_
  refine lv_if_le (tgt := 97) hx hb dX5_compared_90 (by decide) (fun c_90 => ?_) (fun c_90 => ?_)
  · have c_90 := ((l_cmp_le _ _).mp c_90)
    have c_90 : r_51 ≤ r_80 := c_90
    refine lv_lload_n hx hb dX5_compared_97 rfl (lv_at hl 1 rfl) ?_
    refine lv_lload hx hb dX5_compared_98 (lv_at hl 0 rfl) ?_
    refine W.lcmp hx hb dX5_compared_100 ?_
    refine lv_if_ge (tgt := 110) hx hb dX5_compared_101 (by decide) (fun c_101 => ?_) (fun c_101 => ?_)
    · have c_101 := ((l_cmp_ge _ _).mp c_101)
      have c_101 : r_80 ≤ r_51 := c_101
      refine lv_lconst (v := 0) hx hb dX5_compared_110 (by decide) ?_
      refine m_put_19 X G (by decide +kernel) dX5_compared_111 (fun H locs G => ?_)
      refine lv_aload_n hx hb dX5_compared_114 rfl (lv_at hl 3 rfl) ?_
      refine m_get_16 X G (by decide +kernel) dX5_compared_115 ?_
      refine lv_if_ne (tgt := 125) hx hb dX5_compared_118 (by decide) (fun c_118 => ?_) (fun c_118 => ?_)
      · have c_118 : ¬ (f_80 = 0) := c_118
        refine lv_iconst (v := 0) hx hb dX5_compared_125 (by decide) ?_
        exact m_zret X G hr hlocks rfl (by simp only [F_compared, hw_51, hw_80, eq_true c_90, eq_true c_101, eq_false c_118, ↓reduceIte, si_self, sm_self, si_snd, sm_fst, si20_16, not_false_eq_true, not_true_eq_false, eq_self] <;> rfl) dX5_compared_126
      · have c_118 : f_80 = 0 := c_118
        refine lv_iconst (v := 1) hx hb dX5_compared_121 (by decide) ?_
        refine lv_goto (tgt := 126) hx hb dX5_compared_122 (by decide) ?_
        exact m_zret X G hr hlocks rfl (by simp only [F_compared, hw_51, hw_80, eq_true c_90, eq_true c_101, eq_true c_118, ↓reduceIte, si_self, sm_self, si_snd, sm_fst, si20_16, not_false_eq_true, not_true_eq_false, eq_self] <;> rfl) dX5_compared_126
    · have c_101 := (mt (l_cmp_ge _ _).mpr c_101)
      have c_101 : ¬ (r_80 ≤ r_51) := c_101
      refine lv_ldc2 (v := -1) hx hb hown (hts (.constantLong RX5 173 (-1)) (by decide +kernel)) dX5_compared_104 ?_
      refine lv_goto (tgt := 111) hx hb dX5_compared_107 (by decide) ?_
      refine m_put_19 X G (by decide +kernel) dX5_compared_111 (fun H locs G => ?_)
      refine lv_aload_n hx hb dX5_compared_114 rfl (lv_at hl 3 rfl) ?_
      refine m_get_16 X G (by decide +kernel) dX5_compared_115 ?_
      refine lv_if_ne (tgt := 125) hx hb dX5_compared_118 (by decide) (fun c_118 => ?_) (fun c_118 => ?_)
      · have c_118 : ¬ (f_80 = 0) := c_118
        refine lv_iconst (v := 0) hx hb dX5_compared_125 (by decide) ?_
        exact m_zret X G hr hlocks rfl (by simp only [F_compared, hw_51, hw_80, eq_true c_90, eq_false c_101, eq_false c_118, ↓reduceIte, si_self, sm_self, si_snd, sm_fst, si20_16, not_false_eq_true, not_true_eq_false, eq_self] <;> rfl) dX5_compared_126
      · have c_118 : f_80 = 0 := c_118
        refine lv_iconst (v := 1) hx hb dX5_compared_121 (by decide) ?_
        refine lv_goto (tgt := 126) hx hb dX5_compared_122 (by decide) ?_
        exact m_zret X G hr hlocks rfl (by simp only [F_compared, hw_51, hw_80, eq_true c_90, eq_false c_101, eq_true c_118, ↓reduceIte, si_self, sm_self, si_snd, sm_fst, si20_16, not_false_eq_true, not_true_eq_false, eq_self] <;> rfl) dX5_compared_126
  · have c_90 := (mt (l_cmp_le _ _).mpr c_90)
    have c_90 : ¬ (r_51 ≤ r_80) := c_90
    refine lv_lconst (v := 1) hx hb dX5_compared_93 (by decide) ?_
    refine lv_goto (tgt := 111) hx hb dX5_compared_94 (by decide) ?_
    refine m_put_19 X G (by decide +kernel) dX5_compared_111 (fun H locs G => ?_)
    refine lv_aload_n hx hb dX5_compared_114 rfl (lv_at hl 3 rfl) ?_
    refine m_get_16 X G (by decide +kernel) dX5_compared_115 ?_
    refine lv_if_ne (tgt := 125) hx hb dX5_compared_118 (by decide) (fun c_118 => ?_) (fun c_118 => ?_)
    · have c_118 : ¬ (f_80 = 0) := c_118
      refine lv_iconst (v := 0) hx hb dX5_compared_125 (by decide) ?_
      exact m_zret X G hr hlocks rfl (by simp only [F_compared, hw_51, hw_80, eq_false c_90, eq_false c_118, ↓reduceIte, si_self, sm_self, si_snd, sm_fst, si20_16, not_false_eq_true, not_true_eq_false, eq_self] <;> rfl) dX5_compared_126
    · have c_118 : f_80 = 0 := c_118
      refine lv_iconst (v := 1) hx hb dX5_compared_121 (by decide) ?_
      refine lv_goto (tgt := 126) hx hb dX5_compared_122 (by decide) ?_
      exact m_zret X G hr hlocks rfl (by simp only [F_compared, hw_51, hw_80, eq_false c_90, eq_true c_118, ↓reduceIte, si_self, sm_self, si_snd, sm_fst, si20_16, not_false_eq_true, not_true_eq_false, eq_self] <;> rfl) dX5_compared_126
theorem sf_compared {σ : MS} : sf σ (F_compared σ).2 := by
  unfold F_compared
  dsimp only
  repeat' split
  all_goals
    dsimp only
    repeat first | exact sf_refl _ | apply sf_si16 | apply sf_si20 | apply sf_sm
theorem compared_st {σ u : MS} {r : Int32} (h : F_compared σ = (r, u)) : ∃ f m n, si (sm (si σ 16 f) m) 20 n = u := by
  refine sf_ex ?_
  have h1 := sf_compared (σ := σ)
  rw [h] at h1; exact h1
end
