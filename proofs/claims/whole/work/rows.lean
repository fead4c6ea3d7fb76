section
-- ===== PART A: goes FIRST, ahead of the names: the tables' words, and 'selects' of the private methods out of them =====
/-- a private method of a class that the tables say can be made, by its rows of tables_1 -/
def lw_okq (q : MethodName × Nat) : Prop := (q.1.cls ≠ "java/lang/invoke/MethodHandle" ∧ q.1.cls ≠ "java/lang/invoke/VarHandle") ∧ Cond.instantiable q.1.cls q.2 ∈ tables_1 ∧ Cond.privateMethod q.1 ∈ tables_1 ∧ Cond.instanceMethod q.1 ∈ tables_1
theorem lw_p0 : lw_okq (⟨"DeskStack", "registerNumbered", "(I)LDeskStack$Shelf;"⟩, 7) := ⟨⟨by decide +kernel, by decide +kernel⟩, List.mem_of_getElem? (i := 18) (by decide +kernel), List.mem_of_getElem? (i := 175) (by decide +kernel), List.mem_of_getElem? (i := 176) (by decide +kernel)⟩
theorem lw_p1 : lw_okq (⟨"java/lang/Throwable", "fillInStackTrace", "(I)Ljava/lang/Throwable;"⟩, 6) := ⟨⟨by decide +kernel, by decide +kernel⟩, List.mem_of_getElem? (i := 243) (by decide +kernel), List.mem_of_getElem? (i := 241) (by decide +kernel), List.mem_of_getElem? (i := 242) (by decide +kernel)⟩
theorem lw_p2 : lw_okq (⟨"DeskStack$Nest", "isUnderWay", "()Z"⟩, 4) := ⟨⟨by decide +kernel, by decide +kernel⟩, List.mem_of_getElem? (i := 54) (by decide +kernel), List.mem_of_getElem? (i := 305) (by decide +kernel), List.mem_of_getElem? (i := 306) (by decide +kernel)⟩
theorem lw_p3 : lw_okq (⟨"DeskStack", "doCommand", "()V"⟩, 7) := ⟨⟨by decide +kernel, by decide +kernel⟩, List.mem_of_getElem? (i := 18) (by decide +kernel), List.mem_of_getElem? (i := 328) (by decide +kernel), List.mem_of_getElem? (i := 329) (by decide +kernel)⟩
theorem lw_p4 : lw_okq (⟨"DeskStack", "putWrittenNumber", "()V"⟩, 7) := ⟨⟨by decide +kernel, by decide +kernel⟩, List.mem_of_getElem? (i := 18) (by decide +kernel), List.mem_of_getElem? (i := 338) (by decide +kernel), List.mem_of_getElem? (i := 339) (by decide +kernel)⟩
theorem lw_p5 : lw_okq (⟨"DeskStack$Shelf", "put", "(JILDeskStack$Row;I)V"⟩, 5) := ⟨⟨by decide +kernel, by decide +kernel⟩, List.mem_of_getElem? (i := 26) (by decide +kernel), List.mem_of_getElem? (i := 349) (by decide +kernel), List.mem_of_getElem? (i := 350) (by decide +kernel)⟩
theorem lw_p6 : lw_okq (⟨"DeskStack$Shelf", "set", "(IJILDeskStack$Row;I)V"⟩, 5) := ⟨⟨by decide +kernel, by decide +kernel⟩, List.mem_of_getElem? (i := 26) (by decide +kernel), List.mem_of_getElem? (i := 360) (by decide +kernel), List.mem_of_getElem? (i := 361) (by decide +kernel)⟩
theorem lw_p7 : lw_okq (⟨"DeskStack", "putWrittenText", "()V"⟩, 7) := ⟨⟨by decide +kernel, by decide +kernel⟩, List.mem_of_getElem? (i := 18) (by decide +kernel), List.mem_of_getElem? (i := 364) (by decide +kernel), List.mem_of_getElem? (i := 365) (by decide +kernel)⟩
theorem lw_p8 : lw_okq (⟨"DeskStack", "calculate", "(I)V"⟩, 7) := ⟨⟨by decide +kernel, by decide +kernel⟩, List.mem_of_getElem? (i := 18) (by decide +kernel), List.mem_of_getElem? (i := 381) (by decide +kernel), List.mem_of_getElem? (i := 382) (by decide +kernel)⟩
theorem lw_p9 : lw_okq (⟨"DeskStack", "needNumbers", "(I)V"⟩, 7) := ⟨⟨by decide +kernel, by decide +kernel⟩, List.mem_of_getElem? (i := 18) (by decide +kernel), List.mem_of_getElem? (i := 385) (by decide +kernel), List.mem_of_getElem? (i := 386) (by decide +kernel)⟩
theorem lw_p10 : lw_okq (⟨"DeskStack", "needItems", "(I)V"⟩, 7) := ⟨⟨by decide +kernel, by decide +kernel⟩, List.mem_of_getElem? (i := 18) (by decide +kernel), List.mem_of_getElem? (i := 389) (by decide +kernel), List.mem_of_getElem? (i := 390) (by decide +kernel)⟩
theorem lw_p11 : lw_okq (⟨"DeskStack", "changeNumber", "(I)V"⟩, 7) := ⟨⟨by decide +kernel, by decide +kernel⟩, List.mem_of_getElem? (i := 18) (by decide +kernel), List.mem_of_getElem? (i := 495) (by decide +kernel), List.mem_of_getElem? (i := 496) (by decide +kernel)⟩
theorem lw_p12 : lw_okq (⟨"DeskStack", "moveToOrFromRegister", "(I)V"⟩, 7) := ⟨⟨by decide +kernel, by decide +kernel⟩, List.mem_of_getElem? (i := 18) (by decide +kernel), List.mem_of_getElem? (i := 511) (by decide +kernel), List.mem_of_getElem? (i := 512) (by decide +kernel)⟩
theorem lw_p13 : lw_okq (⟨"DeskStack", "registerOfLetter", "()LDeskStack$Shelf;"⟩, 7) := ⟨⟨by decide +kernel, by decide +kernel⟩, List.mem_of_getElem? (i := 18) (by decide +kernel), List.mem_of_getElem? (i := 515) (by decide +kernel), List.mem_of_getElem? (i := 516) (by decide +kernel)⟩
theorem lw_p14 : lw_okq (⟨"DeskStack", "runIfOrdered", "(I)V"⟩, 7) := ⟨⟨by decide +kernel, by decide +kernel⟩, List.mem_of_getElem? (i := 18) (by decide +kernel), List.mem_of_getElem? (i := 536) (by decide +kernel), List.mem_of_getElem? (i := 537) (by decide +kernel)⟩
theorem lw_p15 : lw_okq (⟨"DeskStack", "runTop", "()V"⟩, 7) := ⟨⟨by decide +kernel, by decide +kernel⟩, List.mem_of_getElem? (i := 18) (by decide +kernel), List.mem_of_getElem? (i := 555) (by decide +kernel), List.mem_of_getElem? (i := 556) (by decide +kernel)⟩
def lw_privs_1 : List (MethodName × Nat) := [(⟨"DeskStack", "registerNumbered", "(I)LDeskStack$Shelf;"⟩, 7), (⟨"java/lang/Throwable", "fillInStackTrace", "(I)Ljava/lang/Throwable;"⟩, 6), (⟨"DeskStack$Nest", "isUnderWay", "()Z"⟩, 4), (⟨"DeskStack", "doCommand", "()V"⟩, 7), (⟨"DeskStack", "putWrittenNumber", "()V"⟩, 7), (⟨"DeskStack$Shelf", "put", "(JILDeskStack$Row;I)V"⟩, 5), (⟨"DeskStack$Shelf", "set", "(IJILDeskStack$Row;I)V"⟩, 5), (⟨"DeskStack", "putWrittenText", "()V"⟩, 7), (⟨"DeskStack", "calculate", "(I)V"⟩, 7), (⟨"DeskStack", "needNumbers", "(I)V"⟩, 7), (⟨"DeskStack", "needItems", "(I)V"⟩, 7), (⟨"DeskStack", "changeNumber", "(I)V"⟩, 7), (⟨"DeskStack", "moveToOrFromRegister", "(I)V"⟩, 7), (⟨"DeskStack", "registerOfLetter", "()LDeskStack$Shelf;"⟩, 7), (⟨"DeskStack", "runIfOrdered", "(I)V"⟩, 7), (⟨"DeskStack", "runTop", "()V"⟩, 7)]
theorem lw_r1 : ∀ q ∈ lw_privs_1, lw_okq q := List.forall_mem_cons.mpr ⟨lw_p0, List.forall_mem_cons.mpr ⟨lw_p1, List.forall_mem_cons.mpr ⟨lw_p2, List.forall_mem_cons.mpr ⟨lw_p3, List.forall_mem_cons.mpr ⟨lw_p4, List.forall_mem_cons.mpr ⟨lw_p5, List.forall_mem_cons.mpr ⟨lw_p6, List.forall_mem_cons.mpr ⟨lw_p7, List.forall_mem_cons.mpr ⟨lw_p8, List.forall_mem_cons.mpr ⟨lw_p9, List.forall_mem_cons.mpr ⟨lw_p10, List.forall_mem_cons.mpr ⟨lw_p11, List.forall_mem_cons.mpr ⟨lw_p12, List.forall_mem_cons.mpr ⟨lw_p13, List.forall_mem_cons.mpr ⟨lw_p14, List.forall_mem_cons.mpr ⟨lw_p15, fun _ h => absurd h List.not_mem_nil⟩⟩⟩⟩⟩⟩⟩⟩⟩⟩⟩⟩⟩⟩⟩⟩
theorem lw_p16 : lw_okq (⟨"DeskStack", "arrangeStack", "(I)V"⟩, 7) := ⟨⟨by decide +kernel, by decide +kernel⟩, List.mem_of_getElem? (i := 18) (by decide +kernel), List.mem_of_getElem? (i := 559) (by decide +kernel), List.mem_of_getElem? (i := 560) (by decide +kernel)⟩
theorem lw_p17 : lw_okq (⟨"DeskStackModel", "isNothing", "(I)Z"⟩, 21) := ⟨⟨by decide +kernel, by decide +kernel⟩, List.mem_of_getElem? (i := 569) (by decide +kernel), List.mem_of_getElem? (i := 660) (by decide +kernel), List.mem_of_getElem? (i := 661) (by decide +kernel)⟩
theorem lw_p18 : lw_okq (⟨"DeskStackModel", "command", "(I)Z"⟩, 21) := ⟨⟨by decide +kernel, by decide +kernel⟩, List.mem_of_getElem? (i := 569) (by decide +kernel), List.mem_of_getElem? (i := 664) (by decide +kernel), List.mem_of_getElem? (i := 665) (by decide +kernel)⟩
theorem lw_p19 : lw_okq (⟨"DeskStackModel", "charAt", "(II)I"⟩, 21) := ⟨⟨by decide +kernel, by decide +kernel⟩, List.mem_of_getElem? (i := 569) (by decide +kernel), List.mem_of_getElem? (i := 668) (by decide +kernel), List.mem_of_getElem? (i := 669) (by decide +kernel)⟩
theorem lw_p20 : lw_okq (⟨"DeskStackModel", "digits", "(I)Z"⟩, 21) := ⟨⟨by decide +kernel, by decide +kernel⟩, List.mem_of_getElem? (i := 569) (by decide +kernel), List.mem_of_getElem? (i := 674) (by decide +kernel), List.mem_of_getElem? (i := 675) (by decide +kernel)⟩
theorem lw_p21 : lw_okq (⟨"DeskStackModel", "fail", "(I)Z"⟩, 21) := ⟨⟨by decide +kernel, by decide +kernel⟩, List.mem_of_getElem? (i := 569) (by decide +kernel), List.mem_of_getElem? (i := 679) (by decide +kernel), List.mem_of_getElem? (i := 680) (by decide +kernel)⟩
theorem lw_p22 : lw_okq (⟨"DeskStackModel", "room", "()Z"⟩, 21) := ⟨⟨by decide +kernel, by decide +kernel⟩, List.mem_of_getElem? (i := 569) (by decide +kernel), List.mem_of_getElem? (i := 683) (by decide +kernel), List.mem_of_getElem? (i := 684) (by decide +kernel)⟩
theorem lw_p23 : lw_okq (⟨"DeskStackModel", "put", "(IJI)V"⟩, 21) := ⟨⟨by decide +kernel, by decide +kernel⟩, List.mem_of_getElem? (i := 569) (by decide +kernel), List.mem_of_getElem? (i := 687) (by decide +kernel), List.mem_of_getElem? (i := 688) (by decide +kernel)⟩
theorem lw_p24 : lw_okq (⟨"DeskStackModel", "brackets", "(I)Z"⟩, 21) := ⟨⟨by decide +kernel, by decide +kernel⟩, List.mem_of_getElem? (i := 569) (by decide +kernel), List.mem_of_getElem? (i := 691) (by decide +kernel), List.mem_of_getElem? (i := 692) (by decide +kernel)⟩
theorem lw_p25 : lw_okq (⟨"DeskStackModel", "stores", "(II)Z"⟩, 21) := ⟨⟨by decide +kernel, by decide +kernel⟩, List.mem_of_getElem? (i := 569) (by decide +kernel), List.mem_of_getElem? (i := 703) (by decide +kernel), List.mem_of_getElem? (i := 704) (by decide +kernel)⟩
theorem lw_p26 : lw_okq (⟨"DeskStackModel", "have", "(I)Z"⟩, 21) := ⟨⟨by decide +kernel, by decide +kernel⟩, List.mem_of_getElem? (i := 569) (by decide +kernel), List.mem_of_getElem? (i := 707) (by decide +kernel), List.mem_of_getElem? (i := 708) (by decide +kernel)⟩
theorem lw_p27 : lw_okq (⟨"DeskStackModel", "topOf", "(I)I"⟩, 21) := ⟨⟨by decide +kernel, by decide +kernel⟩, List.mem_of_getElem? (i := 569) (by decide +kernel), List.mem_of_getElem? (i := 711) (by decide +kernel), List.mem_of_getElem? (i := 712) (by decide +kernel)⟩
theorem lw_p28 : lw_okq (⟨"DeskStackModel", "copy", "(II)V"⟩, 21) := ⟨⟨by decide +kernel, by decide +kernel⟩, List.mem_of_getElem? (i := 569) (by decide +kernel), List.mem_of_getElem? (i := 715) (by decide +kernel), List.mem_of_getElem? (i := 716) (by decide +kernel)⟩
theorem lw_p29 : lw_okq (⟨"DeskStackModel", "tests", "(III)Z"⟩, 21) := ⟨⟨by decide +kernel, by decide +kernel⟩, List.mem_of_getElem? (i := 569) (by decide +kernel), List.mem_of_getElem? (i := 719) (by decide +kernel), List.mem_of_getElem? (i := 720) (by decide +kernel)⟩
theorem lw_p30 : lw_okq (⟨"DeskStackModel", "numbers", "(I)Z"⟩, 21) := ⟨⟨by decide +kernel, by decide +kernel⟩, List.mem_of_getElem? (i := 569) (by decide +kernel), List.mem_of_getElem? (i := 723) (by decide +kernel), List.mem_of_getElem? (i := 724) (by decide +kernel)⟩
theorem lw_p31 : lw_okq (⟨"DeskStackModel", "compared", "()Z"⟩, 21) := ⟨⟨by decide +kernel, by decide +kernel⟩, List.mem_of_getElem? (i := 569) (by decide +kernel), List.mem_of_getElem? (i := 727) (by decide +kernel), List.mem_of_getElem? (i := 728) (by decide +kernel)⟩
def lw_privs_2 : List (MethodName × Nat) := [(⟨"DeskStack", "arrangeStack", "(I)V"⟩, 7), (⟨"DeskStackModel", "isNothing", "(I)Z"⟩, 21), (⟨"DeskStackModel", "command", "(I)Z"⟩, 21), (⟨"DeskStackModel", "charAt", "(II)I"⟩, 21), (⟨"DeskStackModel", "digits", "(I)Z"⟩, 21), (⟨"DeskStackModel", "fail", "(I)Z"⟩, 21), (⟨"DeskStackModel", "room", "()Z"⟩, 21), (⟨"DeskStackModel", "put", "(IJI)V"⟩, 21), (⟨"DeskStackModel", "brackets", "(I)Z"⟩, 21), (⟨"DeskStackModel", "stores", "(II)Z"⟩, 21), (⟨"DeskStackModel", "have", "(I)Z"⟩, 21), (⟨"DeskStackModel", "topOf", "(I)I"⟩, 21), (⟨"DeskStackModel", "copy", "(II)V"⟩, 21), (⟨"DeskStackModel", "tests", "(III)Z"⟩, 21), (⟨"DeskStackModel", "numbers", "(I)Z"⟩, 21), (⟨"DeskStackModel", "compared", "()Z"⟩, 21)]
theorem lw_r2 : ∀ q ∈ lw_privs_2, lw_okq q := List.forall_mem_cons.mpr ⟨lw_p16, List.forall_mem_cons.mpr ⟨lw_p17, List.forall_mem_cons.mpr ⟨lw_p18, List.forall_mem_cons.mpr ⟨lw_p19, List.forall_mem_cons.mpr ⟨lw_p20, List.forall_mem_cons.mpr ⟨lw_p21, List.forall_mem_cons.mpr ⟨lw_p22, List.forall_mem_cons.mpr ⟨lw_p23, List.forall_mem_cons.mpr ⟨lw_p24, List.forall_mem_cons.mpr ⟨lw_p25, List.forall_mem_cons.mpr ⟨lw_p26, List.forall_mem_cons.mpr ⟨lw_p27, List.forall_mem_cons.mpr ⟨lw_p28, List.forall_mem_cons.mpr ⟨lw_p29, List.forall_mem_cons.mpr ⟨lw_p30, List.forall_mem_cons.mpr ⟨lw_p31, fun _ h => absurd h List.not_mem_nil⟩⟩⟩⟩⟩⟩⟩⟩⟩⟩⟩⟩⟩⟩⟩⟩
theorem lw_p32 : lw_okq (⟨"DeskStackModel", "raised", "(JI)J"⟩, 21) := ⟨⟨by decide +kernel, by decide +kernel⟩, List.mem_of_getElem? (i := 569) (by decide +kernel), List.mem_of_getElem? (i := 734) (by decide +kernel), List.mem_of_getElem? (i := 735) (by decide +kernel)⟩
theorem lw_p33 : lw_okq (⟨"DeskStackModel", "mayRun", "(I)Z"⟩, 21) := ⟨⟨by decide +kernel, by decide +kernel⟩, List.mem_of_getElem? (i := 569) (by decide +kernel), List.mem_of_getElem? (i := 741) (by decide +kernel), List.mem_of_getElem? (i := 742) (by decide +kernel)⟩
theorem lw_p34 : lw_okq (⟨"DeskStackModel", "isDone", "(I)Z"⟩, 21) := ⟨⟨by decide +kernel, by decide +kernel⟩, List.mem_of_getElem? (i := 569) (by decide +kernel), List.mem_of_getElem? (i := 745) (by decide +kernel), List.mem_of_getElem? (i := 746) (by decide +kernel)⟩
theorem lw_p35 : lw_okq (⟨"DeskStackModel", "begin", "(II)V"⟩, 21) := ⟨⟨by decide +kernel, by decide +kernel⟩, List.mem_of_getElem? (i := 569) (by decide +kernel), List.mem_of_getElem? (i := 749) (by decide +kernel), List.mem_of_getElem? (i := 750) (by decide +kernel)⟩
theorem lw_p36 : lw_okq (⟨"DeskStackModel", "runs", "(I)Z"⟩, 21) := ⟨⟨by decide +kernel, by decide +kernel⟩, List.mem_of_getElem? (i := 569) (by decide +kernel), List.mem_of_getElem? (i := 753) (by decide +kernel), List.mem_of_getElem? (i := 754) (by decide +kernel)⟩
theorem lw_p37 : lw_okq (⟨"DeskStackModel", "calculates", "(I)Z"⟩, 21) := ⟨⟨by decide +kernel, by decide +kernel⟩, List.mem_of_getElem? (i := 569) (by decide +kernel), List.mem_of_getElem? (i := 757) (by decide +kernel), List.mem_of_getElem? (i := 758) (by decide +kernel)⟩
theorem lw_p38 : lw_okq (⟨"DeskStackModel", "sum", "(Z)Z"⟩, 21) := ⟨⟨by decide +kernel, by decide +kernel⟩, List.mem_of_getElem? (i := 569) (by decide +kernel), List.mem_of_getElem? (i := 761) (by decide +kernel), List.mem_of_getElem? (i := 762) (by decide +kernel)⟩
theorem lw_p39 : lw_okq (⟨"DeskStackModel", "times", "()Z"⟩, 21) := ⟨⟨by decide +kernel, by decide +kernel⟩, List.mem_of_getElem? (i := 569) (by decide +kernel), List.mem_of_getElem? (i := 770) (by decide +kernel), List.mem_of_getElem? (i := 771) (by decide +kernel)⟩
theorem lw_p40 : lw_okq (⟨"DeskStackModel", "product", "(JJ)J"⟩, 21) := ⟨⟨by decide +kernel, by decide +kernel⟩, List.mem_of_getElem? (i := 569) (by decide +kernel), List.mem_of_getElem? (i := 774) (by decide +kernel), List.mem_of_getElem? (i := 775) (by decide +kernel)⟩
theorem lw_p41 : lw_okq (⟨"DeskStackModel", "quotient", "()Z"⟩, 21) := ⟨⟨by decide +kernel, by decide +kernel⟩, List.mem_of_getElem? (i := 569) (by decide +kernel), List.mem_of_getElem? (i := 781) (by decide +kernel), List.mem_of_getElem? (i := 782) (by decide +kernel)⟩
theorem lw_p42 : lw_okq (⟨"DeskStackModel", "rest", "()Z"⟩, 21) := ⟨⟨by decide +kernel, by decide +kernel⟩, List.mem_of_getElem? (i := 569) (by decide +kernel), List.mem_of_getElem? (i := 785) (by decide +kernel), List.mem_of_getElem? (i := 786) (by decide +kernel)⟩
theorem lw_p43 : lw_okq (⟨"DeskStackModel", "root", "()Z"⟩, 21) := ⟨⟨by decide +kernel, by decide +kernel⟩, List.mem_of_getElem? (i := 569) (by decide +kernel), List.mem_of_getElem? (i := 789) (by decide +kernel), List.mem_of_getElem? (i := 790) (by decide +kernel)⟩
theorem lw_p44 : lw_okq (⟨"DeskStackModel", "moves", "(I)Z"⟩, 21) := ⟨⟨by decide +kernel, by decide +kernel⟩, List.mem_of_getElem? (i := 569) (by decide +kernel), List.mem_of_getElem? (i := 796) (by decide +kernel), List.mem_of_getElem? (i := 797) (by decide +kernel)⟩
def lw_privs_3 : List (MethodName × Nat) := [(⟨"DeskStackModel", "raised", "(JI)J"⟩, 21), (⟨"DeskStackModel", "mayRun", "(I)Z"⟩, 21), (⟨"DeskStackModel", "isDone", "(I)Z"⟩, 21), (⟨"DeskStackModel", "begin", "(II)V"⟩, 21), (⟨"DeskStackModel", "runs", "(I)Z"⟩, 21), (⟨"DeskStackModel", "calculates", "(I)Z"⟩, 21), (⟨"DeskStackModel", "sum", "(Z)Z"⟩, 21), (⟨"DeskStackModel", "times", "()Z"⟩, 21), (⟨"DeskStackModel", "product", "(JJ)J"⟩, 21), (⟨"DeskStackModel", "quotient", "()Z"⟩, 21), (⟨"DeskStackModel", "rest", "()Z"⟩, 21), (⟨"DeskStackModel", "root", "()Z"⟩, 21), (⟨"DeskStackModel", "moves", "(I)Z"⟩, 21)]
theorem lw_r3 : ∀ q ∈ lw_privs_3, lw_okq q := List.forall_mem_cons.mpr ⟨lw_p32, List.forall_mem_cons.mpr ⟨lw_p33, List.forall_mem_cons.mpr ⟨lw_p34, List.forall_mem_cons.mpr ⟨lw_p35, List.forall_mem_cons.mpr ⟨lw_p36, List.forall_mem_cons.mpr ⟨lw_p37, List.forall_mem_cons.mpr ⟨lw_p38, List.forall_mem_cons.mpr ⟨lw_p39, List.forall_mem_cons.mpr ⟨lw_p40, List.forall_mem_cons.mpr ⟨lw_p41, List.forall_mem_cons.mpr ⟨lw_p42, List.forall_mem_cons.mpr ⟨lw_p43, List.forall_mem_cons.mpr ⟨lw_p44, fun _ h => absurd h List.not_mem_nil⟩⟩⟩⟩⟩⟩⟩⟩⟩⟩⟩⟩⟩
def lw_privs : List (MethodName × Nat) := lw_privs_1 ++ (lw_privs_2 ++ (lw_privs_3))
def lw_tbl : List Cond := k2_sels lw_privs ++ tables_1
theorem lw_privs_ok : ∀ q ∈ lw_privs, lw_okq q := by
  show ∀ q ∈ lw_privs_1 ++ (lw_privs_2 ++ (lw_privs_3)), lw_okq q
  exact List.forall_mem_append.mpr ⟨lw_r1, List.forall_mem_append.mpr ⟨lw_r2, lw_r3⟩⟩
end
section
/-! ===== BEGIN words of one list among another's, by their places ===== -/
theorem goodIn_r {big : List Cond} (ws : List Cond) (ps : List Nat) (hp : ws = ps.filterMap (fun i => big[i]?)) (h : ws.all goodWord = true) : GoodIn big ws := by
  intro w hw
  have h1 := List.all_eq_true.mp h w hw
  rw [hp] at hw
  obtain ⟨i, -, hi⟩ := List.mem_filterMap.mp hw
  have hm : w ∈ big := by first | exact List.mem_of_getElem? hi | exact List.getElem?_mem hi
  exact ⟨hm, good_of_word h1⟩
theorem goodIn_app {big a b : List Cond} (ha : GoodIn big a) (hb : GoodIn big b) : GoodIn big (a ++ b) := fun w h => (List.mem_append.mp h).elim (ha w) (hb w)
theorem goodIn_ca {big a b : List Cond} {c : Cond} (ha : GoodIn big (c :: a)) (hb : GoodIn big b) : GoodIn big (c :: (a ++ b)) := fun w h => (List.mem_cons.mp h).elim (fun e => ha w (List.mem_cons.mpr (Or.inl e))) (fun h => (List.mem_append.mp h).elim (fun h => ha w (List.mem_cons.mpr (Or.inr h))) (hb w))
theorem goodIn_sub {big ws : List Cond} (hm : ∀ w ∈ ws, w ∈ big) (h : ws.all goodWord = true) : GoodIn big ws := fun w hw => ⟨hm w hw, good_of_word (List.all_eq_true.mp h w hw)⟩
/-! ===== END ===== -/

/-! ===== BEGIN exceptions that leave a method, and their catching by the caller (launches without stack traces) ===== -/
section VXA
/-! The laws vx_back, vx_callV, vx_callS, vx_callSW, vx_throw0, vx_throwS follow proofs of the library, with one case more: JvmDerived/Free/Laws.lean (Back.of_free), Shelf42/LK1.lean (callV, callS), Shelf/KitTraced.lean (throwNew0V, throwNewS). -/

/-- where a method has thrown q: the class by its name, the cell, what was written, the world -/
def vx_T (XC : String → State → State → Prop) (st : State) (q : Addr) (t : State) (mc ms : Nat) (free : Addr → Prop) : Prop :=
  ∃ (E : String) (ce : Cell) (L : List Loc), XC E st t ∧ t.heap[q]? = some ce ∧ ce.vm = .none ∧ st.vm.findClass E = some ce.cls ∧ st.WarmedH t.vm ∧ st.sameButNew ({ t with vm := st.vm } : State) L mc ms ∧ ∀ z ∈ L, free z.base
def vx_Q (Qc : Array Value → State → Outcome → State → Prop) (XC : String → State → State → Prop) (mc ms : Nat) (free : Addr → Prop) : Array Value → State → Outcome → State → Prop := fun a st o t =>
  (Qc a st o t ∧ ∃ L, FrameEnd st o t L mc ms ∧ ∀ q ∈ L, free q.base) ∨ ∃ q, o = .threw q ∧ vx_T XC st q t mc ms free
/-- a callee that returns or throws -/
def vx_Met (l : Launch) (y : MethodName) (ws : List Cond) (rm : Room) (Pc : Array Value → State → Prop) (Qc : Array Value → State → Outcome → State → Prop) (XC : String → State → State → Prop) (mc ms : Nat) (free : Addr → Prop) : Prop :=
  MetFree l y (headSpec ws rm) Pc (fun _ _ _ _ _ => True) (vx_Q Qc XC mc ms free)
def vx_Post (XC : String → State → State → Prop) (mc ms : Nat) (free : Addr → Prop) : Pt → Array Value → Addr → Pt → Prop := fun A a q B =>
  ∃ (g : JFrame) (mk : MethodId) (t : State) (L : List Loc) (E : String) (ce : Cell), B.U.heap = t.heap ∧ B.U.vm = t.vm ∧ XC E (A.U.calling g mk a) t ∧ t.heap[q]? = some ce ∧ ce.vm = .none ∧ A.U.vm.findClass E = some ce.cls ∧ B.locs = A.locs ++ L ∧ (∀ z ∈ L, free z.base) ∧ B.cells = A.cells + mc ∧ B.slots = A.slots + ms
def vx_Back (l : Launch) (R : Room) (p : Program) (e : Env) (below : List Frame) (s : State) (sargs : Array Value) (y : MethodName) (len W9 : Nat)
    (Pre : Pt → Array Value → Prop) (Post : Pt → Array Value → Option Value → Pt → Prop) (PostX : Pt → Array Value → Addr → Pt → Prop) : Prop :=
  ∀ (m : MethodId) (meth : Method) (c : Code) (A : Pt) (g : JFrame) (ig : Instr) (mk : MethodId) (a : Array Value),
    Stand p l e R s m sargs below meth c A.U A.locs A.cells A.slots → g.method = m → g.locals.size = c.maxLocals → decode c.code g.pc = .ok (ig, len) →
    2 * g.monitorRoom + (g.stack.map fun v => v.category).sum ≤ W9 → A.U.methodNamed? y = some mk → Pre A a →
    (∃ (v : Option Value) (B : Pt), Stand p l e R s m sargs below meth c B.U B.locs B.cells B.slots ∧ Post A a v B ∧
      Steps p.tables e below (doInvoke e (A.U.setTop g) [] mk a).1 (B.U.setTop { g with pc := g.pc + len, stack := v.toList ++ g.stack })) ∨
    (∃ (q : Addr) (B : Pt), Stand p l e R s m sargs below meth c B.U B.locs B.cells B.slots ∧ PostX A a q B ∧
      Steps p.tables e below (doInvoke e (A.U.setTop g) [] mk a).1 ((B.U.setTop g).pushFrame (.throwing q)))
section Payer
variable {l : Launch} {R : Room} {p : Program} {e : Env} {below : List Frame} {s : State} {sargs : Array Value} {y : MethodName} {len W9 : Nat}
theorem vx_back {ws : List Cond} {rm : Room} {Pc : Array Value → State → Prop} {Qc : Array Value → State → Outcome → State → Prop} {XC : String → State → State → Prop} {mc ms : Nat} {free : Addr → Prop} {bytes : ByteArray} {maxL : Nat} {ret : Option FieldType}
    (hM : vx_Met l y ws rm Pc Qc XC mc ms free) (hblind : FrameBlind Pc) (hrc : rm.cells = mc) (hrs : rm.slots = ms)
    (hframes : rm.frames + 1 ≤ R.frames) (hlocals : W9 + (maxL + 11) + rm.locals ≤ R.locals)
    (hws : ∀ w ∈ ws, ∀ a' U, s.WarmedH U.vm → w.before a' U = true) (hcode : Cond.code y bytes maxL ret ∈ ws) (hinit : ∀ a' U, s.WarmedH U.vm → (Cond.initialized y.cls).before a' U = true) :
    vx_Back l R p e below s sargs y len W9 (PreOf R mc ms Pc) (PostOf Qc mc ms free) (vx_Post XC mc ms free) := by
  intro m meth c A g ig mk a X hg hsize hdg hW hn hp
  have h1 : (headSpec ws rm).pre.before a A.U = true := atoms_intro fun w hw => hws w hw _ _ X.warmed
  have h2 : (Cond.code y bytes maxL ret).before a A.U = true := hws _ hcode _ _ X.warmed
  have h3 : (Cond.initialized y.cls).before a A.U = true := hinit _ _ X.warmed
  have h4 : A.cells + (headSpec ws rm).room.cells ≤ R.cells := by rw [show (headSpec ws rm).room.cells = mc from hrc]; exact hp.1
  have h5 : A.slots + (headSpec ws rm).room.slots ≤ R.slots := by rw [show (headSpec ws rm).room.slots = ms from hrs]; exact hp.2.1
  have hPc : Pc a (A.U.calling g mk a) := hblind _ _ _ _ hp.2.2
  obtain ⟨U, Ls, c0, s0⟩ := A
  dsimp only [Pt.U, Pt.locs, Pt.cells, Pt.slots] at h1 h2 h3 h4 h5 X hn hPc ⊢
  obtain ⟨methY, cY, hmY, hcY, -, hlY, -, -, -, -⟩ := Cond.code_spec hn h2
  obtain ⟨kY, hkY, -⟩ := className_of_methodNamed hn
  have hinitY : kY.init = .initialized := Cond.initialized_spec (findClass_of_methodNamed hn) hkY h3
  have h : At U g.method c below := by rw [hg]; exact X.here
  have hlocals9 : W9 + (maxL + 11) + (headSpec ws rm).room.locals ≤ R.locals := hlocals
  have happ : (headSpec ws rm).appliesLoose y e.platform (U.calling g mk a) = true :=
    Spec.appliesLoose_calling (g := g) h hdg hn hkY hinitY
      (X.room_calling (g := g) (R' := (headSpec ws rm).room) hsize hmY hcY hframes (by rw [hlY]; omega) h4 h5) h1
  obtain ⟨mid, hmid⟩ := h.above
  have hfr : (U.setTop g).frames = (.java g :: mid) ++ below := by rw [State.frames_setTop' g h.top, hmid]; rfl
  obtain ⟨o, s₂, hsteps, -, hend, hq⟩ := Steps.callFree hM p X.admits X.cas X.clock (acts := []) hfr happ hPc trivial
  have hq' : vx_Q Qc XC mc ms free a (U.calling g mk a) o s₂ := hq
  rw [State.frames_setTop' g h.top] at hend
  obtain ⟨g₀, hg0⟩ := Option.isSome_iff_exists.mp h.top
  obtain ⟨r, hr⟩ := State.topJava?_eq_some.mp hg0
  have hr' : (({ U with heap := s₂.heap, slotsUsed := s₂.slotsUsed } : State).setVm s₂.vm).frames = .java g₀ :: r := hr
  rcases hq' with ⟨hqc, L, hfe, hL⟩ | ⟨q, rfl, E, ce, L, hx, hce, hcv, hcl, hW₂, hsm, hL⟩
  · obtain ⟨⟨v, rfl⟩, hW₂, e2, q2, q3, q4, q5, q6⟩ := id hfe
    have e3 : s₂ = ({ (U.calling g mk a).setFrames s₂.frames with heap := s₂.heap, slotsUsed := s₂.slotsUsed } : State).setVm s₂.vm := by
      have : s₂ = ({ s₂ with vm := (U.calling g mk a).vm } : State).setVm s₂.vm := rfl
      rw [e2] at this
      exact this
    obtain ⟨c₂, i₂, len₂, hc₂, hd₂, hf₂⟩ := hend
    have hW' : U.WarmedH s₂.vm := hW₂
    have hcc : c₂ = c := by
      have h1 : s₂.code? g.method = U.code? g.method := by
        rw [State.code?_eq, State.code?_eq, hW'.alike.method?]
      exact Option.some.inj (hc₂.symm.trans (h1.trans h.code))
    subst hcc
    have hlen : len₂ = len := by rw [hdg] at hd₂; cases hd₂; rfl
    subst hlen
    have hs₂ : s₂ = (({ U with heap := s₂.heap, slotsUsed := s₂.slotsUsed } : State).setVm s₂.vm).setTop { g with pc := g.pc + len₂, stack := v.toList ++ g.stack } := by
      refine e3.trans ?_
      rw [hf₂, State.calling_eq h.top, State.setFrames_setFrames, State.setTop_of_frames _ hr', hr]
      rfl
    have hsame : U.sameButNew ({ U with heap := s₂.heap, slotsUsed := s₂.slotsUsed } : State) L mc ms := by
      refine ⟨?_, q2, q3, q4, q5, q6⟩
      obtain ⟨t, ht, -⟩ := State.frames_cons hr
      show ({ U with heap := s₂.heap, slotsUsed := s₂.slotsUsed } : State) = { U.setFrames U.frames with heap := s₂.heap, slotsUsed := s₂.slotsUsed }
      rw [State.setFrames_self ht]
    subst hg
    refine Or.inl ⟨v, ⟨(({ U with heap := s₂.heap, slotsUsed := s₂.slotsUsed } : State).setVm s₂.vm), Ls ++ L, c0 + mc, s0 + ms⟩,
      ⟨X.admits, X.cas, X.clock, X.frames, X.room, X.hears, X.method, X.code, (X.here.setHeapUsed s₂.heap s₂.slotsUsed).setVm hW'.alike, X.tail, State.WarmedH.trans X.warmed hW', X.limits, X.bytes, X.same.trans (hsame.setVm s.vm)⟩,
      ⟨g, mk, s₂, L, rfl, rfl, hqc, rfl, hL, rfl, rfl⟩, ?_⟩
    show Steps p.tables e below _ ((({ U with heap := s₂.heap, slotsUsed := s₂.slotsUsed } : State).setVm s₂.vm).setTop { g with pc := g.pc + len₂, stack := v.toList ++ g.stack })
    rw [← hs₂]
    exact hsteps
  · obtain ⟨e2, q2, q3, q4, q5, q6⟩ := id hsm
    have e3 : s₂ = ({ (U.calling g mk a).setFrames s₂.frames with heap := s₂.heap, slotsUsed := s₂.slotsUsed } : State).setVm s₂.vm := by
      have : s₂ = ({ s₂ with vm := (U.calling g mk a).vm } : State).setVm s₂.vm := rfl
      rw [e2] at this
      exact this
    have hf₂ : s₂.frames = .throwing q :: .java g :: U.frames.tail := hend
    have hW' : U.WarmedH s₂.vm := hW₂
    have hs₂ : s₂ = ((({ U with heap := s₂.heap, slotsUsed := s₂.slotsUsed } : State).setVm s₂.vm).setTop g).pushFrame (.throwing q) := by
      refine e3.trans ?_
      rw [hf₂, State.calling_eq h.top, State.setFrames_setFrames, State.pushFrame, State.frames_setTop _ hr', State.setTop_of_frames _ hr', State.setFrames_setFrames, hr]
      rfl
    have hsame : U.sameButNew ({ U with heap := s₂.heap, slotsUsed := s₂.slotsUsed } : State) L mc ms := by
      refine ⟨?_, q2, q3, q4, q5, q6⟩
      obtain ⟨t, ht, -⟩ := State.frames_cons hr
      show ({ U with heap := s₂.heap, slotsUsed := s₂.slotsUsed } : State) = { U.setFrames U.frames with heap := s₂.heap, slotsUsed := s₂.slotsUsed }
      rw [State.setFrames_self ht]
    subst hg
    refine Or.inr ⟨q, ⟨(({ U with heap := s₂.heap, slotsUsed := s₂.slotsUsed } : State).setVm s₂.vm), Ls ++ L, c0 + mc, s0 + ms⟩,
      ⟨X.admits, X.cas, X.clock, X.frames, X.room, X.hears, X.method, X.code, (X.here.setHeapUsed s₂.heap s₂.slotsUsed).setVm hW'.alike, X.tail, State.WarmedH.trans X.warmed hW', X.limits, X.bytes, X.same.trans (hsame.setVm s.vm)⟩,
      ⟨g, mk, s₂, L, E, ce, rfl, rfl, hx, hce, hcv, hcl, rfl, hL, rfl, rfl⟩, ?_⟩
    show Steps p.tables e below _ (((({ U with heap := s₂.heap, slotsUsed := s₂.slotsUsed } : State).setVm s₂.vm).setTop g).pushFrame (.throwing q))
    rw [← hs₂]
    exact hsteps
end Payer
section Calls
variable {p : Program} {l : Launch} {e : Env} {R : Room} {s : State} {m : MethodId} {args : Array Value} {below : List Frame} {meth : Method} {c : Code} {T : State} {locs : List Loc} {cells slots : Nat}
theorem vx_callV (X : Stand p l e R s m args below meth c T locs cells slots) (hexec : p.tables.exec = Jvm.exec) {own C : String} {index : Nat} {y : MethodName} {bytes : ByteArray} {maxL : Nat} {ret : Option FieldType}
    (hown : s.vm.findClass own = some m.cls) (hlink : (Cond.methodLink own index y).before args s = true) (hinst : (Cond.instanceMethod y).before args s = true) (hsel : (Cond.selects C y y).before args s = true)
    (hcode : (Cond.code y bytes maxL ret).before args s = true) (hy : y.cls ≠ "java/lang/invoke/MethodHandle" ∧ y.cls ≠ "java/lang/invoke/VarHandle")
    {W9 : Nat} {Pre : Pt → Array Value → Prop} {Post : Pt → Array Value → Option Value → Pt → Prop} {PostX : Pt → Array Value → Addr → Pt → Prop} (hK : vx_Back l R p e below s args y 3 W9 Pre Post PostX)
    {b : Addr} {cellB : Cell} (hcell : T.heap[b]? = some cellB) (hobj : cellB.vm.isStatics = false) (hcls : s.vm.findClass C = some cellB.cls)
    {g : JFrame} (hg : g.method = m) (hsize : g.locals.size = c.maxLocals) {argsL rest : List Value} (hlen : ∀ sig, parseMethodDescriptor y.desc = some sig → argsL.length = sig.parameters.length)
    (hstack : g.stack = argsL.reverse ++ .ref b :: rest) (hW : 2 * g.monitorRoom + (rest.map fun v => v.category).sum ≤ W9) (hdg : decode c.code g.pc = .ok (.invokevirtual index, 3))
    (hpre : ∀ vm₁, s.WarmedH vm₁ → Pre ⟨T.setVm vm₁, locs, cells, slots⟩ (Value.ref b :: argsL).toArray) :
    (∃ (v : Option Value) (vm₁ : Vm) (B : Pt), s.WarmedH vm₁ ∧ Stand p l e R s m args below meth c B.U B.locs B.cells B.slots ∧ Post ⟨T.setVm vm₁, locs, cells, slots⟩ (Value.ref b :: argsL).toArray v B ∧
      ∀ target, Steps p.tables e below (B.U.setTop { g with pc := g.pc + 3, stack := v.toList ++ rest }) target → Steps p.tables e below (T.setTop g) target) ∨
    (∃ (q : Addr) (vm₁ : Vm) (B : Pt), s.WarmedH vm₁ ∧ Stand p l e R s m args below meth c B.U B.locs B.cells B.slots ∧ PostX ⟨T.setVm vm₁, locs, cells, slots⟩ (Value.ref b :: argsL).toArray q B ∧
      Steps p.tables e below (T.setTop g) ((B.U.setTop { g with stack := rest }).pushFrame (.throwing q))) := by
  obtain ⟨mk, methM, hnamed, hmethM, hstM, habM⟩ := Cond.instanceMethod_spec hinst
  obtain ⟨methM', cM, hmethM', -, -, -, -, -, -, hsigM⟩ := Cond.code_spec hnamed hcode
  cases hmethM.symm.trans hmethM'
  obtain ⟨c2, r2, m2, q1, q2, q3, q4, kP, hkP, hkPi⟩ := Cond.selects_spec hsel
  cases hcls.symm.trans q1
  cases (State.methodFound?_of_named hnamed hy).symm.trans q2
  cases hnamed.symm.trans q3
  have hselP : selectMethod e.platform s.vm cellB.cls mk = .method mk := by rw [Launch.admits_selectMethod X.admits]; exact q4
  obtain ⟨vm₁, X₁, hstep₁⟩ := X.invokevirtual hexec hown hlink hnamed hmethM hstM hkP hkPi hy (a := b) (cell := cellB) hcell
    (fun z h => by rw [h] at hobj; cases hobj) hselP hmethM habM hkP hkPi (g := g) hg (argsL := argsL) (rest := rest) (hlen _ hsigM) hstack hdg
  rcases hK m meth c ⟨T.setVm vm₁, locs, cells, slots⟩ { g with stack := rest } (.invokevirtual index) mk (Value.ref b :: argsL).toArray X₁ hg hsize hdg hW (X₁.named hnamed) (hpre vm₁ X₁.warmed) with ⟨v, B, X', hpost, hsteps⟩ | ⟨q, B, X', hpost, hsteps⟩
  · exact Or.inl ⟨v, vm₁, B, X₁.warmed, X', hpost, fun target h => hstep₁ _ fun acts => by rw [doInvoke_state]; exact hsteps.trans h⟩
  · exact Or.inr ⟨q, vm₁, B, X₁.warmed, X', hpost, hstep₁ _ fun acts => by rw [doInvoke_state]; exact hsteps⟩
theorem vx_callS (X : Stand p l e R s m args below meth c T locs cells slots) (hexec : p.tables.exec = Jvm.exec) {own : String} {index : Nat} {y : MethodName} {bytes : ByteArray} {maxL : Nat} {ret : Option FieldType}
    (hown : s.vm.findClass own = some m.cls) (hlink : (Cond.methodLink own index y).before args s = true) (hstat : (Cond.static y).before args s = true) (hinit : (Cond.initialized y.cls).before args s = true)
    (hcode : (Cond.code y bytes maxL ret).before args s = true) (hy : y.cls ≠ "java/lang/invoke/MethodHandle" ∧ y.cls ≠ "java/lang/invoke/VarHandle")
    {W9 : Nat} {Pre : Pt → Array Value → Prop} {Post : Pt → Array Value → Option Value → Pt → Prop} {PostX : Pt → Array Value → Addr → Pt → Prop} (hK : vx_Back l R p e below s args y 3 W9 Pre Post PostX)
    {g : JFrame} (hg : g.method = m) (hsize : g.locals.size = c.maxLocals) {argsL rest : List Value} (hlen : ∀ sig, parseMethodDescriptor y.desc = some sig → argsL.length = sig.parameters.length)
    (hstack : g.stack = argsL.reverse ++ rest) (hW : 2 * g.monitorRoom + (rest.map fun v => v.category).sum ≤ W9) (hdg : decode c.code g.pc = .ok (.invokestatic index, 3))
    (hpre : ∀ vm₁, s.WarmedH vm₁ → Pre ⟨T.setVm vm₁, locs, cells, slots⟩ argsL.toArray) :
    (∃ (v : Option Value) (vm₁ : Vm) (B : Pt), s.WarmedH vm₁ ∧ Stand p l e R s m args below meth c B.U B.locs B.cells B.slots ∧ Post ⟨T.setVm vm₁, locs, cells, slots⟩ argsL.toArray v B ∧
      ∀ target, Steps p.tables e below (B.U.setTop { g with pc := g.pc + 3, stack := v.toList ++ rest }) target → Steps p.tables e below (T.setTop g) target) ∨
    (∃ (q : Addr) (vm₁ : Vm) (B : Pt), s.WarmedH vm₁ ∧ Stand p l e R s m args below meth c B.U B.locs B.cells B.slots ∧ PostX ⟨T.setVm vm₁, locs, cells, slots⟩ argsL.toArray q B ∧
      Steps p.tables e below (T.setTop g) ((B.U.setTop { g with stack := rest }).pushFrame (.throwing q))) := by
  obtain ⟨mk, hnamed⟩ := Cond.code_named hcode
  obtain ⟨methM, cM, hmethM, -, -, -, -, -, -, hsigM⟩ := Cond.code_spec hnamed hcode
  have hstatic : methM.isStatic = true := Cond.static_spec hnamed hmethM hstat
  obtain ⟨kP, hkP, -⟩ := className_of_methodNamed hnamed
  have hinitP : kP.init = .initialized := Cond.initialized_spec (findClass_of_methodNamed hnamed) hkP hinit
  obtain ⟨vm₁, X₁, hstep₁⟩ := X.invokestatic hexec hown hlink hnamed hmethM hstatic hkP hinitP hy (g := g) hg (argsL := argsL) (rest := rest) (hlen _ hsigM) hstack hdg
  rcases hK m meth c ⟨T.setVm vm₁, locs, cells, slots⟩ { g with stack := rest } (.invokestatic index) mk argsL.toArray X₁ hg hsize hdg hW (X₁.named hnamed) (hpre vm₁ X₁.warmed) with ⟨v, B, X', hpost, hsteps⟩ | ⟨q, B, X', hpost, hsteps⟩
  · exact Or.inl ⟨v, vm₁, B, X₁.warmed, X', hpost, fun target h => hstep₁ _ fun acts => by rw [doInvoke_state]; exact hsteps.trans h⟩
  · exact Or.inr ⟨q, vm₁, B, X₁.warmed, X', hpost, hstep₁ _ fun acts => by rw [doInvoke_state]; exact hsteps⟩
end Calls
theorem vx_cls {s : State} {T : State} {vm₁ : Vm} {E : String} {k : ClassId} (hW : s.WarmedH vm₁) (h : (T.setVm vm₁).vm.findClass E = some k) : s.vm.findClass E = some k := by
  have h1 : vm₁.findClass E = some k := h
  rw [hW.alike.findClass] at h1
  exact h1
/-- the method's frame g, with q thrown over it -/
def vx_W (p : Program) (l : Launch) (e : Env) (R : Room) (s : State) (m : MethodId) (args : Array Value) (below : List Frame) (meth : Method) (c : Code) (H : Heap) (locs : List Loc) (cells slots : Nat) (Q : State → Prop) (g : JFrame) (q : Addr) : Prop :=
  ∀ T : State, T.heap = H → Stand p l e R s m args below meth c T locs cells slots → ∃ t, Steps p.tables e below ((T.setTop g).pushFrame (.throwing q)) t ∧ Q t
def vx_Run (p : Program) (l : Launch) (e : Env) (R : Room) (s : State) (m : MethodId) (args : Array Value) (below : List Frame) (meth : Method) (c : Code) (H : Heap) (locs : List Loc) (cells slots mc ms : Nat) (g : JFrame) (rest : List Value) (Qa : State → Outcome → State → Prop) (XC : String → State → State → Prop) (free : Addr → Prop) : Prop :=
  ∀ T : State, T.heap = H → Stand p l e R s m args below meth c T locs cells slots →
    (∃ (v : Option Value) (st₀ t T' : State) (L : List Loc), st₀.heap = H ∧ Stand p l e R s m args below meth c T' (locs ++ L) (cells + mc) (slots + ms) ∧ (∀ q ∈ L, free q.base) ∧ T'.heap = t.heap ∧ T'.vm = t.vm ∧ Qa st₀ (.returned v) t ∧
      Goes p e below T g T' { g with pc := g.pc + 3, stack := v.toList ++ rest }) ∨
    (∃ (q : Addr) (st₀ t T' : State) (L : List Loc) (E : String) (ce : Cell), st₀.heap = H ∧ Stand p l e R s m args below meth c T' (locs ++ L) (cells + mc) (slots + ms) ∧ (∀ z ∈ L, free z.base) ∧ T'.heap = t.heap ∧ T'.vm = t.vm ∧ XC E st₀ t ∧ t.heap[q]? = some ce ∧ ce.vm = .none ∧ s.vm.findClass E = some ce.cls ∧
      Steps p.tables e below (T.setTop g) ((T'.setTop { g with stack := rest }).pushFrame (.throwing q)))
def vx_X {S : Type} (px : S → Prop) (B : String → S → State → Prop) (A : Nat → Prop) : String → State → State → Prop := fun E st t => ∃ u : S, px u ∧ B E u t ∧ va_F A st t
section Runs
variable {p : Program} {l : Launch} {e : Env} {R : Room} {s : State} {m : MethodId} {args : Array Value} {below : List Frame} {meth : Method} {c : Code} {H : Heap} {locs : List Loc} {cells slots : Nat}
variable {y : MethodName} {bytes cc : ByteArray} {maxL nL mc ms n index : Nat} {ret : Option FieldType} {ws : List Cond} {rm : Room} {Pc : Array Value → State → Prop} {Qc : Array Value → State → Outcome → State → Prop} {XC : String → State → State → Prop} {free : Addr → Prop} {Ts : List Cond} {own C : String} {b : Addr} {As rest : List Value} {g : JFrame}
theorem vx_callBack (cb : CallB R s args own index y bytes maxL ret ws rm mc ms n) (hM : vx_Met l y ws rm Pc Qc XC mc ms free) (hbl : FrameBlind Pc) : vx_Back l R p e below s args y 3 8 (PreOf R mc ms Pc) (PostOf Qc mc ms free) (vx_Post XC mc ms free) := by
  obtain ⟨hrc, hrs, hfr, hlo, hws, hcw, -, hini, -⟩ := cb
  exact vx_back (bytes := bytes) (maxL := maxL) (ret := ret) hM hbl hrc hrs hfr hlo hws hcw (fun a' U hW => word_at hW (Or.inl (by first | rfl | simp [Cond.onTables, Cond.keeps, Cond.steady])) hini)
theorem vx_runV (S : CallFix p m c cc nL s args Ts own) (hM : vx_Met l y ws rm Pc Qc XC mc ms free) (cw : CallW R s args own C index y bytes maxL ret ws rm mc ms n) (hp : PreV s H C b Pc As)
    (hg : g.method = m) (hn : As.length = n) (hsize : g.locals.size = nL) (hstack : g.stack = As.reverse ++ .ref b :: rest) (hW : 2 * g.monitorRoom + (rest.map fun v => v.category).sum ≤ 8) (hdg : decode cc g.pc = .ok (.invokevirtual index, 3)) (hf : cells + mc ≤ R.cells ∧ slots + ms ≤ R.slots) :
    vx_Run p l e R s m args below meth c H locs cells slots mc ms g rest (Qc (Value.ref b :: As).toArray) XC free := by
  have hK : vx_Back l R p e below s args y 3 8 (PreOf R mc ms Pc) (PostOf Qc mc ms free) (vx_Post XC mc ms free) := vx_callBack cw.1 hM hp.1
  obtain ⟨⟨-, -, -, -, -, -, hcode, -, hy, hlen, hl⟩, hin, hse⟩ := cw
  obtain ⟨hx, hb, hml, ho, -⟩ := S
  obtain ⟨-, ⟨cellB, hcB, hoB, hclB⟩, hPc⟩ := hp
  intro T hT X
  rcases vx_callV X hx (C := C) (bytes := bytes) (maxL := maxL) (ret := ret) ho hl hin hse hcode hy hK (by rw [hT]; exact hcB) hoB hclB hg (hsize.trans hml.symm) (argsL := As) (rest := rest) (fun sig h => hn.trans (hlen sig h)) hstack hW (by rw [hb]; exact hdg)
    (fun vm₁ hW₁ => ⟨hf.1, hf.2, hPc (T.setVm vm₁) hT hW₁⟩) with ⟨v, vm₁, ⟨U', l2, c2, s2⟩, hW₁, X', ⟨g', mk, t, L, e1, e2, hq, h1, hL, h2, h3⟩, st⟩ | ⟨q, vm₁, ⟨U', l2, c2, s2⟩, hW₁, X', ⟨g', mk, t, L, E, ce, e1, e2, hq, hce, hcv, hcl, h1, hL, h2, h3⟩, st⟩
  · dsimp only [Pt.U, Pt.locs, Pt.cells, Pt.slots] at X' e1 e2 h1 h2 h3 st
    subst h1; subst h2; subst h3
    exact Or.inl ⟨v, (T.setVm vm₁).calling g' mk (Value.ref b :: As).toArray, t, U', L, hT, X', hL, e1, e2, hq, st⟩
  · dsimp only [Pt.U, Pt.locs, Pt.cells, Pt.slots] at X' e1 e2 h1 h2 h3 st hcl
    subst h1; subst h2; subst h3
    exact Or.inr ⟨q, (T.setVm vm₁).calling g' mk (Value.ref b :: As).toArray, t, U', L, E, ce, hT, X', hL, e1, e2, hq, hce, hcv, vx_cls hW₁ hcl, st⟩
theorem vx_runS (S : CallFix p m c cc nL s args Ts own) (hM : vx_Met l y ws rm Pc Qc XC mc ms free) (cw : CallB R s args own index y bytes maxL ret ws rm mc ms n ∧ (Cond.static y).before args s = true) (hp : PreS s H Pc As)
    (hg : g.method = m) (hn : As.length = n) (hsize : g.locals.size = nL) (hstack : g.stack = As.reverse ++ rest) (hW : 2 * g.monitorRoom + (rest.map fun v => v.category).sum ≤ 8) (hdg : decode cc g.pc = .ok (.invokestatic index, 3)) (hf : cells + mc ≤ R.cells ∧ slots + ms ≤ R.slots) :
    vx_Run p l e R s m args below meth c H locs cells slots mc ms g rest (Qc As.toArray) XC free := by
  have hK : vx_Back l R p e below s args y 3 8 (PreOf R mc ms Pc) (PostOf Qc mc ms free) (vx_Post XC mc ms free) := vx_callBack cw.1 hM hp.1
  obtain ⟨⟨-, -, -, -, -, -, hcode, hini, hy, hlen, hl⟩, hstt⟩ := cw
  obtain ⟨hx, hb, hml, ho, -⟩ := S
  intro T hT X
  rcases vx_callS X hx (bytes := bytes) (maxL := maxL) (ret := ret) ho hl hstt hini hcode hy hK hg (hsize.trans hml.symm) (argsL := As) (rest := rest) (fun sig h => hn.trans (hlen sig h)) hstack hW (by rw [hb]; exact hdg)
    (fun vm₁ hW₁ => ⟨hf.1, hf.2, hp.2 (T.setVm vm₁) hT hW₁⟩) with ⟨v, vm₁, ⟨U', l2, c2, s2⟩, hW₁, X', ⟨g', mk, t, L, e1, e2, hq, h1, hL, h2, h3⟩, st⟩ | ⟨q, vm₁, ⟨U', l2, c2, s2⟩, hW₁, X', ⟨g', mk, t, L, E, ce, e1, e2, hq, hce, hcv, hcl, h1, hL, h2, h3⟩, st⟩
  · dsimp only [Pt.U, Pt.locs, Pt.cells, Pt.slots] at X' e1 e2 h1 h2 h3 st
    subst h1; subst h2; subst h3
    exact Or.inl ⟨v, (T.setVm vm₁).calling g' mk As.toArray, t, U', L, hT, X', hL, e1, e2, hq, st⟩
  · dsimp only [Pt.U, Pt.locs, Pt.cells, Pt.slots] at X' e1 e2 h1 h2 h3 st hcl
    subst h1; subst h2; subst h3
    exact Or.inr ⟨q, (T.setVm vm₁).calling g' mk As.toArray, t, U', L, E, ce, hT, X', hL, e1, e2, hq, hce, hcv, vx_cls hW₁ hcl, st⟩
end Runs
section Rows
variable {p : Program} {l : Launch} {e : Env} {R : Room} {s : State} {m : MethodId} {args : Array Value} {below : List Frame} {meth : Method} {c : Code} {H : Heap} {locs : List Loc} {cells slots : Nat} {Q : State → Prop}
variable {mc ms : Nat} {free : Addr → Prop} {A0 A1 : Nat → Prop} {H0 : Heap} {a : Array Value} {pc : Nat} {ls : Array Slot} {st0 rest : List Value}
theorem vx_keep {st₀ t T' : State} {L : List Loc} (h0 : st₀.heap = H) (e1 : T'.heap = t.heap) (hS : va_S A0 H0 H locs) (hA : ∀ q, q < H.size → A1 q → A0 q) (hf : ∀ q, free q → A0 q) (hL : ∀ q ∈ L, free q.base) (hF : va_F A1 st₀ t) :
    H.size ≤ T'.heap.size ∧ (∀ q : Nat, q < H.size → ¬ A1 q → T'.heap[q]? = H[q]?) ∧ va_S A0 H0 T'.heap (locs ++ L) := by
  obtain ⟨hz, hk⟩ := hF
  rw [h0] at hz hk
  exact ⟨by rw [e1]; exact hz, fun q h1 h2 => by rw [e1]; exact hk q h1 h2,
    ⟨Nat.le_trans hS.1 (by rw [e1]; exact hz), fun q h1 h2 => by rw [e1, hk q (Nat.lt_of_lt_of_le h1 hS.1) (fun z => h2 (hA q (Nat.lt_of_lt_of_le h1 hS.1) z))]; exact hS.2.1 q h1 h2, fun q hq => by
      rcases List.mem_append.mp hq with h | h
      · exact hS.2.2 q h
      · exact hf _ (hL q h)⟩⟩
theorem vx_calli {S SX : Type} {post : Int32 → S → Prop} {px : SX → Prop} {B : S → State → Prop} {BX : String → SX → State → Prop} {AX : Nat → Prop} (hr : vx_Run p l e R s m args below meth c H locs cells slots mc ms (F0 m pc ls st0) rest (va_Qi post B A1 a) (vx_X px BX AX) free) (hS : va_S A0 H0 H locs) (hA : ∀ q, q < H.size → A1 q → A0 q) (hf : ∀ q, free q → A0 q) (hAX : ∀ q, q < H.size → AX q → A0 q)
    (kx : ∀ (E : String) (ce : Cell) (q9 : Addr) (u : SX) (t : State) (H1 : Heap) (locs1 : List Loc), t.heap = H1 → s.vm.Alike t.vm → px u → BX E u t → H.size ≤ H1.size → (∀ q : Nat, q < H.size → ¬ AX q → H1[q]? = H[q]?) → va_S A0 H0 H1 locs1 → H1[q9]? = some ce → ce.vm = .none → s.vm.findClass E = some ce.cls → vx_W p l e R s m args below meth c H1 locs1 (cells + mc) (slots + ms) Q (F0 m pc ls rest) q9)
    (kk : ∀ (r : Int32) (u : S) (t : State) (H1 : Heap) (locs1 : List Loc), t.heap = H1 → s.vm.Alike t.vm → post r u → B u t → H.size ≤ H1.size → (∀ q : Nat, q < H.size → ¬ A1 q → H1[q]? = H[q]?) → va_S A0 H0 H1 locs1 → W p l e R s m args below meth c H1 locs1 (cells + mc) (slots + ms) Q (F0 m (pc + 3) ls (.int r :: rest))) : W p l e R s m args below meth c H locs cells slots Q (F0 m pc ls st0) := by
  intro T hT X
  rcases hr T hT X with ⟨v, st₀, t, T', L, h0, X', hL, e1, e2, ⟨⟨r, u, hv, hp, hb⟩, hF⟩, st⟩ | ⟨q, st₀, t, T', L, E, ce, h0, X', hL, e1, e2, ⟨u, hp, hb, hF⟩, hce, hcv, hcl, st⟩
  · cases hv
    obtain ⟨k1, k2, k3⟩ := vx_keep h0 e1 hS hA hf hL hF
    obtain ⟨t2, a1, b1⟩ := kk r u t T'.heap (locs ++ L) e1.symm (by rw [← e2]; exact X'.warmed.alike) hp hb k1 k2 k3 T' rfl X'
    exact ⟨t2, st t2 a1, b1⟩
  · obtain ⟨k1, k2, k3⟩ := vx_keep h0 e1 hS hAX hf hL hF
    obtain ⟨t2, a1, b1⟩ := kx E ce q u t T'.heap (locs ++ L) e1.symm (by rw [← e2]; exact X'.warmed.alike) hp hb k1 k2 k3 (by rw [e1]; exact hce) hcv hcl T' rfl X'
    exact ⟨t2, st.trans a1, b1⟩
theorem vx_calll {S SX : Type} {post : Int64 → S → Prop} {px : SX → Prop} {B : S → State → Prop} {BX : String → SX → State → Prop} {AX : Nat → Prop} (hr : vx_Run p l e R s m args below meth c H locs cells slots mc ms (F0 m pc ls st0) rest (va_Ql post B A1 a) (vx_X px BX AX) free) (hS : va_S A0 H0 H locs) (hA : ∀ q, q < H.size → A1 q → A0 q) (hf : ∀ q, free q → A0 q) (hAX : ∀ q, q < H.size → AX q → A0 q)
    (kx : ∀ (E : String) (ce : Cell) (q9 : Addr) (u : SX) (t : State) (H1 : Heap) (locs1 : List Loc), t.heap = H1 → s.vm.Alike t.vm → px u → BX E u t → H.size ≤ H1.size → (∀ q : Nat, q < H.size → ¬ AX q → H1[q]? = H[q]?) → va_S A0 H0 H1 locs1 → H1[q9]? = some ce → ce.vm = .none → s.vm.findClass E = some ce.cls → vx_W p l e R s m args below meth c H1 locs1 (cells + mc) (slots + ms) Q (F0 m pc ls rest) q9)
    (kk : ∀ (r : Int64) (u : S) (t : State) (H1 : Heap) (locs1 : List Loc), t.heap = H1 → s.vm.Alike t.vm → post r u → B u t → H.size ≤ H1.size → (∀ q : Nat, q < H.size → ¬ A1 q → H1[q]? = H[q]?) → va_S A0 H0 H1 locs1 → W p l e R s m args below meth c H1 locs1 (cells + mc) (slots + ms) Q (F0 m (pc + 3) ls (.long r :: rest))) : W p l e R s m args below meth c H locs cells slots Q (F0 m pc ls st0) := by
  intro T hT X
  rcases hr T hT X with ⟨v, st₀, t, T', L, h0, X', hL, e1, e2, ⟨⟨r, u, hv, hp, hb⟩, hF⟩, st⟩ | ⟨q, st₀, t, T', L, E, ce, h0, X', hL, e1, e2, ⟨u, hp, hb, hF⟩, hce, hcv, hcl, st⟩
  · cases hv
    obtain ⟨k1, k2, k3⟩ := vx_keep h0 e1 hS hA hf hL hF
    obtain ⟨t2, a1, b1⟩ := kk r u t T'.heap (locs ++ L) e1.symm (by rw [← e2]; exact X'.warmed.alike) hp hb k1 k2 k3 T' rfl X'
    exact ⟨t2, st t2 a1, b1⟩
  · obtain ⟨k1, k2, k3⟩ := vx_keep h0 e1 hS hAX hf hL hF
    obtain ⟨t2, a1, b1⟩ := kx E ce q u t T'.heap (locs ++ L) e1.symm (by rw [← e2]; exact X'.warmed.alike) hp hb k1 k2 k3 (by rw [e1]; exact hce) hcv hcl T' rfl X'
    exact ⟨t2, st.trans a1, b1⟩
theorem vx_callf {S SX : Type} {post : UInt32 → S → Prop} {px : SX → Prop} {B : S → State → Prop} {BX : String → SX → State → Prop} {AX : Nat → Prop} (hr : vx_Run p l e R s m args below meth c H locs cells slots mc ms (F0 m pc ls st0) rest (va_Qf post B A1 a) (vx_X px BX AX) free) (hS : va_S A0 H0 H locs) (hA : ∀ q, q < H.size → A1 q → A0 q) (hf : ∀ q, free q → A0 q) (hAX : ∀ q, q < H.size → AX q → A0 q)
    (kx : ∀ (E : String) (ce : Cell) (q9 : Addr) (u : SX) (t : State) (H1 : Heap) (locs1 : List Loc), t.heap = H1 → s.vm.Alike t.vm → px u → BX E u t → H.size ≤ H1.size → (∀ q : Nat, q < H.size → ¬ AX q → H1[q]? = H[q]?) → va_S A0 H0 H1 locs1 → H1[q9]? = some ce → ce.vm = .none → s.vm.findClass E = some ce.cls → vx_W p l e R s m args below meth c H1 locs1 (cells + mc) (slots + ms) Q (F0 m pc ls rest) q9)
    (kk : ∀ (r : UInt32) (u : S) (t : State) (H1 : Heap) (locs1 : List Loc), t.heap = H1 → s.vm.Alike t.vm → post r u → B u t → H.size ≤ H1.size → (∀ q : Nat, q < H.size → ¬ A1 q → H1[q]? = H[q]?) → va_S A0 H0 H1 locs1 → W p l e R s m args below meth c H1 locs1 (cells + mc) (slots + ms) Q (F0 m (pc + 3) ls (.float r :: rest))) : W p l e R s m args below meth c H locs cells slots Q (F0 m pc ls st0) := by
  intro T hT X
  rcases hr T hT X with ⟨v, st₀, t, T', L, h0, X', hL, e1, e2, ⟨⟨r, u, hv, hp, hb⟩, hF⟩, st⟩ | ⟨q, st₀, t, T', L, E, ce, h0, X', hL, e1, e2, ⟨u, hp, hb, hF⟩, hce, hcv, hcl, st⟩
  · cases hv
    obtain ⟨k1, k2, k3⟩ := vx_keep h0 e1 hS hA hf hL hF
    obtain ⟨t2, a1, b1⟩ := kk r u t T'.heap (locs ++ L) e1.symm (by rw [← e2]; exact X'.warmed.alike) hp hb k1 k2 k3 T' rfl X'
    exact ⟨t2, st t2 a1, b1⟩
  · obtain ⟨k1, k2, k3⟩ := vx_keep h0 e1 hS hAX hf hL hF
    obtain ⟨t2, a1, b1⟩ := kx E ce q u t T'.heap (locs ++ L) e1.symm (by rw [← e2]; exact X'.warmed.alike) hp hb k1 k2 k3 (by rw [e1]; exact hce) hcv hcl T' rfl X'
    exact ⟨t2, st.trans a1, b1⟩
theorem vx_calld {S SX : Type} {post : UInt64 → S → Prop} {px : SX → Prop} {B : S → State → Prop} {BX : String → SX → State → Prop} {AX : Nat → Prop} (hr : vx_Run p l e R s m args below meth c H locs cells slots mc ms (F0 m pc ls st0) rest (va_Qd post B A1 a) (vx_X px BX AX) free) (hS : va_S A0 H0 H locs) (hA : ∀ q, q < H.size → A1 q → A0 q) (hf : ∀ q, free q → A0 q) (hAX : ∀ q, q < H.size → AX q → A0 q)
    (kx : ∀ (E : String) (ce : Cell) (q9 : Addr) (u : SX) (t : State) (H1 : Heap) (locs1 : List Loc), t.heap = H1 → s.vm.Alike t.vm → px u → BX E u t → H.size ≤ H1.size → (∀ q : Nat, q < H.size → ¬ AX q → H1[q]? = H[q]?) → va_S A0 H0 H1 locs1 → H1[q9]? = some ce → ce.vm = .none → s.vm.findClass E = some ce.cls → vx_W p l e R s m args below meth c H1 locs1 (cells + mc) (slots + ms) Q (F0 m pc ls rest) q9)
    (kk : ∀ (r : UInt64) (u : S) (t : State) (H1 : Heap) (locs1 : List Loc), t.heap = H1 → s.vm.Alike t.vm → post r u → B u t → H.size ≤ H1.size → (∀ q : Nat, q < H.size → ¬ A1 q → H1[q]? = H[q]?) → va_S A0 H0 H1 locs1 → W p l e R s m args below meth c H1 locs1 (cells + mc) (slots + ms) Q (F0 m (pc + 3) ls (.double r :: rest))) : W p l e R s m args below meth c H locs cells slots Q (F0 m pc ls st0) := by
  intro T hT X
  rcases hr T hT X with ⟨v, st₀, t, T', L, h0, X', hL, e1, e2, ⟨⟨r, u, hv, hp, hb⟩, hF⟩, st⟩ | ⟨q, st₀, t, T', L, E, ce, h0, X', hL, e1, e2, ⟨u, hp, hb, hF⟩, hce, hcv, hcl, st⟩
  · cases hv
    obtain ⟨k1, k2, k3⟩ := vx_keep h0 e1 hS hA hf hL hF
    obtain ⟨t2, a1, b1⟩ := kk r u t T'.heap (locs ++ L) e1.symm (by rw [← e2]; exact X'.warmed.alike) hp hb k1 k2 k3 T' rfl X'
    exact ⟨t2, st t2 a1, b1⟩
  · obtain ⟨k1, k2, k3⟩ := vx_keep h0 e1 hS hAX hf hL hF
    obtain ⟨t2, a1, b1⟩ := kx E ce q u t T'.heap (locs ++ L) e1.symm (by rw [← e2]; exact X'.warmed.alike) hp hb k1 k2 k3 (by rw [e1]; exact hce) hcv hcl T' rfl X'
    exact ⟨t2, st.trans a1, b1⟩
theorem vx_callv {S SX : Type} {post : S → Prop} {px : SX → Prop} {B : S → State → Prop} {BX : String → SX → State → Prop} {AX : Nat → Prop} (hr : vx_Run p l e R s m args below meth c H locs cells slots mc ms (F0 m pc ls st0) rest (va_Qv post B A1 a) (vx_X px BX AX) free) (hS : va_S A0 H0 H locs) (hA : ∀ q, q < H.size → A1 q → A0 q) (hf : ∀ q, free q → A0 q) (hAX : ∀ q, q < H.size → AX q → A0 q)
    (kx : ∀ (E : String) (ce : Cell) (q9 : Addr) (u : SX) (t : State) (H1 : Heap) (locs1 : List Loc), t.heap = H1 → s.vm.Alike t.vm → px u → BX E u t → H.size ≤ H1.size → (∀ q : Nat, q < H.size → ¬ AX q → H1[q]? = H[q]?) → va_S A0 H0 H1 locs1 → H1[q9]? = some ce → ce.vm = .none → s.vm.findClass E = some ce.cls → vx_W p l e R s m args below meth c H1 locs1 (cells + mc) (slots + ms) Q (F0 m pc ls rest) q9)
    (kk : ∀ (u : S) (t : State) (H1 : Heap) (locs1 : List Loc), t.heap = H1 → s.vm.Alike t.vm → post u → B u t → H.size ≤ H1.size → (∀ q : Nat, q < H.size → ¬ A1 q → H1[q]? = H[q]?) → va_S A0 H0 H1 locs1 → W p l e R s m args below meth c H1 locs1 (cells + mc) (slots + ms) Q (F0 m (pc + 3) ls (rest))) : W p l e R s m args below meth c H locs cells slots Q (F0 m pc ls st0) := by
  intro T hT X
  rcases hr T hT X with ⟨v, st₀, t, T', L, h0, X', hL, e1, e2, ⟨⟨u, hv, hp, hb⟩, hF⟩, st⟩ | ⟨q, st₀, t, T', L, E, ce, h0, X', hL, e1, e2, ⟨u, hp, hb, hF⟩, hce, hcv, hcl, st⟩
  · cases hv
    obtain ⟨k1, k2, k3⟩ := vx_keep h0 e1 hS hA hf hL hF
    obtain ⟨t2, a1, b1⟩ := kk u t T'.heap (locs ++ L) e1.symm (by rw [← e2]; exact X'.warmed.alike) hp hb k1 k2 k3 T' rfl X'
    exact ⟨t2, st t2 a1, b1⟩
  · obtain ⟨k1, k2, k3⟩ := vx_keep h0 e1 hS hAX hf hL hF
    obtain ⟨t2, a1, b1⟩ := kx E ce q u t T'.heap (locs ++ L) e1.symm (by rw [← e2]; exact X'.warmed.alike) hp hb k1 k2 k3 (by rw [e1]; exact hce) hcv hcl T' rfl X'
    exact ⟨t2, st.trans a1, b1⟩
end Rows
section Ends
variable {p : Program} {l : Launch} {e : Env} {R : Room} {s : State} {m : MethodId} {args : Array Value} {below : List Frame} {meth : Method} {c : Code} {H : Heap} {locs : List Loc} {cells slots : Nat} {Q : State → Prop}
variable {mc ms : Nat} {free : Addr → Prop} {A0 A1 : Nat → Prop} {H0 : Heap} {a : Array Value} {ls : Array Slot} {st0 rest : List Value}
variable {Qc : Array Value → State → Outcome → State → Prop} {XC : String → State → State → Prop}
/-- what a body that may throw owes at its end -/
def vx_MQ (below : List Frame) (Qc : Array Value → State → Outcome → State → Prop) (XC : String → State → State → Prop) (a : Array Value) (s : State) (mc ms : Nat) (free : Addr → Prop) : State → Prop := fun t =>
  ∃ o, t.status = .running ∧ Ended t below o ∧ vx_Q Qc XC mc ms free a s o t
theorem vx_ret {g : JFrame} {mc ms : Nat} (k : W p l e R s m args below meth c H locs cells slots (MQ below Qc args s mc ms free) g) : W p l e R s m args below meth c H locs cells slots (vx_MQ below Qc XC args s mc ms free) g := by
  intro T hT X
  obtain ⟨t, a1, o, b1, b2, b3, b4⟩ := k T hT X
  exact ⟨t, a1, o, b1, b2, Or.inl ⟨b3, b4⟩⟩
/-- not caught here: it goes on to the caller -/
theorem vx_widen {g : JFrame} {q : Addr} {k n : Nat} (h1 : cells ≤ k) (h2 : slots ≤ n) (kk : vx_W p l e R s m args below meth c H locs k n Q g q) : vx_W p l e R s m args below meth c H locs cells slots Q g q := fun T hT X => kk T hT (stand_widen X h1 h2)
theorem vx_out {pc : Nat} {E : String} {ce : Cell} {q : Addr} {mc ms : Nat} (hout : ∀ x ∈ c.exceptionTable.toList, covers x pc = false) (hlocks : meth.locks = false) (hcell : H[q]? = some ce) (hv : ce.vm = .none) (hcl : s.vm.findClass E = some ce.cls)
    (hx : ∀ t : State, t.heap = H → s.vm.Alike t.vm → XC E s t) (hf : ∀ z ∈ locs, free z.base) (hc : cells ≤ mc) (hs : slots ≤ ms) :
    vx_W p l e R s m args below meth c H locs cells slots (vx_MQ below Qc XC args s mc ms free) (F0 m pc ls rest) q := by
  intro T hT X
  obtain ⟨st1, hrun, hend, hW, hsm⟩ := X.leaveThrown q (g := F0 m pc ls rest) rfl rfl rfl hout hlocks
  have hcell9 : (T.setFrames (.throwing q :: below)).heap[q]? = some ce := by
    show T.heap[q]? = some ce
    rw [hT]; exact hcell
  exact ⟨_, st1, .threw q, hrun, hend, Or.inr ⟨q, rfl, E, ce, locs, hx _ hT hW.alike, hcell9, hv, hcl, hW, hsm.mono hc hs, hf⟩⟩
theorem vx_frame {U : State} {k n : Nat} (h : s.sameButNew ({ U with vm := s.vm } : State) locs k n) : s.heap.size ≤ U.heap.size ∧ ∀ q : Nat, q < s.heap.size → (∀ z ∈ locs, z.base ≠ q) → U.heap[q]? = s.heap[q]? := by
  obtain ⟨-, h2, -, -, -, h6⟩ := h
  refine ⟨h2, fun q hq hz => ?_⟩
  obtain ⟨c9, e1, e2, e3, e4⟩ := h6 q _ (Array.getElem?_eq_getElem hq)
  have hs : c9.slots = (s.heap[q]).slots := Array.ext_getElem? fun i => e4 i fun hm => hz _ hm rfl
  have h9 : c9 = s.heap[q] := by
    rw [hs] at e2
    exact e2
  have e5 : U.heap[q]? = some c9 := e1
  rw [e5, h9, Array.getElem?_eq_getElem hq]
/-- the words of a throw but the four that speak of the heap -/
def vx_no (w : Cond) : Bool := decide (w ≠ .isRef (.static Bundle.tN "UNASSIGNED_STACK" Bundle.steD)) && decide (w ≠ .isRef (.static Bundle.tN "SUPPRESSED_SENTINEL" Bundle.listD)) && decide (w ≠ .laysStatic Bundle.tN "UNASSIGNED_STACK" Bundle.steD) && decide (w ≠ .laysStatic Bundle.tN "SUPPRESSED_SENTINEL" Bundle.listD)
def vx_at0 (own : String) (ic : Nat) (X : String) (names : List String) : List Cond := (Bundle.ownAtoms0 own ic X names).filter vx_no
def vx_atS (own : String) (ic : Nat) (X : String) (names : List String) : List Cond := (Bundle.ownAtoms own ic X names).filter vx_no
/-- a word that the tables alone decide, or a good one -/
def vx_ot (w : Cond) : Bool := w.onTables || goodWord w
theorem vx_ot_at {args a' : Array Value} {s U : State} {w : Cond} (hW : s.WarmedH U.vm) (hvm : s.vm = U.vm) (hg : vx_ot w = true) (h : w.before args s = true) : w.before a' U = true := by
  simp only [vx_ot, Bool.or_eq_true] at hg
  rcases hg with hg | hg
  · exact va_tabs hg hvm h
  · exact word_at hW (good_of_word hg) h
/-- a list's words: the good ones out of the method's own list, the others by premises of their own -/
theorem vx_hat {args : Array Value} {s : State} {L B : List Cond} (h1 : ∀ w ∈ L.filter goodWord, w.before args s = true) (h2 : ∀ w ∈ L.filter (fun w => !goodWord w), w ∈ B) (h3 : ∀ w ∈ B, w.before args s = true) : ∀ w ∈ L, w.before args s = true := by
  intro w hw
  by_cases g : goodWord w = true
  · exact h1 w (List.mem_filter.mpr ⟨hw, g⟩)
  · refine h3 w (h2 w (List.mem_filter.mpr ⟨hw, ?_⟩))
    show (!goodWord w) = true
    cases hgw : goodWord w
    · rfl
    · exact absurd hgw g
theorem vx_c {args : Array Value} {s : State} {w : Cond} {B : List Cond} (h : w.before args s = true) (t : ∀ w ∈ B, w.before args s = true) : ∀ w' ∈ w :: B, w'.before args s = true := fun w' h' => (List.mem_cons.mp h').elim (fun e => by rw [e]; exact h) (t w')
theorem vx_n {args : Array Value} {s : State} : ∀ w ∈ ([] : List Cond), w.before args s = true := fun _ h => nomatch h
theorem vx_own {args : Array Value} {s : State} {L : List Cond} (h1 : ∀ w ∈ L.filter vx_no, w.before args s = true)
    (hU : (Cond.isRef (.static Bundle.tN "UNASSIGNED_STACK" Bundle.steD)).before args s = true) (hN : (Cond.isRef (.static Bundle.tN "SUPPRESSED_SENTINEL" Bundle.listD)).before args s = true)
    (lU : (Cond.laysStatic Bundle.tN "UNASSIGNED_STACK" Bundle.steD).before args s = true) (lN : (Cond.laysStatic Bundle.tN "SUPPRESSED_SENTINEL" Bundle.listD).before args s = true) : ∀ w ∈ L, w.before args s = true := by
  intro w hw
  by_cases e1 : w = .isRef (.static Bundle.tN "UNASSIGNED_STACK" Bundle.steD)
  · rw [e1]; exact hU
  · by_cases e2 : w = .isRef (.static Bundle.tN "SUPPRESSED_SENTINEL" Bundle.listD)
    · rw [e2]; exact hN
    · by_cases e3 : w = .laysStatic Bundle.tN "UNASSIGNED_STACK" Bundle.steD
      · rw [e3]; exact lU
      · by_cases e4 : w = .laysStatic Bundle.tN "SUPPRESSED_SENTINEL" Bundle.listD
        · rw [e4]; exact lN
        · exact h1 w (List.mem_filter.mpr ⟨hw, by unfold vx_no; rw [decide_eq_true e1, decide_eq_true e2, decide_eq_true e3, decide_eq_true e4]; rfl⟩)
/-- where a static field lies, its class's statics cell in H -/
def vx_L (C n d : String) (A : Nat → Prop) (U : State) (H : Heap) : Prop := ∃ (c : ClassId) (k : Class) (i : Nat) (f : Field) (a : Nat) (cell : Cell), U.vm.findClass C = some c ∧ U.fieldFound? C n d = some (c, k, i, f) ∧ f.isStatic = true ∧ k.statics = some a ∧ H[a]? = some cell ∧ cell.vm.isStatics = true ∧ cell.cls = c ∧ f.slot < cell.slots.size ∧ k.staticTypes[f.slot]? = some f.type ∧ ¬ A a
theorem vx_L.moved {C n d : String} {A : Nat → Prop} {u U : State} {H : Heap} (hvm : u.vm.Alike U.vm) (h : vx_L C n d A u H) : vx_L C n d A U H := by
  obtain ⟨c, k, i, f, a, cell, h1, h2, h3, h4, h5, h6, h7, h8, h9, h10⟩ := h
  obtain ⟨k', hi', he⟩ := State.fieldFound?_setVm hvm h2
  exact ⟨c, k', i, f, a, cell, by rw [hvm.findClass]; exact h1, hi', h3, by rw [he]; exact h4, h5, h6, h7, h8, by rw [he]; exact h9, h10⟩
theorem vx_L.kept {C n d : String} {A : Nat → Prop} {U : State} {H H1 : Heap} (h : vx_L C n d A U H) (hq : ∀ a : Nat, a < H.size → ¬ A a → H1[a]? = H[a]?) : vx_L C n d A U H1 := by
  obtain ⟨c, k, i, f, a, cell, h1, h2, h3, h4, h5, h6, h7, h8, h9, h10⟩ := h
  exact ⟨c, k, i, f, a, cell, h1, h2, h3, h4, by rw [hq a (Array.getElem?_eq_some_iff.mp h5).1 h10]; exact h5, h6, h7, h8, h9, h10⟩
theorem vx_L.narrow {C n d : String} {A B : Nat → Prop} {U : State} {H : Heap} (h : vx_L C n d A U H) (hAB : ∀ q, B q → A q) : vx_L C n d B U H := by
  obtain ⟨c, k, i, f, a, cell, h1, h2, h3, h4, h5, h6, h7, h8, h9, h10⟩ := h
  exact ⟨c, k, i, f, a, cell, h1, h2, h3, h4, h5, h6, h7, h8, h9, fun z => h10 (hAB _ z)⟩
theorem vx_L.word {C n d : String} {A : Nat → Prop} {s : State} {args : Array Value} (h : vx_L C n d A s s.heap) : (Cond.laysStatic C n d).before args s = true := by
  obtain ⟨c, k, i, f, a, cell, h1, h2, h3, h4, h5, h6, h7, h8, h9, -⟩ := h
  show (Cond.laysStatic C n d).holds args s none s [] = true
  exact Cond.laysStatic_of h1 h2 h3 h4 h5 h6 h7 h8 h9
/-- .. and what it holds: null or some reference -/
def vx_Zq (C n d : String) (A : Nat → Prop) (U : State) (H : Heap) : Prop := va_Zq C n d A U H ∧ vx_L C n d A U H
theorem vx_Zq.moved {C n d : String} {A : Nat → Prop} {u U : State} {H : Heap} (hvm : u.vm.Alike U.vm) (h : vx_Zq C n d A u H) : vx_Zq C n d A U H := ⟨va_Zq.moved hvm h.1, vx_L.moved hvm h.2⟩
theorem vx_Zq.kept {C n d : String} {A : Nat → Prop} {U : State} {H H1 : Heap} (h : vx_Zq C n d A U H) (hq : ∀ a : Nat, a < H.size → ¬ A a → H1[a]? = H[a]?) : vx_Zq C n d A U H1 := ⟨va_Zq.kept h.1 hq, vx_L.kept h.2 hq⟩
theorem vx_Zq.narrow {C n d : String} {A B : Nat → Prop} {U : State} {H : Heap} (h : vx_Zq C n d A U H) (hAB : ∀ q, B q → A q) : vx_Zq C n d B U H := ⟨va_Zq.narrow h.1 hAB, vx_L.narrow h.2 hAB⟩
theorem vx_Zqof {args : Array Value} {s : State} {C n d : String} {A : Nat → Prop} (hl : (Cond.laysStatic C n d).before args s = true) (hini : (Cond.initialized C).before args s = true) (h : (Cond.isRef (.static C n d)).before args s = true) (hA : ∀ a : Nat, a < s.heap.size → ¬ A a) : vx_Zq C n d A s s.heap := by
  refine ⟨va_Zqof hl hini h hA, ?_⟩
  obtain ⟨c, k, i, f, a, cell, h1, h2, h3, h4, h5, h6, h7, h8, h9⟩ := Cond.laysStatic_spec hl
  exact ⟨c, k, i, f, a, cell, h1, h2, h3, h4, h5, h6, h7, h8, h9, hA a (Array.getElem?_eq_some_iff.mp h5).1⟩
theorem vx_isRef {C n d : String} {v : Value} {A : Nat → Prop} {s : State} {args : Array Value} (h : va_Z C n d v A s s.heap) (hv : v.isRef = true) : (Cond.isRef (.static C n d)).before args s = true := by
  obtain ⟨cf, kf, fi, f, a, cell, h1, h2, h3, h4, h5, h6, h7, -⟩ := h
  have he : (Term.static C n d).eval args s none [] s = some v := by
    simp [Term.eval, State.fieldNamed?, h1, h2, h4, h5, h6, h7]
  simp only [Cond.before, Cond.holds, Cond.value, he]
  cases v <;> simp_all [Value.isRef]
theorem vx_isRefq {C n d : String} {A : Nat → Prop} {s : State} {args : Array Value} (h : va_Zq C n d A s s.heap) : (Cond.isRef (.static C n d)).before args s = true := by
  rcases h with h | ⟨t, h⟩
  · exact vx_isRef h rfl
  · exact vx_isRef h rfl
/-- the same frame, seen from here: as if the method were called anew in this heap -/
theorem vx_rebase {T : State} (X : Stand p l e R s m args below meth c T locs cells slots) {R' : Room} (hf : R'.frames ≤ R.frames) (hl : R'.locals ≤ R.locals) (hc : cells + R'.cells ≤ R.cells) (hs : slots + R'.slots ≤ R.slots) :
    Stand p l e R' ((T.setVm s.vm).setFrames (.invoking m args :: below)) m args below meth c T [] 0 0 := by
  have htop : (T.setVm s.vm).topJava?.isSome := X.here.top
  have hF : ((T.setVm s.vm).setFrames (.invoking m args :: below)).frames = .invoking m args :: below := State.frames_setFrames _ (State.cur_lt_of_top htop)
  obtain ⟨g₀, hg0⟩ := Option.isSome_iff_exists.mp htop
  obtain ⟨r, hr⟩ := State.topJava?_eq_some.mp hg0
  have hl9 : e.platform.stackLimits (T.setVm s.vm).me = e.platform.stackLimits s.me := X.limits
  have hb9 : (T.setVm s.vm).me.stackBytes = s.me.stackBytes := X.bytes
  refine ⟨X.admits, X.cas, X.clock, hF, ?_, X.hears, X.method, X.code, X.here, X.tail, X.warmed, ?_, ?_, ?_⟩
  · have h := X.room
    have hU : ((T.setVm s.vm).setFrames (.invoking m args :: below)).localsInUse = s.localsInUse := by
      rw [State.localsInUse_invoking hF (meth := meth) (c := c) X.method X.code, State.localsInUse_invoking X.frames X.method X.code]
    simp only [State.hasRoom, Bool.and_eq_true, decide_eq_true_eq] at h ⊢
    obtain ⟨⟨⟨⟨h1, h2, h3, h4, h5, h6⟩, h7⟩, h8⟩, h9⟩ := h
    rw [X.frames, List.length_cons] at h2 h3
    have q1 := X.heapSize
    have q2 := X.used
    simp only [hF, hU, List.length_cons, State.stackLimits_setFrames, State.stackBytes_setFrames, hl9, hb9]
    refine ⟨⟨⟨⟨by omega, by omega, by omega, by omega, by omega, h6⟩, ?_⟩, ?_⟩, X.book⟩
    · show T.heap.size + R'.cells ≤ e.platform.maxCells
      omega
    · show T.slotsUsed + R'.slots ≤ e.platform.maxSlots
      omega
  · rw [State.stackLimits_setFrames]; rfl
  · rw [State.stackBytes_setFrames]; rfl
  · refine ⟨?_, Nat.le_refl _, Nat.le_refl _, ?_, ?_, fun a c9 h9 => ⟨c9, h9, rfl, rfl, fun _ _ => rfl⟩⟩
    · obtain ⟨t, ht, -⟩ := State.frames_cons hr
      show T.setVm s.vm = { ((T.setVm s.vm).setFrames (.invoking m args :: below)).setFrames (T.setVm s.vm).frames with heap := T.heap, slotsUsed := T.slotsUsed }
      rw [State.setFrames_setFrames, State.setFrames_self ht]
      rfl
    · show T.slotsUsed = T.slotsUsed + ((T.heap.toList.drop T.heap.size).map (·.slots.size)).sum
      rw [List.drop_eq_nil_of_le (Nat.le_of_eq Array.length_toList)]
      rfl
    · show ((T.heap.toList.drop T.heap.size).map (·.slots.size)).sum ≤ 0
      rw [List.drop_eq_nil_of_le (Nat.le_of_eq Array.length_toList)]
      exact Nat.le_refl _
/-- 'throw new E()': new; dup; invokespecial; athrow -/
theorem vx_throw0 {cc : ByteArray} {pc : Nat} (hexec : p.tables.exec = Jvm.exec) (hb : c.code = cc) (hl : l.stackTraces = false) {own cls : String} {names : List String} {ik ic mc ms : Nat} {A : Nat → Prop}
    (hown : s.vm.findClass own = some m.cls) (hcls : Bundle.fit cls = true) (hnames : ∀ n ∈ names, Bundle.fit n = true)
    (hk : (Cond.classLink own ik cls).before args s = true) (hini : (Cond.initialized cls).before args s = true) (hat : ∀ w ∈ vx_at0 own ic cls names, w.before args s = true)
    (hgood : ∀ w ∈ Cond.classLink own ik cls :: Cond.initialized cls :: vx_at0 own ic cls names, vx_ot w = true)
    (hU : vx_Zq Bundle.tN "UNASSIGNED_STACK" Bundle.steD A s s.heap) (hN : vx_Zq Bundle.tN "SUPPRESSED_SENTINEL" Bundle.listD A s s.heap) (hS : va_S A s.heap H locs) (hsize : ls.size = c.maxLocals)
    (d0 : decode cc pc = .ok (.new ik, 3)) (d3 : decode cc (pc + 3) = .ok (.dup, 1)) (d4 : decode cc (pc + 4) = .ok (.invokespecial ic, 3)) (d7 : decode cc (pc + 7) = .ok (.athrow, 1))
    (hout : ∀ x ∈ c.exceptionTable.toList, covers x (pc + 7) = false)
    (hRframes : names.length + 3 < R.frames) (hRlocals : (rest.map fun v => v.category).sum + (13 * (names.length + 1) + 42) ≤ R.locals) (hRcells : cells + 1 ≤ R.cells) (hRslots : slots + 6 ≤ R.slots) (hlocks : meth.locks = false)
    (hx : ∀ t : State, s.vm.Alike t.vm → H.size ≤ t.heap.size → (∀ q : Nat, q < H.size → t.heap[q]? = H[q]?) → XC cls s t)
    (hf : ∀ z ∈ locs, free z.base) (hc : cells + 1 ≤ mc) (hs : slots + 6 ≤ ms) :
    W p l e R s m args below meth c H locs cells slots (vx_MQ below Qc XC args s mc ms free) (F0 m pc ls rest) := by
  intro T hT X
  have htr : e.platform.stackTraces = false := (show e.platform.stackTraces = l.stackTraces by rw [X.admits.platform]).trans hl
  have Y := vx_rebase X (R' := { frames := R.frames, locals := R.locals, cells := 1, slots := 6 }) (Nat.le_refl _) (Nat.le_refl _) hRcells hRslots
  obtain ⟨s', hA⟩ : ∃ z, z = (T.setVm s.vm).setFrames (.invoking m args :: below) := ⟨_, rfl⟩
  rw [← hA] at Y
  have hvm : s'.vm = s.vm := by rw [hA]; rfl
  have hhp : s'.heap = H := by rw [hA]; exact hT
  have hW0 : s.WarmedH s'.vm := by rw [hvm]; exact State.WarmedH.refl s
  have hat' : ∀ w ∈ vx_at0 own ic cls names, w.before args s' = true := fun w hw => vx_ot_at hW0 hvm.symm (hgood w (List.mem_cons_of_mem _ (List.mem_cons_of_mem _ hw))) (hat w hw)
  have hk' : (Cond.classLink own ik cls).before args s' = true := vx_ot_at hW0 hvm.symm (hgood _ List.mem_cons_self) hk
  have hini' : (Cond.initialized cls).before args s' = true := vx_ot_at hW0 hvm.symm (hgood _ (List.mem_cons_of_mem _ List.mem_cons_self)) hini
  have hU' : vx_Zq Bundle.tN "UNASSIGNED_STACK" Bundle.steD A s' s'.heap := by rw [hhp]; exact vx_Zq.moved hW0.alike (hU.kept hS.2.1)
  have hN' : vx_Zq Bundle.tN "SUPPRESSED_SENTINEL" Bundle.listD A s' s'.heap := by rw [hhp]; exact vx_Zq.moved hW0.alike (hN.kept hS.2.1)
  have h : ∀ w ∈ Bundle.ownAtoms0 own ic cls names, w.before args s' = true := vx_own hat' (vx_isRefq hU'.1) (vx_isRefq hN'.1) hU'.2.word hN'.2.word
  have hown' : s'.vm.findClass own = some m.cls := by rw [hvm]; exact hown
  have hins : (Cond.instantiable cls 6).before args s' = true := h _ (by simp [Bundle.ownAtoms0])
  obtain ⟨vm₁, cX, kX, hfX, hkX, -, -, X₁, st1⟩ := Y.newCold hexec (own := own) (C := cls) (index := ik) (n := 6) hown' hk' hins hini'
    (g := F0 m pc ls rest) rfl (by rw [hb]; exact d0) (Nat.le_refl _) (Nat.le_refl _)
  generalize hT1 : (T.setVm vm₁).pushCell { cls := cX, slots := kX.instanceTypes.map defaultValue, vm := .none } = T1 at X₁ st1
  have hcat : (Value.ref T.heap.size).category = 1 := rfl
  have hcellA : T1.heap[T.heap.size]? = some (freshCell cX kX) := by rw [← hT1]; exact State.heap_pushCell_size _ _
  have d3' : decode c.code (pc + 3) = .ok (.dup, 1) := by rw [hb]; exact d3
  obtain ⟨U, hsteps, hrun, hend, hW, hsame, ce, hce, hO⟩ := X₁.ctorThrow0 hexec htr (own := own) (cls := cls) (names := names) (ic := ic) hown' hcls hnames h (fun x hx => nomatch hx) hfX hkX hcellA (by rw [hhp, hT]; exact Nat.le_refl _)
    (g := { method := m, pc := pc + 4, locals := ls, stack := .ref T.heap.size :: .ref T.heap.size :: rest, locked := none }) rfl hsize rfl rfl (rest := rest) rfl
    (by rw [hb]; exact d4) (by rw [hb]; exact d7) hout hRframes (by simp only [List.map_cons, List.sum_cons, hcat]; omega) hlocks
  obtain ⟨f1, f2⟩ := vx_frame hsame
  rw [hhp] at f1 f2
  have hWs : s.WarmedH U.vm := State.WarmedH.trans hW0 hW
  have hcl : s.vm.findClass cls = some ce.cls := by
    have h9 := hO.cls
    rw [hvm] at h9
    exact h9
  have hall : s.sameButNew ({ U with vm := s.vm } : State) locs mc ms := by
    subst hA
    obtain ⟨e1, e2⟩ := hsame
    rw [State.setFrames_setFrames] at e1
    have h2 : (T.setVm s.vm).sameButNew ({ U with vm := s.vm } : State) [] (0 + 1) (0 + 6) := ⟨e1, e2⟩
    have h3 := X.same.trans h2
    rw [List.append_nil] at h3
    exact h3.mono hc hs
  refine ⟨U, ?_, .threw T.heap.size, hrun, hend, Or.inr ⟨T.heap.size, rfl, cls, ce, locs, hx U hWs.alike f1 (fun q hq => f2 q hq (fun z hz => nomatch hz)), hce, hO.vm, hcl, hWs, hall, hf⟩⟩
  refine st1 _ ?_
  show Steps p.tables e below (T1.setTop { method := m, pc := pc + 3, locals := ls, stack := .ref T.heap.size :: rest, locked := none }) _
  jvm_step X₁.here [X₁.here.top, hexec, d3', Value.category]
  exact hsteps
/-- 'throw new E("text")': new; dup; ldc; invokespecial; athrow -/
theorem vx_throwS {cc : ByteArray} {pc : Nat} (hexec : p.tables.exec = Jvm.exec) (hb : c.code = cc) (hl : l.stackTraces = false) {own cls text : String} {names : List String} {ik is ic mc ms sa : Nat} {A : Nat → Prop}
    (hown : s.vm.findClass own = some m.cls) (hcls : Bundle.fit cls = true) (hnames : ∀ n ∈ names, Bundle.fit n = true)
    (hk : (Cond.classLink own ik cls).before args s = true) (hini : (Cond.initialized cls).before args s = true) (hstr : vk_R own is text sa s) (hat : ∀ w ∈ vx_atS own ic cls names, w.before args s = true)
    (hgood : ∀ w ∈ Cond.classLink own ik cls :: Cond.initialized cls :: vx_atS own ic cls names, vx_ot w = true)
    (hU : vx_Zq Bundle.tN "UNASSIGNED_STACK" Bundle.steD A s s.heap) (hN : vx_Zq Bundle.tN "SUPPRESSED_SENTINEL" Bundle.listD A s s.heap) (hS : va_S A s.heap H locs) (hsize : ls.size = c.maxLocals)
    (d0 : decode cc pc = .ok (.new ik, 3)) (d3 : decode cc (pc + 3) = .ok (.dup, 1)) (d4 : decode cc (pc + 4) = .ok (.ldc is, 2)) (d6 : decode cc (pc + 6) = .ok (.invokespecial ic, 3)) (d9 : decode cc (pc + 9) = .ok (.athrow, 1))
    (hout : ∀ x ∈ c.exceptionTable.toList, covers x (pc + 9) = false)
    (hRframes : names.length + 3 < R.frames) (hRlocals : (rest.map fun v => v.category).sum + (13 * (names.length + 1) + 43) ≤ R.locals) (hRcells : cells + 1 ≤ R.cells) (hRslots : slots + 6 ≤ R.slots) (hlocks : meth.locks = false)
    (hx : ∀ t : State, s.vm.Alike t.vm → H.size ≤ t.heap.size → (∀ q : Nat, q < H.size → t.heap[q]? = H[q]?) → XC cls s t)
    (hf : ∀ z ∈ locs, free z.base) (hc : cells + 1 ≤ mc) (hs : slots + 6 ≤ ms) :
    W p l e R s m args below meth c H locs cells slots (vx_MQ below Qc XC args s mc ms free) (F0 m pc ls rest) := by
  intro T hT X
  have htr : e.platform.stackTraces = false := (show e.platform.stackTraces = l.stackTraces by rw [X.admits.platform]).trans hl
  have Y := vx_rebase X (R' := { frames := R.frames, locals := R.locals, cells := 1, slots := 6 }) (Nat.le_refl _) (Nat.le_refl _) hRcells hRslots
  obtain ⟨s', hA⟩ : ∃ z, z = (T.setVm s.vm).setFrames (.invoking m args :: below) := ⟨_, rfl⟩
  rw [← hA] at Y
  have hvm : s'.vm = s.vm := by rw [hA]; rfl
  have hhp : s'.heap = H := by rw [hA]; exact hT
  have hW0 : s.WarmedH s'.vm := by rw [hvm]; exact State.WarmedH.refl s
  have hat' : ∀ w ∈ vx_atS own ic cls names, w.before args s' = true := fun w hw => vx_ot_at hW0 hvm.symm (hgood w (List.mem_cons_of_mem _ (List.mem_cons_of_mem _ hw))) (hat w hw)
  have hk' : (Cond.classLink own ik cls).before args s' = true := vx_ot_at hW0 hvm.symm (hgood _ List.mem_cons_self) hk
  have hini' : (Cond.initialized cls).before args s' = true := vx_ot_at hW0 hvm.symm (hgood _ (List.mem_cons_of_mem _ List.mem_cons_self)) hini
  have hU' : vx_Zq Bundle.tN "UNASSIGNED_STACK" Bundle.steD A s' s'.heap := by rw [hhp]; exact vx_Zq.moved hW0.alike (hU.kept hS.2.1)
  have hN' : vx_Zq Bundle.tN "SUPPRESSED_SENTINEL" Bundle.listD A s' s'.heap := by rw [hhp]; exact vx_Zq.moved hW0.alike (hN.kept hS.2.1)
  have h : ∀ w ∈ Bundle.ownAtoms own ic cls names, w.before args s' = true := vx_own hat' (vx_isRefq hU'.1) (vx_isRefq hN'.1) hU'.2.word hN'.2.word
  have hown' : s'.vm.findClass own = some m.cls := by rw [hvm]; exact hown
  have hins : (Cond.instantiable cls 6).before args s' = true := h _ (by simp [Bundle.ownAtoms])
  obtain ⟨vm₁, cX, kX, hfX, hkX, -, -, X₁, st1⟩ := Y.newCold hexec (own := own) (C := cls) (index := ik) (n := 6) hown' hk' hins hini'
    (g := F0 m pc ls rest) rfl (by rw [hb]; exact d0) (Nat.le_refl _) (Nat.le_refl _)
  generalize hT1 : (T.setVm vm₁).pushCell { cls := cX, slots := kX.instanceTypes.map defaultValue, vm := .none } = T1 at X₁ st1
  have hcat : (Value.ref T.heap.size).category = 1 := rfl
  have hcellA : T1.heap[T.heap.size]? = some (freshCell cX kX) := by rw [← hT1]; exact State.heap_pushCell_size _ _
  have d3' : decode c.code (pc + 3) = .ok (.dup, 1) := by rw [hb]; exact d3
  have d4' : decode c.code (pc + 4) = .ok (.ldc is, 2) := by rw [hb]; exact d4
  have hstr' : vk_R own is text sa s' := vk_R.warm hW0 hstr
  obtain ⟨U, hsteps, hrun, hend, hW, hsame, ce, hce, hO⟩ := X₁.ctorThrowS hexec htr (own := own) (cls := cls) (names := names) (ic := ic) hown' hcls hnames h (fun x hx => nomatch hx) hfX hkX hcellA (by rw [hhp, hT]; exact Nat.le_refl _) (msg := .ref sa) rfl
    (g := { method := m, pc := pc + 6, locals := ls, stack := .ref sa :: .ref T.heap.size :: .ref T.heap.size :: rest, locked := none }) rfl hsize rfl rfl (rest := rest) rfl
    (by rw [hb]; exact d6) (by rw [hb]; exact d9) hout hRframes (by simp only [List.map_cons, List.sum_cons, hcat]; omega) hlocks
  obtain ⟨f1, f2⟩ := vx_frame hsame
  rw [hhp] at f1 f2
  have hWs : s.WarmedH U.vm := State.WarmedH.trans hW0 hW
  have hcl : s.vm.findClass cls = some ce.cls := by
    have h9 := hO.cls
    rw [hvm] at h9
    exact h9
  have hall : s.sameButNew ({ U with vm := s.vm } : State) locs mc ms := by
    subst hA
    obtain ⟨e1, e2⟩ := hsame
    rw [State.setFrames_setFrames] at e1
    have h2 : (T.setVm s.vm).sameButNew ({ U with vm := s.vm } : State) [] (0 + 1) (0 + 6) := ⟨e1, e2⟩
    have h3 := X.same.trans h2
    rw [List.append_nil] at h3
    exact h3.mono hc hs
  refine ⟨U, ?_, .threw T.heap.size, hrun, hend, Or.inr ⟨T.heap.size, rfl, cls, ce, locs, hx U hWs.alike f1 (fun q hq => f2 q hq (fun z hz => nomatch hz)), hce, hO.vm, hcl, hWs, hall, hf⟩⟩
  refine st1 _ ?_
  show Steps p.tables e below (T1.setTop { method := m, pc := pc + 3, locals := ls, stack := .ref T.heap.size :: rest, locked := none }) _
  jvm_step X₁.here [X₁.here.top, hexec, d3', Value.category]
  exact X₁.ldcString hexec (own := own) (text := text) (index := is) (a := sa) hown' hstr'.1 hstr'.2
    (g := { method := m, pc := pc + 4, locals := ls, stack := .ref T.heap.size :: .ref T.heap.size :: rest, locked := none }) rfl d4' _ hsteps
/-- 'throw new E("text")', the text by a wide index -/
theorem vx_throwSW {cc : ByteArray} {pc : Nat} (hexec : p.tables.exec = Jvm.exec) (hb : c.code = cc) (hl : l.stackTraces = false) {own cls text : String} {names : List String} {ik is ic mc ms sa : Nat} {A : Nat → Prop}
    (hown : s.vm.findClass own = some m.cls) (hcls : Bundle.fit cls = true) (hnames : ∀ n ∈ names, Bundle.fit n = true)
    (hk : (Cond.classLink own ik cls).before args s = true) (hini : (Cond.initialized cls).before args s = true) (hstr : vk_R own is text sa s) (hat : ∀ w ∈ vx_atS own ic cls names, w.before args s = true)
    (hgood : ∀ w ∈ Cond.classLink own ik cls :: Cond.initialized cls :: vx_atS own ic cls names, vx_ot w = true)
    (hU : vx_Zq Bundle.tN "UNASSIGNED_STACK" Bundle.steD A s s.heap) (hN : vx_Zq Bundle.tN "SUPPRESSED_SENTINEL" Bundle.listD A s s.heap) (hS : va_S A s.heap H locs) (hsize : ls.size = c.maxLocals)
    (d0 : decode cc pc = .ok (.new ik, 3)) (d3 : decode cc (pc + 3) = .ok (.dup, 1)) (d4 : decode cc (pc + 4) = .ok (.ldc_w is, 3)) (d7 : decode cc (pc + 7) = .ok (.invokespecial ic, 3)) (d10 : decode cc (pc + 10) = .ok (.athrow, 1))
    (hout : ∀ x ∈ c.exceptionTable.toList, covers x (pc + 10) = false)
    (hRframes : names.length + 3 < R.frames) (hRlocals : (rest.map fun v => v.category).sum + (13 * (names.length + 1) + 43) ≤ R.locals) (hRcells : cells + 1 ≤ R.cells) (hRslots : slots + 6 ≤ R.slots) (hlocks : meth.locks = false)
    (hx : ∀ t : State, s.vm.Alike t.vm → H.size ≤ t.heap.size → (∀ q : Nat, q < H.size → t.heap[q]? = H[q]?) → XC cls s t)
    (hf : ∀ z ∈ locs, free z.base) (hc : cells + 1 ≤ mc) (hs : slots + 6 ≤ ms) :
    W p l e R s m args below meth c H locs cells slots (vx_MQ below Qc XC args s mc ms free) (F0 m pc ls rest) := by
  intro T hT X
  have htr : e.platform.stackTraces = false := (show e.platform.stackTraces = l.stackTraces by rw [X.admits.platform]).trans hl
  have Y := vx_rebase X (R' := { frames := R.frames, locals := R.locals, cells := 1, slots := 6 }) (Nat.le_refl _) (Nat.le_refl _) hRcells hRslots
  obtain ⟨s', hA⟩ : ∃ z, z = (T.setVm s.vm).setFrames (.invoking m args :: below) := ⟨_, rfl⟩
  rw [← hA] at Y
  have hvm : s'.vm = s.vm := by rw [hA]; rfl
  have hhp : s'.heap = H := by rw [hA]; exact hT
  have hW0 : s.WarmedH s'.vm := by rw [hvm]; exact State.WarmedH.refl s
  have hat' : ∀ w ∈ vx_atS own ic cls names, w.before args s' = true := fun w hw => vx_ot_at hW0 hvm.symm (hgood w (List.mem_cons_of_mem _ (List.mem_cons_of_mem _ hw))) (hat w hw)
  have hk' : (Cond.classLink own ik cls).before args s' = true := vx_ot_at hW0 hvm.symm (hgood _ List.mem_cons_self) hk
  have hini' : (Cond.initialized cls).before args s' = true := vx_ot_at hW0 hvm.symm (hgood _ (List.mem_cons_of_mem _ List.mem_cons_self)) hini
  have hU' : vx_Zq Bundle.tN "UNASSIGNED_STACK" Bundle.steD A s' s'.heap := by rw [hhp]; exact vx_Zq.moved hW0.alike (hU.kept hS.2.1)
  have hN' : vx_Zq Bundle.tN "SUPPRESSED_SENTINEL" Bundle.listD A s' s'.heap := by rw [hhp]; exact vx_Zq.moved hW0.alike (hN.kept hS.2.1)
  have h : ∀ w ∈ Bundle.ownAtoms own ic cls names, w.before args s' = true := vx_own hat' (vx_isRefq hU'.1) (vx_isRefq hN'.1) hU'.2.word hN'.2.word
  have hown' : s'.vm.findClass own = some m.cls := by rw [hvm]; exact hown
  have hins : (Cond.instantiable cls 6).before args s' = true := h _ (by simp [Bundle.ownAtoms])
  obtain ⟨vm₁, cX, kX, hfX, hkX, -, -, X₁, st1⟩ := Y.newCold hexec (own := own) (C := cls) (index := ik) (n := 6) hown' hk' hins hini'
    (g := F0 m pc ls rest) rfl (by rw [hb]; exact d0) (Nat.le_refl _) (Nat.le_refl _)
  generalize hT1 : (T.setVm vm₁).pushCell { cls := cX, slots := kX.instanceTypes.map defaultValue, vm := .none } = T1 at X₁ st1
  have hcat : (Value.ref T.heap.size).category = 1 := rfl
  have hcellA : T1.heap[T.heap.size]? = some (freshCell cX kX) := by rw [← hT1]; exact State.heap_pushCell_size _ _
  have d3' : decode c.code (pc + 3) = .ok (.dup, 1) := by rw [hb]; exact d3
  have d4' : decode c.code (pc + 4) = .ok (.ldc_w is, 3) := by rw [hb]; exact d4
  have hstr' : vk_R own is text sa s' := vk_R.warm hW0 hstr
  obtain ⟨U, hsteps, hrun, hend, hW, hsame, ce, hce, hO⟩ := X₁.ctorThrowS hexec htr (own := own) (cls := cls) (names := names) (ic := ic) hown' hcls hnames h (fun x hx => nomatch hx) hfX hkX hcellA (by rw [hhp, hT]; exact Nat.le_refl _) (msg := .ref sa) rfl
    (g := { method := m, pc := pc + 7, locals := ls, stack := .ref sa :: .ref T.heap.size :: .ref T.heap.size :: rest, locked := none }) rfl hsize rfl rfl (rest := rest) rfl
    (by rw [hb]; exact d7) (by rw [hb]; exact d10) hout hRframes (by simp only [List.map_cons, List.sum_cons, hcat]; omega) hlocks
  obtain ⟨f1, f2⟩ := vx_frame hsame
  rw [hhp] at f1 f2
  have hWs : s.WarmedH U.vm := State.WarmedH.trans hW0 hW
  have hcl : s.vm.findClass cls = some ce.cls := by
    have h9 := hO.cls
    rw [hvm] at h9
    exact h9
  have hall : s.sameButNew ({ U with vm := s.vm } : State) locs mc ms := by
    subst hA
    obtain ⟨e1, e2⟩ := hsame
    rw [State.setFrames_setFrames] at e1
    have h2 : (T.setVm s.vm).sameButNew ({ U with vm := s.vm } : State) [] (0 + 1) (0 + 6) := ⟨e1, e2⟩
    have h3 := X.same.trans h2
    rw [List.append_nil] at h3
    exact h3.mono hc hs
  refine ⟨U, ?_, .threw T.heap.size, hrun, hend, Or.inr ⟨T.heap.size, rfl, cls, ce, locs, hx U hWs.alike f1 (fun q hq => f2 q hq (fun z hz => nomatch hz)), hce, hO.vm, hcl, hWs, hall, hf⟩⟩
  refine st1 _ ?_
  show Steps p.tables e below (T1.setTop { method := m, pc := pc + 3, locals := ls, stack := .ref T.heap.size :: rest, locked := none }) _
  jvm_step X₁.here [X₁.here.top, hexec, d3', Value.category]
  exact X₁.ldcStringW hexec (own := own) (text := text) (index := is) (a := sa) hown' hstr'.1 hstr'.2
    (g := { method := m, pc := pc + 4, locals := ls, stack := .ref T.heap.size :: .ref T.heap.size :: rest, locked := none }) rfl d4' _ hsteps
end Ends
section Bodies
variable {l : Launch}
theorem vx_ofW {y : MethodName} {ws ws' : List Cond} {rm : Room} {Pc : Array Value → State → Prop} {Qc : Array Value → State → Outcome → State → Prop} {XC : String → State → State → Prop} {mc ms : Nat} {free : Addr → Prop} {cc : ByteArray} {maxL : Nat} {ret : Option FieldType}
    (hy : plainName y.cls = true) (hw : ws = Cond.code y cc maxL ret :: ws')
    (body : ∀ p e s m args below meth c s₁, BodyLoose p l y (headSpec ws rm) cc maxL ret e s m args below meth c s₁ → c.maxLocals = maxL → (∀ x ∈ c.exceptionTable.toList, False) → Pc args s →
      W p l e (headSpec ws rm).room s m args below meth c s.heap [] 0 0 (vx_MQ below Qc XC args s mc ms free) (entryFrame m args maxL)) : vx_Met l y ws rm Pc Qc XC mc ms free := by
  refine MetFree.of_bodyS (code := cc) (maxLocals := maxL) (ret := ret) hy ?_ ?_
  · intro args s m h hn
    obtain ⟨meth, c, h1, h2, h3, h4, h5, h6, -, -⟩ := Cond.code_spec hn (atoms_spec (ws := ws) h _ (by rw [hw]; exact List.mem_cons_self))
    exact ⟨meth, c, h1, h2, h3, h4, h5, h6⟩
  · intro p e s m args below meth c s₁ B hml hP _
    have hh0 : s₁.heap = s.heap := by rw [B.state]; rfl
    have ht : ∀ x ∈ c.exceptionTable.toList, False := by
      obtain ⟨meth9, c9, h1, h2, -, -, -, -, h7, -⟩ := Cond.code_spec B.named (atoms_spec (ws := ws) B.pre _ (by rw [hw]; exact List.mem_cons_self))
      cases Option.some.inj (h1.symm.trans B.method)
      cases Option.some.inj (h2.symm.trans (Stand.of_body B).code)
      intro x hx
      rw [Array.isEmpty_iff.mp h7] at hx
      cases hx
    obtain ⟨t, a1, o, b1, b2, b3⟩ := body p e s m args below meth c s₁ B hml ht hP s₁ hh0 (Stand.of_body B)
    exact ⟨t, o, a1, b1, b2, b3⟩
/-- the table of a body with handlers -/
theorem vx_table {p : Program} {x y : MethodName} {S : Spec} {cc bytes : ByteArray} {maxL maxL' : Nat} {ret ret' : Option FieldType} {e : Env} {s s₁ : State} {m : MethodId} {args : Array Value} {below : List Frame} {meth : Method} {c : Code} {hh : List (Nat × Nat × Nat × Nat)}
    (B : BodyLoose p l y S cc maxL ret e s m args below meth c s₁) (h : (Cond.codeWith y bytes maxL' ret' hh).before args s = true) : c.exceptionTable.toList = tableOf hh := by
  obtain ⟨m9, meth9, c9, hn9, h1, h2, -, -, h6, -⟩ := Cond.codeWith_spec h
  cases Option.some.inj (hn9.symm.trans B.named)
  cases Option.some.inj (h1.symm.trans B.method)
  cases Option.some.inj (h2.symm.trans (Stand.of_body B).code)
  rw [← h6, table_eq]
end Bodies
end VXA
/-! ===== END ===== -/
/-! ===== BEGIN a static call of a method with an exception table ===== -/
section VXS
variable {p : Program} {l : Launch} {e : Env} {R : Room} {s : State} {m : MethodId} {args : Array Value} {below : List Frame} {meth : Method} {c : Code} {T : State} {H : Heap} {locs : List Loc} {cells slots : Nat}
abbrev vx_CSW (R : Room) (s : State) (args : Array Value) (own : String) (index : Nat) (y : MethodName) (bytes : ByteArray) (maxL : Nat) (ret : Option FieldType) (hh : List (Nat × Nat × Nat × Nat)) (ws : List Cond) (rm : Room) (mc ms n : Nat) : Prop :=
  (rm.cells = mc ∧ rm.slots = ms ∧ rm.frames + 1 ≤ R.frames ∧ 8 + (maxL + 11) + rm.locals ≤ R.locals ∧ (∀ w ∈ ws, ∀ (a' : Array Value) (U : State), s.WarmedH U.vm → w.before a' U = true) ∧ Cond.codeWith y bytes maxL ret hh ∈ ws) ∧
  (Cond.codeWith y bytes maxL ret hh).before args s = true ∧ (Cond.initialized y.cls).before args s = true ∧ (y.cls ≠ "java/lang/invoke/MethodHandle" ∧ y.cls ≠ "java/lang/invoke/VarHandle") ∧
  (∀ sig, parseMethodDescriptor y.desc = some sig → n = sig.parameters.length) ∧ (Cond.methodLink own index y).before args s = true ∧ (Cond.static y).before args s = true
theorem vx_cwSW {own : String} {index maxL mc ms : Nat} {y : MethodName} {bytes : ByteArray} {ret : Option FieldType} {hh : List (Nat × Nat × Nat × Nat)} {Ts ws ws' : List Cond} {rm : Room} (n : Nat) (ht : ∀ w ∈ Ts, w.before args s = true) (hT : GoodIn Ts (va_wsS own index y ws)) (hw : ws = Cond.codeWith y bytes maxL ret hh :: ws') (hrc : rm.cells = mc) (hrs : rm.slots = ms)
    (hd : y.cls ≠ "java/lang/invoke/MethodHandle" ∧ y.cls ≠ "java/lang/invoke/VarHandle" ∧ (parseMethodDescriptor y.desc).map (fun d => d.parameters.length) = some n) (hR : rm.frames + 1 ≤ R.frames ∧ 8 + (maxL + 11) + rm.locals ≤ R.locals) :
    vx_CSW R s args own index y bytes maxL ret hh ws rm mc ms n := by
  have ok : ∀ w ∈ va_wsS own index y ws, w.before args s = true := fun w h => ht w (hT w h).1
  have hG : GoodIn Ts ws := fun w h => hT w (by unfold va_wsS; exact List.mem_append_right _ h)
  have hc : Cond.codeWith y bytes maxL ret hh ∈ ws := by rw [hw]; exact List.mem_cons_self
  refine ⟨⟨hrc, hrs, hR.1, hR.2, pay_in ht hG, hc⟩, ht _ (hG _ hc).1, ok _ (by simp [va_wsS]), ⟨hd.1, hd.2.1⟩, fun sig h => ?_, ok _ (by simp [va_wsS]), ok _ (by simp [va_wsS])⟩
  have h2 := hd.2.2
  rw [h] at h2
  exact (Option.some.inj h2).symm
theorem vx_callSW (X : Stand p l e R s m args below meth c T locs cells slots) (hexec : p.tables.exec = Jvm.exec) {own : String} {index : Nat} {y : MethodName} {bytes : ByteArray} {maxL : Nat} {ret : Option FieldType} {hh : List (Nat × Nat × Nat × Nat)}
    (hown : s.vm.findClass own = some m.cls) (hlink : (Cond.methodLink own index y).before args s = true) (hstat : (Cond.static y).before args s = true) (hinit : (Cond.initialized y.cls).before args s = true)
    (hcode : (Cond.codeWith y bytes maxL ret hh).before args s = true) (hy : y.cls ≠ "java/lang/invoke/MethodHandle" ∧ y.cls ≠ "java/lang/invoke/VarHandle")
    {W9 : Nat} {Pre : Pt → Array Value → Prop} {Post : Pt → Array Value → Option Value → Pt → Prop} (hK : Back l R p e below s args y 3 W9 Pre Post)
    {g : JFrame} (hg : g.method = m) (hsize : g.locals.size = c.maxLocals) {argsL rest : List Value} (hlen : ∀ sig, parseMethodDescriptor y.desc = some sig → argsL.length = sig.parameters.length)
    (hstack : g.stack = argsL.reverse ++ rest) (hW : 2 * g.monitorRoom + (rest.map fun v => v.category).sum ≤ W9) (hdg : decode c.code g.pc = .ok (.invokestatic index, 3))
    (hpre : ∀ vm₁, s.WarmedH vm₁ → Pre ⟨T.setVm vm₁, locs, cells, slots⟩ argsL.toArray) :
    ∃ (v : Option Value) (vm₁ : Vm) (B : Pt), s.WarmedH vm₁ ∧ Stand p l e R s m args below meth c B.U B.locs B.cells B.slots ∧ Post ⟨T.setVm vm₁, locs, cells, slots⟩ argsL.toArray v B ∧
      ∀ target, Steps p.tables e below (B.U.setTop { g with pc := g.pc + 3, stack := v.toList ++ rest }) target → Steps p.tables e below (T.setTop g) target := by
  obtain ⟨mk, methM, cM, hnamed, hmethM, -, -, -, -, -, -, hsigM⟩ := Cond.codeWith_spec hcode
  have hstatic : methM.isStatic = true := Cond.static_spec hnamed hmethM hstat
  obtain ⟨kP, hkP, -⟩ := className_of_methodNamed hnamed
  have hinitP : kP.init = .initialized := Cond.initialized_spec (findClass_of_methodNamed hnamed) hkP hinit
  obtain ⟨vm₁, X₁, hstep₁⟩ := X.invokestatic hexec hown hlink hnamed hmethM hstatic hkP hinitP hy (g := g) hg (argsL := argsL) (rest := rest) (hlen _ hsigM) hstack hdg
  obtain ⟨v, B, X', hpost, hsteps⟩ := hK m meth c ⟨T.setVm vm₁, locs, cells, slots⟩ { g with stack := rest } (.invokestatic index) mk argsL.toArray X₁ hg hsize hdg hW (X₁.named hnamed) (hpre vm₁ X₁.warmed)
  exact ⟨v, vm₁, B, X₁.warmed, X', hpost, fun target h => hstep₁ _ fun acts => by rw [doInvoke_state]; exact hsteps.trans h⟩
theorem vx_runSW {y : MethodName} {bytes cc : ByteArray} {maxL nL mc ms n index : Nat} {ret : Option FieldType} {hh : List (Nat × Nat × Nat × Nat)} {ws : List Cond} {rm : Room} {Pc : Array Value → State → Prop} {Qc : Array Value → State → Outcome → State → Prop} {free : Addr → Prop} {Ts : List Cond} {own : String} {As rest : List Value} {g : JFrame}
    (S : CallFix p m c cc nL s args Ts own) (hM : Met l y ws rm Pc Qc mc ms free) (cw : vx_CSW R s args own index y bytes maxL ret hh ws rm mc ms n) (hp : PreS s H Pc As)
    (hg : g.method = m) (hn : As.length = n) (hsize : g.locals.size = nL) (hstack : g.stack = As.reverse ++ rest) (hW : 2 * g.monitorRoom + (rest.map fun v => v.category).sum ≤ 8) (hdg : decode cc g.pc = .ok (.invokestatic index, 3)) (hf : cells + mc ≤ R.cells ∧ slots + ms ≤ R.slots) :
    va_Run p l e R s m args below meth c H locs cells slots mc ms g rest (Qc As.toArray) (free) := by
  obtain ⟨⟨hrc, hrs, hfr, hlo, hws, hcw⟩, hcode, hini, hy, hlen, hl, hstt⟩ := cw
  have hK : Back l R p e below s args y 3 8 (PreOf R mc ms Pc) (PostOf Qc mc ms free) := va_backW (hh := hh) (bytes := bytes) (maxL := maxL) (ret := ret) hM hp.1 hrc hrs hfr hlo hws hcw (fun a' U hW => word_at hW (Or.inl (by first | rfl | simp [Cond.onTables, Cond.keeps, Cond.steady])) hini)
  obtain ⟨hx, hb, hml, ho, -⟩ := S
  intro T hT X
  obtain ⟨v, vm₁, ⟨U', l2, c2, s2⟩, hW₁, X', ⟨g', mk, t, L, e1, e2, hq, h1, hL, h2, h3⟩, st⟩ := vx_callSW X hx (hh := hh) (bytes := bytes) (maxL := maxL) (ret := ret) ho hl hstt hini hcode hy hK hg (hsize.trans hml.symm) (argsL := As) (rest := rest) (fun sig h => hn.trans (hlen sig h)) hstack hW (by rw [hb]; exact hdg)
    (fun vm₁ hW₁ => ⟨hf.1, hf.2, hp.2 (T.setVm vm₁) hT hW₁⟩)
  dsimp only [Pt.U, Pt.locs, Pt.cells, Pt.slots] at X' e1 e2 h1 h2 h3 st
  subst h1; subst h2; subst h3
  exact ⟨v, (T.setVm vm₁).calling g' mk As.toArray, t, U', L, hT, X', hL, e1, e2, hq, st⟩
/-- a thing of a world lies in the heap -/
theorem vx_lt {D : va_G} {cl : List vw_C} {ws : va_W} {H1 : Heap} (h : va_P D cl ws H1) {k : Nat} {q : Nat × va_E} (hk : ws[k]? = some q) : q.1 < H1.size := (h k q hk).lt
end VXS
/-! ===== END ===== -/
/-! ===== BEGIN methods with a table of their own: called by a name, returning or throwing ===== -/
section VXH
/-! vx_backW, vx_callVX, vx_callSX, vx_callVW, vx_runVW, vx_runVX, vx_runSX, vx_ofWH follow the same proofs as their sisters above (Free/Laws.lean, Shelf42/LK1.lean); vx_outP calls Shelf42/NT130.lean (outThrough). -/
section
variable {l : Launch} {R : Room} {p : Program} {e : Env} {below : List Frame} {s : State} {sargs : Array Value} {y : MethodName} {len W9 : Nat}
theorem vx_backW {ws : List Cond} {rm : Room} {Pc : Array Value → State → Prop} {Qc : Array Value → State → Outcome → State → Prop} {XC : String → State → State → Prop} {mc ms : Nat} {free : Addr → Prop} {bytes : ByteArray} {maxL : Nat} {ret : Option FieldType} {hh : List (Nat × Nat × Nat × Nat)}
    (hM : vx_Met l y ws rm Pc Qc XC mc ms free) (hblind : FrameBlind Pc) (hrc : rm.cells = mc) (hrs : rm.slots = ms)
    (hframes : rm.frames + 1 ≤ R.frames) (hlocals : W9 + (maxL + 11) + rm.locals ≤ R.locals)
    (hws : ∀ w ∈ ws, ∀ a' U, s.WarmedH U.vm → w.before a' U = true) (hcode : Cond.codeWith y bytes maxL ret hh ∈ ws) (hinit : ∀ a' U, s.WarmedH U.vm → (Cond.initialized y.cls).before a' U = true) :
    vx_Back l R p e below s sargs y len W9 (PreOf R mc ms Pc) (PostOf Qc mc ms free) (vx_Post XC mc ms free) := by
  intro m meth c A g ig mk a X hg hsize hdg hW hn hp
  have h1 : (headSpec ws rm).pre.before a A.U = true := atoms_intro fun w hw => hws w hw _ _ X.warmed
  have h2 : (Cond.codeWith y bytes maxL ret hh).before a A.U = true := hws _ hcode _ _ X.warmed
  have h3 : (Cond.initialized y.cls).before a A.U = true := hinit _ _ X.warmed
  have h4 : A.cells + (headSpec ws rm).room.cells ≤ R.cells := by rw [show (headSpec ws rm).room.cells = mc from hrc]; exact hp.1
  have h5 : A.slots + (headSpec ws rm).room.slots ≤ R.slots := by rw [show (headSpec ws rm).room.slots = ms from hrs]; exact hp.2.1
  have hPc : Pc a (A.U.calling g mk a) := hblind _ _ _ _ hp.2.2
  obtain ⟨U, Ls, c0, s0⟩ := A
  dsimp only [Pt.U, Pt.locs, Pt.cells, Pt.slots] at h1 h2 h3 h4 h5 X hn hPc ⊢
  obtain ⟨m9, methY, cY, hn9, hmY, hcY, -, hlY, -⟩ := Cond.codeWith_spec h2
  cases Option.some.inj (hn9.symm.trans hn)
  obtain ⟨kY, hkY, -⟩ := className_of_methodNamed hn
  have hinitY : kY.init = .initialized := Cond.initialized_spec (findClass_of_methodNamed hn) hkY h3
  have h : At U g.method c below := by rw [hg]; exact X.here
  have hlocals9 : W9 + (maxL + 11) + (headSpec ws rm).room.locals ≤ R.locals := hlocals
  have happ : (headSpec ws rm).appliesLoose y e.platform (U.calling g mk a) = true :=
    Spec.appliesLoose_calling (g := g) h hdg hn hkY hinitY
      (X.room_calling (g := g) (R' := (headSpec ws rm).room) hsize hmY hcY hframes (by rw [hlY]; omega) h4 h5) h1
  obtain ⟨mid, hmid⟩ := h.above
  have hfr : (U.setTop g).frames = (.java g :: mid) ++ below := by rw [State.frames_setTop' g h.top, hmid]; rfl
  obtain ⟨o, s₂, hsteps, -, hend, hq⟩ := Steps.callFree hM p X.admits X.cas X.clock (acts := []) hfr happ hPc trivial
  have hq' : vx_Q Qc XC mc ms free a (U.calling g mk a) o s₂ := hq
  rw [State.frames_setTop' g h.top] at hend
  obtain ⟨g₀, hg0⟩ := Option.isSome_iff_exists.mp h.top
  obtain ⟨r, hr⟩ := State.topJava?_eq_some.mp hg0
  have hr' : (({ U with heap := s₂.heap, slotsUsed := s₂.slotsUsed } : State).setVm s₂.vm).frames = .java g₀ :: r := hr
  rcases hq' with ⟨hqc, L, hfe, hL⟩ | ⟨q, rfl, E, ce, L, hx, hce, hcv, hcl, hW₂, hsm, hL⟩
  · obtain ⟨⟨v, rfl⟩, hW₂, e2, q2, q3, q4, q5, q6⟩ := id hfe
    have e3 : s₂ = ({ (U.calling g mk a).setFrames s₂.frames with heap := s₂.heap, slotsUsed := s₂.slotsUsed } : State).setVm s₂.vm := by
      have : s₂ = ({ s₂ with vm := (U.calling g mk a).vm } : State).setVm s₂.vm := rfl
      rw [e2] at this
      exact this
    obtain ⟨c₂, i₂, len₂, hc₂, hd₂, hf₂⟩ := hend
    have hW' : U.WarmedH s₂.vm := hW₂
    have hcc : c₂ = c := by
      have h1 : s₂.code? g.method = U.code? g.method := by
        rw [State.code?_eq, State.code?_eq, hW'.alike.method?]
      exact Option.some.inj (hc₂.symm.trans (h1.trans h.code))
    subst hcc
    have hlen : len₂ = len := by rw [hdg] at hd₂; cases hd₂; rfl
    subst hlen
    have hs₂ : s₂ = (({ U with heap := s₂.heap, slotsUsed := s₂.slotsUsed } : State).setVm s₂.vm).setTop { g with pc := g.pc + len₂, stack := v.toList ++ g.stack } := by
      refine e3.trans ?_
      rw [hf₂, State.calling_eq h.top, State.setFrames_setFrames, State.setTop_of_frames _ hr', hr]
      rfl
    have hsame : U.sameButNew ({ U with heap := s₂.heap, slotsUsed := s₂.slotsUsed } : State) L mc ms := by
      refine ⟨?_, q2, q3, q4, q5, q6⟩
      obtain ⟨t, ht, -⟩ := State.frames_cons hr
      show ({ U with heap := s₂.heap, slotsUsed := s₂.slotsUsed } : State) = { U.setFrames U.frames with heap := s₂.heap, slotsUsed := s₂.slotsUsed }
      rw [State.setFrames_self ht]
    subst hg
    refine Or.inl ⟨v, ⟨(({ U with heap := s₂.heap, slotsUsed := s₂.slotsUsed } : State).setVm s₂.vm), Ls ++ L, c0 + mc, s0 + ms⟩,
      ⟨X.admits, X.cas, X.clock, X.frames, X.room, X.hears, X.method, X.code, (X.here.setHeapUsed s₂.heap s₂.slotsUsed).setVm hW'.alike, X.tail, State.WarmedH.trans X.warmed hW', X.limits, X.bytes, X.same.trans (hsame.setVm s.vm)⟩,
      ⟨g, mk, s₂, L, rfl, rfl, hqc, rfl, hL, rfl, rfl⟩, ?_⟩
    show Steps p.tables e below _ ((({ U with heap := s₂.heap, slotsUsed := s₂.slotsUsed } : State).setVm s₂.vm).setTop { g with pc := g.pc + len₂, stack := v.toList ++ g.stack })
    rw [← hs₂]
    exact hsteps
  · obtain ⟨e2, q2, q3, q4, q5, q6⟩ := id hsm
    have e3 : s₂ = ({ (U.calling g mk a).setFrames s₂.frames with heap := s₂.heap, slotsUsed := s₂.slotsUsed } : State).setVm s₂.vm := by
      have : s₂ = ({ s₂ with vm := (U.calling g mk a).vm } : State).setVm s₂.vm := rfl
      rw [e2] at this
      exact this
    have hf₂ : s₂.frames = .throwing q :: .java g :: U.frames.tail := hend
    have hW' : U.WarmedH s₂.vm := hW₂
    have hs₂ : s₂ = ((({ U with heap := s₂.heap, slotsUsed := s₂.slotsUsed } : State).setVm s₂.vm).setTop g).pushFrame (.throwing q) := by
      refine e3.trans ?_
      rw [hf₂, State.calling_eq h.top, State.setFrames_setFrames, State.pushFrame, State.frames_setTop _ hr', State.setTop_of_frames _ hr', State.setFrames_setFrames, hr]
      rfl
    have hsame : U.sameButNew ({ U with heap := s₂.heap, slotsUsed := s₂.slotsUsed } : State) L mc ms := by
      refine ⟨?_, q2, q3, q4, q5, q6⟩
      obtain ⟨t, ht, -⟩ := State.frames_cons hr
      show ({ U with heap := s₂.heap, slotsUsed := s₂.slotsUsed } : State) = { U.setFrames U.frames with heap := s₂.heap, slotsUsed := s₂.slotsUsed }
      rw [State.setFrames_self ht]
    subst hg
    refine Or.inr ⟨q, ⟨(({ U with heap := s₂.heap, slotsUsed := s₂.slotsUsed } : State).setVm s₂.vm), Ls ++ L, c0 + mc, s0 + ms⟩,
      ⟨X.admits, X.cas, X.clock, X.frames, X.room, X.hears, X.method, X.code, (X.here.setHeapUsed s₂.heap s₂.slotsUsed).setVm hW'.alike, X.tail, State.WarmedH.trans X.warmed hW', X.limits, X.bytes, X.same.trans (hsame.setVm s.vm)⟩,
      ⟨g, mk, s₂, L, E, ce, rfl, rfl, hx, hce, hcv, hcl, rfl, hL, rfl, rfl⟩, ?_⟩
    show Steps p.tables e below _ (((({ U with heap := s₂.heap, slotsUsed := s₂.slotsUsed } : State).setVm s₂.vm).setTop g).pushFrame (.throwing q))
    rw [← hs₂]
    exact hsteps
end
variable {p : Program} {l : Launch} {e : Env} {R : Room} {s : State} {m : MethodId} {args : Array Value} {below : List Frame} {meth : Method} {c : Code} {T : State} {H : Heap} {locs : List Loc} {cells slots : Nat}
theorem vx_callVX (X : Stand p l e R s m args below meth c T locs cells slots) (hexec : p.tables.exec = Jvm.exec) {own C : String} {index : Nat} {y : MethodName} {bytes : ByteArray} {maxL : Nat} {ret : Option FieldType} {hh : List (Nat × Nat × Nat × Nat)}
    (hown : s.vm.findClass own = some m.cls) (hlink : (Cond.methodLink own index y).before args s = true) (hinst : (Cond.instanceMethod y).before args s = true) (hsel : (Cond.selects C y y).before args s = true)
    (hcode : (Cond.codeWith y bytes maxL ret hh).before args s = true) (hy : y.cls ≠ "java/lang/invoke/MethodHandle" ∧ y.cls ≠ "java/lang/invoke/VarHandle")
    {W9 : Nat} {Pre : Pt → Array Value → Prop} {Post : Pt → Array Value → Option Value → Pt → Prop} {PostX : Pt → Array Value → Addr → Pt → Prop} (hK : vx_Back l R p e below s args y 3 W9 Pre Post PostX)
    {b : Addr} {cellB : Cell} (hcell : T.heap[b]? = some cellB) (hobj : cellB.vm.isStatics = false) (hcls : s.vm.findClass C = some cellB.cls)
    {g : JFrame} (hg : g.method = m) (hsize : g.locals.size = c.maxLocals) {argsL rest : List Value} (hlen : ∀ sig, parseMethodDescriptor y.desc = some sig → argsL.length = sig.parameters.length)
    (hstack : g.stack = argsL.reverse ++ .ref b :: rest) (hW : 2 * g.monitorRoom + (rest.map fun v => v.category).sum ≤ W9) (hdg : decode c.code g.pc = .ok (.invokevirtual index, 3))
    (hpre : ∀ vm₁, s.WarmedH vm₁ → Pre ⟨T.setVm vm₁, locs, cells, slots⟩ (Value.ref b :: argsL).toArray) :
    (∃ (v : Option Value) (vm₁ : Vm) (B : Pt), s.WarmedH vm₁ ∧ Stand p l e R s m args below meth c B.U B.locs B.cells B.slots ∧ Post ⟨T.setVm vm₁, locs, cells, slots⟩ (Value.ref b :: argsL).toArray v B ∧
      ∀ target, Steps p.tables e below (B.U.setTop { g with pc := g.pc + 3, stack := v.toList ++ rest }) target → Steps p.tables e below (T.setTop g) target) ∨
    (∃ (q : Addr) (vm₁ : Vm) (B : Pt), s.WarmedH vm₁ ∧ Stand p l e R s m args below meth c B.U B.locs B.cells B.slots ∧ PostX ⟨T.setVm vm₁, locs, cells, slots⟩ (Value.ref b :: argsL).toArray q B ∧
      Steps p.tables e below (T.setTop g) ((B.U.setTop { g with stack := rest }).pushFrame (.throwing q))) := by
  obtain ⟨mk, methM, hnamed, hmethM, hstM, habM⟩ := Cond.instanceMethod_spec hinst
  obtain ⟨m8, methM', cM, hn8, hmethM', -, -, -, -, -, -, hsigM⟩ := Cond.codeWith_spec hcode
  cases Option.some.inj (hn8.symm.trans hnamed)
  cases hmethM.symm.trans hmethM'
  obtain ⟨c2, r2, m2, q1, q2, q3, q4, kP, hkP, hkPi⟩ := Cond.selects_spec hsel
  cases hcls.symm.trans q1
  cases (State.methodFound?_of_named hnamed hy).symm.trans q2
  cases hnamed.symm.trans q3
  have hselP : selectMethod e.platform s.vm cellB.cls mk = .method mk := by rw [Launch.admits_selectMethod X.admits]; exact q4
  obtain ⟨vm₁, X₁, hstep₁⟩ := X.invokevirtual hexec hown hlink hnamed hmethM hstM hkP hkPi hy (a := b) (cell := cellB) hcell
    (fun z h => by rw [h] at hobj; cases hobj) hselP hmethM habM hkP hkPi (g := g) hg (argsL := argsL) (rest := rest) (hlen _ hsigM) hstack hdg
  rcases hK m meth c ⟨T.setVm vm₁, locs, cells, slots⟩ { g with stack := rest } (.invokevirtual index) mk (Value.ref b :: argsL).toArray X₁ hg hsize hdg hW (X₁.named hnamed) (hpre vm₁ X₁.warmed) with ⟨v, B, X', hpost, hsteps⟩ | ⟨q, B, X', hpost, hsteps⟩
  · exact Or.inl ⟨v, vm₁, B, X₁.warmed, X', hpost, fun target h => hstep₁ _ fun acts => by rw [doInvoke_state]; exact hsteps.trans h⟩
  · exact Or.inr ⟨q, vm₁, B, X₁.warmed, X', hpost, hstep₁ _ fun acts => by rw [doInvoke_state]; exact hsteps⟩
theorem vx_callSX (X : Stand p l e R s m args below meth c T locs cells slots) (hexec : p.tables.exec = Jvm.exec) {own : String} {index : Nat} {y : MethodName} {bytes : ByteArray} {maxL : Nat} {ret : Option FieldType} {hh : List (Nat × Nat × Nat × Nat)}
    (hown : s.vm.findClass own = some m.cls) (hlink : (Cond.methodLink own index y).before args s = true) (hstat : (Cond.static y).before args s = true) (hinit : (Cond.initialized y.cls).before args s = true)
    (hcode : (Cond.codeWith y bytes maxL ret hh).before args s = true) (hy : y.cls ≠ "java/lang/invoke/MethodHandle" ∧ y.cls ≠ "java/lang/invoke/VarHandle")
    {W9 : Nat} {Pre : Pt → Array Value → Prop} {Post : Pt → Array Value → Option Value → Pt → Prop} {PostX : Pt → Array Value → Addr → Pt → Prop} (hK : vx_Back l R p e below s args y 3 W9 Pre Post PostX)
    {g : JFrame} (hg : g.method = m) (hsize : g.locals.size = c.maxLocals) {argsL rest : List Value} (hlen : ∀ sig, parseMethodDescriptor y.desc = some sig → argsL.length = sig.parameters.length)
    (hstack : g.stack = argsL.reverse ++ rest) (hW : 2 * g.monitorRoom + (rest.map fun v => v.category).sum ≤ W9) (hdg : decode c.code g.pc = .ok (.invokestatic index, 3))
    (hpre : ∀ vm₁, s.WarmedH vm₁ → Pre ⟨T.setVm vm₁, locs, cells, slots⟩ argsL.toArray) :
    (∃ (v : Option Value) (vm₁ : Vm) (B : Pt), s.WarmedH vm₁ ∧ Stand p l e R s m args below meth c B.U B.locs B.cells B.slots ∧ Post ⟨T.setVm vm₁, locs, cells, slots⟩ argsL.toArray v B ∧
      ∀ target, Steps p.tables e below (B.U.setTop { g with pc := g.pc + 3, stack := v.toList ++ rest }) target → Steps p.tables e below (T.setTop g) target) ∨
    (∃ (q : Addr) (vm₁ : Vm) (B : Pt), s.WarmedH vm₁ ∧ Stand p l e R s m args below meth c B.U B.locs B.cells B.slots ∧ PostX ⟨T.setVm vm₁, locs, cells, slots⟩ argsL.toArray q B ∧
      Steps p.tables e below (T.setTop g) ((B.U.setTop { g with stack := rest }).pushFrame (.throwing q))) := by
  obtain ⟨mk, methM, cM, hnamed, hmethM, -, -, -, -, -, -, hsigM⟩ := Cond.codeWith_spec hcode
  have hstatic : methM.isStatic = true := Cond.static_spec hnamed hmethM hstat
  obtain ⟨kP, hkP, -⟩ := className_of_methodNamed hnamed
  have hinitP : kP.init = .initialized := Cond.initialized_spec (findClass_of_methodNamed hnamed) hkP hinit
  obtain ⟨vm₁, X₁, hstep₁⟩ := X.invokestatic hexec hown hlink hnamed hmethM hstatic hkP hinitP hy (g := g) hg (argsL := argsL) (rest := rest) (hlen _ hsigM) hstack hdg
  rcases hK m meth c ⟨T.setVm vm₁, locs, cells, slots⟩ { g with stack := rest } (.invokestatic index) mk argsL.toArray X₁ hg hsize hdg hW (X₁.named hnamed) (hpre vm₁ X₁.warmed) with ⟨v, B, X', hpost, hsteps⟩ | ⟨q, B, X', hpost, hsteps⟩
  · exact Or.inl ⟨v, vm₁, B, X₁.warmed, X', hpost, fun target h => hstep₁ _ fun acts => by rw [doInvoke_state]; exact hsteps.trans h⟩
  · exact Or.inr ⟨q, vm₁, B, X₁.warmed, X', hpost, hstep₁ _ fun acts => by rw [doInvoke_state]; exact hsteps⟩
theorem vx_callVW (X : Stand p l e R s m args below meth c T locs cells slots) (hexec : p.tables.exec = Jvm.exec) {own C : String} {index : Nat} {y : MethodName} {bytes : ByteArray} {maxL : Nat} {ret : Option FieldType} {hh : List (Nat × Nat × Nat × Nat)}
    (hown : s.vm.findClass own = some m.cls) (hlink : (Cond.methodLink own index y).before args s = true) (hinst : (Cond.instanceMethod y).before args s = true) (hsel : (Cond.selects C y y).before args s = true)
    (hcode : (Cond.codeWith y bytes maxL ret hh).before args s = true) (hy : y.cls ≠ "java/lang/invoke/MethodHandle" ∧ y.cls ≠ "java/lang/invoke/VarHandle")
    {W9 : Nat} {Pre : Pt → Array Value → Prop} {Post : Pt → Array Value → Option Value → Pt → Prop} (hK : Back l R p e below s args y 3 W9 Pre Post)
    {b : Addr} {cellB : Cell} (hcell : T.heap[b]? = some cellB) (hobj : cellB.vm.isStatics = false) (hcls : s.vm.findClass C = some cellB.cls)
    {g : JFrame} (hg : g.method = m) (hsize : g.locals.size = c.maxLocals) {argsL rest : List Value} (hlen : ∀ sig, parseMethodDescriptor y.desc = some sig → argsL.length = sig.parameters.length)
    (hstack : g.stack = argsL.reverse ++ .ref b :: rest) (hW : 2 * g.monitorRoom + (rest.map fun v => v.category).sum ≤ W9) (hdg : decode c.code g.pc = .ok (.invokevirtual index, 3))
    (hpre : ∀ vm₁, s.WarmedH vm₁ → Pre ⟨T.setVm vm₁, locs, cells, slots⟩ (Value.ref b :: argsL).toArray) :
    ∃ (v : Option Value) (vm₁ : Vm) (B : Pt), s.WarmedH vm₁ ∧ Stand p l e R s m args below meth c B.U B.locs B.cells B.slots ∧ Post ⟨T.setVm vm₁, locs, cells, slots⟩ (Value.ref b :: argsL).toArray v B ∧
      ∀ target, Steps p.tables e below (B.U.setTop { g with pc := g.pc + 3, stack := v.toList ++ rest }) target → Steps p.tables e below (T.setTop g) target := by
  obtain ⟨mk, methM, hnamed, hmethM, hstM, habM⟩ := Cond.instanceMethod_spec hinst
  obtain ⟨m8, methM', cM, hn8, hmethM', -, -, -, -, -, -, hsigM⟩ := Cond.codeWith_spec hcode
  cases Option.some.inj (hn8.symm.trans hnamed)
  cases hmethM.symm.trans hmethM'
  obtain ⟨c2, r2, m2, q1, q2, q3, q4, kP, hkP, hkPi⟩ := Cond.selects_spec hsel
  cases hcls.symm.trans q1
  cases (State.methodFound?_of_named hnamed hy).symm.trans q2
  cases hnamed.symm.trans q3
  have hselP : selectMethod e.platform s.vm cellB.cls mk = .method mk := by rw [Launch.admits_selectMethod X.admits]; exact q4
  obtain ⟨vm₁, X₁, hstep₁⟩ := X.invokevirtual hexec hown hlink hnamed hmethM hstM hkP hkPi hy (a := b) (cell := cellB) hcell
    (fun z h => by rw [h] at hobj; cases hobj) hselP hmethM habM hkP hkPi (g := g) hg (argsL := argsL) (rest := rest) (hlen _ hsigM) hstack hdg
  obtain ⟨v, B, X', hpost, hsteps⟩ := hK m meth c ⟨T.setVm vm₁, locs, cells, slots⟩ { g with stack := rest } (.invokevirtual index) mk (Value.ref b :: argsL).toArray X₁ hg hsize hdg hW (X₁.named hnamed) (hpre vm₁ X₁.warmed)
  exact ⟨v, vm₁, B, X₁.warmed, X', hpost, fun target h => hstep₁ _ fun acts => by rw [doInvoke_state]; exact hsteps.trans h⟩
abbrev vx_CVW (R : Room) (s : State) (args : Array Value) (own C : String) (index : Nat) (y : MethodName) (bytes : ByteArray) (maxL : Nat) (ret : Option FieldType) (hh : List (Nat × Nat × Nat × Nat)) (ws : List Cond) (rm : Room) (mc ms n : Nat) : Prop :=
  (rm.cells = mc ∧ rm.slots = ms ∧ rm.frames + 1 ≤ R.frames ∧ 8 + (maxL + 11) + rm.locals ≤ R.locals ∧ (∀ w ∈ ws, ∀ (a' : Array Value) (U : State), s.WarmedH U.vm → w.before a' U = true) ∧ Cond.codeWith y bytes maxL ret hh ∈ ws) ∧
  (Cond.codeWith y bytes maxL ret hh).before args s = true ∧ (Cond.initialized y.cls).before args s = true ∧ (y.cls ≠ "java/lang/invoke/MethodHandle" ∧ y.cls ≠ "java/lang/invoke/VarHandle") ∧
  (∀ sig, parseMethodDescriptor y.desc = some sig → n = sig.parameters.length) ∧ (Cond.methodLink own index y).before args s = true ∧ (Cond.instanceMethod y).before args s = true ∧ (Cond.selects C y y).before args s = true
theorem vx_cwVW {own C : String} {index maxL mc ms : Nat} {y : MethodName} {bytes : ByteArray} {ret : Option FieldType} {hh : List (Nat × Nat × Nat × Nat)} {Ts ws ws' : List Cond} {rm : Room} (n : Nat) (ht : ∀ w ∈ Ts, w.before args s = true) (hT : GoodIn Ts (wsV own index C y ws)) (hw : ws = Cond.codeWith y bytes maxL ret hh :: ws') (hrc : rm.cells = mc) (hrs : rm.slots = ms)
    (hd : y.cls = C ∧ y.cls ≠ "java/lang/invoke/MethodHandle" ∧ y.cls ≠ "java/lang/invoke/VarHandle" ∧ (parseMethodDescriptor y.desc).map (fun d => d.parameters.length) = some n) (hR : rm.frames + 1 ≤ R.frames ∧ 8 + (maxL + 11) + rm.locals ≤ R.locals) :
    vx_CVW R s args own C index y bytes maxL ret hh ws rm mc ms n := by
  obtain ⟨hC, hd⟩ := hd
  subst hC
  have ok : ∀ w ∈ wsV own index y.cls y ws, w.before args s = true := fun w h => ht w (hT w h).1
  have hG : GoodIn Ts ws := fun w h => hT w (by unfold wsV; exact List.mem_append_right _ h)
  have hc : Cond.codeWith y bytes maxL ret hh ∈ ws := by rw [hw]; exact List.mem_cons_self
  refine ⟨⟨hrc, hrs, hR.1, hR.2, pay_in ht hG, hc⟩, ht _ (hG _ hc).1, ok _ (by simp [wsV]), ⟨hd.1, hd.2.1⟩, fun sig h => ?_, ok _ (by simp [wsV]), ok _ (by simp [wsV]), ok _ (by simp [wsV])⟩
  have h2 := hd.2.2
  rw [h] at h2
  exact (Option.some.inj h2).symm
theorem vx_runVW {y : MethodName} {bytes cc : ByteArray} {maxL nL mc ms n index : Nat} {ret : Option FieldType} {hh : List (Nat × Nat × Nat × Nat)} {ws : List Cond} {rm : Room} {Pc : Array Value → State → Prop} {Qc : Array Value → State → Outcome → State → Prop} {free : Addr → Prop} {Ts : List Cond} {own C : String} {b : Addr} {As rest : List Value} {g : JFrame}
    (S : CallFix p m c cc nL s args Ts own) (hM : Met l y ws rm Pc Qc mc ms free) (cw : vx_CVW R s args own C index y bytes maxL ret hh ws rm mc ms n) (hp : PreV s H C b Pc As)
    (hg : g.method = m) (hn : As.length = n) (hsize : g.locals.size = nL) (hstack : g.stack = As.reverse ++ .ref b :: rest) (hW : 2 * g.monitorRoom + (rest.map fun v => v.category).sum ≤ 8) (hdg : decode cc g.pc = .ok (.invokevirtual index, 3)) (hf : cells + mc ≤ R.cells ∧ slots + ms ≤ R.slots) :
    va_Run p l e R s m args below meth c H locs cells slots mc ms g rest (Qc (Value.ref b :: As).toArray) free := by
  obtain ⟨⟨hrc, hrs, hfr, hlo, hws, hcw⟩, hcode, hini, hy, hlen, hl, hin, hse⟩ := cw
  have hK : Back l R p e below s args y 3 8 (PreOf R mc ms Pc) (PostOf Qc mc ms free) := va_backW (hh := hh) (bytes := bytes) (maxL := maxL) (ret := ret) hM hp.1 hrc hrs hfr hlo hws hcw (fun a' U hW => word_at hW (Or.inl (by first | rfl | simp [Cond.onTables, Cond.keeps, Cond.steady])) hini)
  obtain ⟨hx, hb, hml, ho, -⟩ := S
  obtain ⟨-, ⟨cellB, hcB, hoB, hclB⟩, hPc⟩ := hp
  intro T hT X
  obtain ⟨v, vm₁, ⟨U', l2, c2, s2⟩, hW₁, X', ⟨g', mk, t, L, e1, e2, hq, h1, hL, h2, h3⟩, st⟩ := vx_callVW X hx (C := C) (hh := hh) (bytes := bytes) (maxL := maxL) (ret := ret) ho hl hin hse hcode hy hK (by rw [hT]; exact hcB) hoB hclB hg (hsize.trans hml.symm) (argsL := As) (rest := rest) (fun sig h => hn.trans (hlen sig h)) hstack hW (by rw [hb]; exact hdg)
    (fun vm₁ hW₁ => ⟨hf.1, hf.2, hPc (T.setVm vm₁) hT hW₁⟩)
  dsimp only [Pt.U, Pt.locs, Pt.cells, Pt.slots] at X' e1 e2 h1 h2 h3 st
  subst h1; subst h2; subst h3
  exact ⟨v, (T.setVm vm₁).calling g' mk (Value.ref b :: As).toArray, t, U', L, hT, X', hL, e1, e2, hq, st⟩
section
variable {y : MethodName} {bytes cc : ByteArray} {maxL nL mc ms n index : Nat} {ret : Option FieldType} {ws : List Cond} {rm : Room} {Pc : Array Value → State → Prop} {Qc : Array Value → State → Outcome → State → Prop} {XC : String → State → State → Prop} {free : Addr → Prop} {Ts : List Cond} {own C : String} {b : Addr} {As rest : List Value} {g : JFrame}
theorem vx_runVX {hh : List (Nat × Nat × Nat × Nat)} (S : CallFix p m c cc nL s args Ts own) (hM : vx_Met l y ws rm Pc Qc XC mc ms free) (cw : vx_CVW R s args own C index y bytes maxL ret hh ws rm mc ms n) (hp : PreV s H C b Pc As)
    (hg : g.method = m) (hn : As.length = n) (hsize : g.locals.size = nL) (hstack : g.stack = As.reverse ++ .ref b :: rest) (hW : 2 * g.monitorRoom + (rest.map fun v => v.category).sum ≤ 8) (hdg : decode cc g.pc = .ok (.invokevirtual index, 3)) (hf : cells + mc ≤ R.cells ∧ slots + ms ≤ R.slots) :
    vx_Run p l e R s m args below meth c H locs cells slots mc ms g rest (Qc (Value.ref b :: As).toArray) XC free := by
  obtain ⟨⟨hrc, hrs, hfr, hlo, hws, hcw⟩, hcode, hini, hy, hlen, hl, hin, hse⟩ := cw
  have hK : vx_Back l R p e below s args y 3 8 (PreOf R mc ms Pc) (PostOf Qc mc ms free) (vx_Post XC mc ms free) := vx_backW (hh := hh) (bytes := bytes) (maxL := maxL) (ret := ret) hM hp.1 hrc hrs hfr hlo hws hcw (fun a' U hW => word_at hW (Or.inl (by first | rfl | simp [Cond.onTables, Cond.keeps, Cond.steady])) hini)
  obtain ⟨hx, hb, hml, ho, -⟩ := S
  obtain ⟨-, ⟨cellB, hcB, hoB, hclB⟩, hPc⟩ := hp
  intro T hT X
  rcases vx_callVX X hx (C := C) (hh := hh) (bytes := bytes) (maxL := maxL) (ret := ret) ho hl hin hse hcode hy hK (by rw [hT]; exact hcB) hoB hclB hg (hsize.trans hml.symm) (argsL := As) (rest := rest) (fun sig h => hn.trans (hlen sig h)) hstack hW (by rw [hb]; exact hdg)
    (fun vm₁ hW₁ => ⟨hf.1, hf.2, hPc (T.setVm vm₁) hT hW₁⟩) with ⟨v, vm₁, ⟨U', l2, c2, s2⟩, hW₁, X', ⟨g', mk, t, L, e1, e2, hq, h1, hL, h2, h3⟩, st⟩ | ⟨q, vm₁, ⟨U', l2, c2, s2⟩, hW₁, X', ⟨g', mk, t, L, E, ce, e1, e2, hq, hce, hcv, hcl, h1, hL, h2, h3⟩, st⟩
  · dsimp only [Pt.U, Pt.locs, Pt.cells, Pt.slots] at X' e1 e2 h1 h2 h3 st
    subst h1; subst h2; subst h3
    exact Or.inl ⟨v, (T.setVm vm₁).calling g' mk (Value.ref b :: As).toArray, t, U', L, hT, X', hL, e1, e2, hq, st⟩
  · dsimp only [Pt.U, Pt.locs, Pt.cells, Pt.slots] at X' e1 e2 h1 h2 h3 st hcl
    subst h1; subst h2; subst h3
    exact Or.inr ⟨q, (T.setVm vm₁).calling g' mk (Value.ref b :: As).toArray, t, U', L, E, ce, hT, X', hL, e1, e2, hq, hce, hcv, vx_cls hW₁ hcl, st⟩
theorem vx_runSX {hh : List (Nat × Nat × Nat × Nat)} (S : CallFix p m c cc nL s args Ts own) (hM : vx_Met l y ws rm Pc Qc XC mc ms free) (cw : vx_CSW R s args own index y bytes maxL ret hh ws rm mc ms n) (hp : PreS s H Pc As)
    (hg : g.method = m) (hn : As.length = n) (hsize : g.locals.size = nL) (hstack : g.stack = As.reverse ++ rest) (hW : 2 * g.monitorRoom + (rest.map fun v => v.category).sum ≤ 8) (hdg : decode cc g.pc = .ok (.invokestatic index, 3)) (hf : cells + mc ≤ R.cells ∧ slots + ms ≤ R.slots) :
    vx_Run p l e R s m args below meth c H locs cells slots mc ms g rest (Qc As.toArray) XC free := by
  obtain ⟨⟨hrc, hrs, hfr, hlo, hws, hcw⟩, hcode, hini, hy, hlen, hl, hstt⟩ := cw
  have hK : vx_Back l R p e below s args y 3 8 (PreOf R mc ms Pc) (PostOf Qc mc ms free) (vx_Post XC mc ms free) := vx_backW (hh := hh) (bytes := bytes) (maxL := maxL) (ret := ret) hM hp.1 hrc hrs hfr hlo hws hcw (fun a' U hW => word_at hW (Or.inl (by first | rfl | simp [Cond.onTables, Cond.keeps, Cond.steady])) hini)
  obtain ⟨hx, hb, hml, ho, -⟩ := S
  intro T hT X
  rcases vx_callSX X hx (hh := hh) (bytes := bytes) (maxL := maxL) (ret := ret) ho hl hstt hini hcode hy hK hg (hsize.trans hml.symm) (argsL := As) (rest := rest) (fun sig h => hn.trans (hlen sig h)) hstack hW (by rw [hb]; exact hdg)
    (fun vm₁ hW₁ => ⟨hf.1, hf.2, hp.2 (T.setVm vm₁) hT hW₁⟩) with ⟨v, vm₁, ⟨U', l2, c2, s2⟩, hW₁, X', ⟨g', mk, t, L, e1, e2, hq, h1, hL, h2, h3⟩, st⟩ | ⟨q, vm₁, ⟨U', l2, c2, s2⟩, hW₁, X', ⟨g', mk, t, L, E, ce, e1, e2, hq, hce, hcv, hcl, h1, hL, h2, h3⟩, st⟩
  · dsimp only [Pt.U, Pt.locs, Pt.cells, Pt.slots] at X' e1 e2 h1 h2 h3 st
    subst h1; subst h2; subst h3
    exact Or.inl ⟨v, (T.setVm vm₁).calling g' mk As.toArray, t, U', L, hT, X', hL, e1, e2, hq, st⟩
  · dsimp only [Pt.U, Pt.locs, Pt.cells, Pt.slots] at X' e1 e2 h1 h2 h3 st hcl
    subst h1; subst h2; subst h3
    exact Or.inr ⟨q, (T.setVm vm₁).calling g' mk As.toArray, t, U', L, E, ce, hT, X', hL, e1, e2, hq, hce, hcv, vx_cls hW₁ hcl, st⟩
end
end VXH
theorem vx_ofWH {l : Launch} {y : MethodName} {ws ws' : List Cond} {rm : Room} {Pc : Array Value → State → Prop} {Qc : Array Value → State → Outcome → State → Prop} {XC : String → State → State → Prop} {mc ms : Nat} {free : Addr → Prop} {cc : ByteArray} {maxL : Nat} {ret : Option FieldType} {hh : List (Nat × Nat × Nat × Nat)}
    (hy : plainName y.cls = true) (hw : ws = Cond.codeWith y cc maxL ret hh :: ws')
    (body : ∀ p e s m args below meth c s₁, BodyLoose p l y (headSpec ws rm) cc maxL ret e s m args below meth c s₁ → c.maxLocals = maxL → Pc args s →
      W p l e (headSpec ws rm).room s m args below meth c s.heap [] 0 0 (vx_MQ below Qc XC args s mc ms free) (entryFrame m args maxL)) : vx_Met l y ws rm Pc Qc XC mc ms free := by
  refine MetFree.of_bodyS (code := cc) (maxLocals := maxL) (ret := ret) hy ?_ ?_
  · intro args s m h hn
    obtain ⟨m9, meth, c, hn9, h1, h2, h3, h4, -, h5, h6, -⟩ := Cond.codeWith_spec (atoms_spec (ws := ws) h _ (by rw [hw]; exact List.mem_cons_self))
    cases hn.symm.trans hn9
    exact ⟨meth, c, h1, h2, h3, h4, h5, h6⟩
  · intro p e s m args below meth c s₁ B hml hP _
    have hh0 : s₁.heap = s.heap := by rw [B.state]; rfl
    obtain ⟨t, a1, o, b1, b2, b3⟩ := body p e s m args below meth c s₁ B hml hP s₁ hh0 (Stand.of_body B)
    exact ⟨t, o, a1, b1, b2, b3⟩
/-! ===== END ===== -/

/-! ===== BEGIN printed: names, fields, word lists, decode rows ===== -/
end
section
def RX0 : String := "DeskStack$Decimal"
def TX0 : u_T := fun k => match k with
  | _ => ("", "", "", false)
def tyX0 : Nat → FieldType := fun k => match k with
  | _ => .int
abbrev wsX00 : List Cond := u_ws RX0 TX0 0
theorem nmX0 : ∀ a, a < 0 → ∀ b, b < 0 → a ≠ b → (TX0 a).2.1 ≠ (TX0 b).2.1 := by decide +kernel
theorem tyX0_ok : ∀ k, k < 0 → parseFieldDescriptor (TX0 k).2.2.1 = some (tyX0 k) := by decide +kernel
abbrev cX0_sum : ByteArray := prog_2_method_2_code
def yX0_sum : MethodName := ⟨RX0, "sum", "(JIJI)J"⟩
abbrev cX0_order : ByteArray := prog_2_method_3_code
def yX0_order : MethodName := ⟨RX0, "order", "(JIJI)I"⟩
abbrev cX0_times : ByteArray := prog_2_method_4_code
def yX0_times : MethodName := ⟨RX0, "times", "(JJ)J"⟩
abbrev cX0_quotient : ByteArray := prog_2_method_5_code
def yX0_quotient : MethodName := ⟨RX0, "quotient", "(JIJII)J"⟩
abbrev cX0_remainder : ByteArray := prog_2_method_6_code
def yX0_remainder : MethodName := ⟨RX0, "remainder", "(JIJII)J"⟩
abbrev cX0_root : ByteArray := prog_2_method_7_code
def yX0_root : MethodName := ⟨RX0, "root", "(JII)J"⟩
abbrev cX0_asPlaces : ByteArray := prog_2_method_8_code
def yX0_asPlaces : MethodName := ⟨RX0, "asPlaces", "(JI)I"⟩
abbrev cX0_cutOff : ByteArray := prog_2_method_9_code
def yX0_cutOff : MethodName := ⟨RX0, "cutOff", "(JI)J"⟩
abbrev cX0_raise : ByteArray := prog_2_method_10_code
def yX0_raise : MethodName := ⟨RX0, "raise", "(JI)J"⟩
abbrev cX0_powerOfTen : ByteArray := prog_2_method_11_code
def yX0_powerOfTen : MethodName := ⟨RX0, "powerOfTen", "(I)J"⟩
abbrev cX0_divide : ByteArray := prog_2_method_12_code
def yX0_divide : MethodName := ⟨RX0, "divide", "(JJ)J"⟩
abbrev cX0_fitting : ByteArray := prog_2_method_13_code
def yX0_fitting : MethodName := ⟨RX0, "fitting", "(J)J"⟩
def RX1 : String := "DeskStack$Nest"
def TX1 : u_T := fun k => match k with
  | 0 => ("DeskStack$Nest", "rows", "[LDeskStack$Row;", true)
  | 1 => ("DeskStack$Nest", "positions", "[I", true)
  | 2 => ("DeskStack$Nest", "ends", "[I", true)
  | _ => ("DeskStack$Nest", "count", "I", false)
def tyX1 : Nat → FieldType := fun k => match k with
  | 0 => .array (.object "DeskStack$Row")
  | 1 => .array .int
  | 2 => .array .int
  | _ => .int
abbrev wsX10 : List Cond := u_ws RX1 TX1 4
theorem nmX1 : ∀ a, a < 4 → ∀ b, b < 4 → a ≠ b → (TX1 a).2.1 ≠ (TX1 b).2.1 := by decide +kernel
theorem tyX1_ok : ∀ k, k < 4 → parseFieldDescriptor (TX1 k).2.2.1 = some (tyX1 k) := by decide +kernel
abbrev cX1_init : ByteArray := prog_3_method_1_code
def yX1_init : MethodName := ⟨RX1, "<init>", "()V"⟩
abbrev cX1_isUnderWay : ByteArray := prog_3_method_2_code
def yX1_isUnderWay : MethodName := ⟨RX1, "isUnderWay", "()Z"⟩
abbrev cX1_enter : ByteArray := prog_3_method_3_code
def yX1_enter : MethodName := ⟨RX1, "enter", "(LDeskStack$Row;II)V"⟩
abbrev cX1_enterMacro : ByteArray := prog_3_method_4_code
def yX1_enterMacro : MethodName := ⟨RX1, "enterMacro", "(LDeskStack$Row;II)V"⟩
abbrev cX1_leave : ByteArray := prog_3_method_5_code
def yX1_leave : MethodName := ⟨RX1, "leave", "()V"⟩
abbrev cX1_leaveAll : ByteArray := prog_3_method_6_code
def yX1_leaveAll : MethodName := ⟨RX1, "leaveAll", "()V"⟩
abbrev cX1_innermostRow : ByteArray := prog_3_method_7_code
def yX1_innermostRow : MethodName := ⟨RX1, "innermostRow", "()LDeskStack$Row;"⟩
abbrev cX1_position : ByteArray := prog_3_method_8_code
def yX1_position : MethodName := ⟨RX1, "position", "()I"⟩
abbrev cX1_look : ByteArray := prog_3_method_9_code
def yX1_look : MethodName := ⟨RX1, "look", "()I"⟩
abbrev cX1_pass : ByteArray := prog_3_method_10_code
def yX1_pass : MethodName := ⟨RX1, "pass", "()V"⟩
abbrev cX1_skipBlanks : ByteArray := prog_3_method_11_code
def yX1_skipBlanks : MethodName := ⟨RX1, "skipBlanks", "()V"⟩
def RX2 : String := "DeskStack$Row"
def TX2 : u_T := fun k => match k with
  | 0 => ("DeskStack$Row", "chars", "[B", true)
  | _ => ("DeskStack$Row", "size", "I", false)
def tyX2 : Nat → FieldType := fun k => match k with
  | 0 => .array .byte
  | _ => .int
abbrev wsX20 : List Cond := u_ws RX2 TX2 2
theorem nmX2 : ∀ a, a < 2 → ∀ b, b < 2 → a ≠ b → (TX2 a).2.1 ≠ (TX2 b).2.1 := by decide +kernel
theorem tyX2_ok : ∀ k, k < 2 → parseFieldDescriptor (TX2 k).2.2.1 = some (tyX2 k) := by decide +kernel
abbrev cX2_init : ByteArray := prog_4_method_1_code
def yX2_init : MethodName := ⟨RX2, "<init>", "()V"⟩
abbrev cX2_append : ByteArray := prog_4_method_2_code
def yX2_append : MethodName := ⟨RX2, "append", "(I)V"⟩
abbrev cX2_charAt : ByteArray := prog_4_method_3_code
def yX2_charAt : MethodName := ⟨RX2, "charAt", "(I)I"⟩
def RX3 : String := "DeskStack$Shelf"
def TX3 : u_T := fun k => match k with
  | 0 => ("DeskStack$Shelf", "values", "[J", true)
  | 1 => ("DeskStack$Shelf", "places", "[I", true)
  | 2 => ("DeskStack$Shelf", "rows", "[LDeskStack$Row;", true)
  | 3 => ("DeskStack$Shelf", "starts", "[I", true)
  | _ => ("DeskStack$Shelf", "count", "I", false)
def tyX3 : Nat → FieldType := fun k => match k with
  | 0 => .array .long
  | 1 => .array .int
  | 2 => .array (.object "DeskStack$Row")
  | 3 => .array .int
  | _ => .int
abbrev wsX30 : List Cond := u_ws RX3 TX3 5
theorem nmX3 : ∀ a, a < 5 → ∀ b, b < 5 → a ≠ b → (TX3 a).2.1 ≠ (TX3 b).2.1 := by decide +kernel
theorem tyX3_ok : ∀ k, k < 5 → parseFieldDescriptor (TX3 k).2.2.1 = some (tyX3 k) := by decide +kernel
abbrev cX3_init : ByteArray := prog_5_method_1_code
def yX3_init : MethodName := ⟨RX3, "<init>", "(I)V"⟩
abbrev cX3_isFull : ByteArray := prog_5_method_2_code
def yX3_isFull : MethodName := ⟨RX3, "isFull", "()Z"⟩
abbrev cX3_has : ByteArray := prog_5_method_3_code
def yX3_has : MethodName := ⟨RX3, "has", "(I)Z"⟩
abbrev cX3_slotBelowTop : ByteArray := prog_5_method_4_code
def yX3_slotBelowTop : MethodName := ⟨RX3, "slotBelowTop", "(I)I"⟩
abbrev cX3_valueAt : ByteArray := prog_5_method_5_code
def yX3_valueAt : MethodName := ⟨RX3, "valueAt", "(I)J"⟩
abbrev cX3_placesAt : ByteArray := prog_5_method_6_code
def yX3_placesAt : MethodName := ⟨RX3, "placesAt", "(I)I"⟩
abbrev cX3_rowAt : ByteArray := prog_5_method_7_code
def yX3_rowAt : MethodName := ⟨RX3, "rowAt", "(I)LDeskStack$Row;"⟩
abbrev cX3_startAt : ByteArray := prog_5_method_8_code
def yX3_startAt : MethodName := ⟨RX3, "startAt", "(I)I"⟩
abbrev cX3_putNumber : ByteArray := prog_5_method_9_code
def yX3_putNumber : MethodName := ⟨RX3, "putNumber", "(JI)V"⟩
abbrev cX3_putText : ByteArray := prog_5_method_10_code
def yX3_putText : MethodName := ⟨RX3, "putText", "(LDeskStack$Row;II)V"⟩
abbrev cX3_putTopOf : ByteArray := prog_5_method_11_code
def yX3_putTopOf : MethodName := ⟨RX3, "putTopOf", "(LDeskStack$Shelf;)V"⟩
abbrev cX3_put : ByteArray := prog_5_method_12_code
def yX3_put : MethodName := ⟨RX3, "put", "(JILDeskStack$Row;I)V"⟩
abbrev cX3_set : ByteArray := prog_5_method_13_code
def yX3_set : MethodName := ⟨RX3, "set", "(IJILDeskStack$Row;I)V"⟩
abbrev cX3_swapTopTwo : ByteArray := prog_5_method_14_code
def yX3_swapTopTwo : MethodName := ⟨RX3, "swapTopTwo", "()V"⟩
abbrev cX3_drop : ByteArray := prog_5_method_15_code
def yX3_drop : MethodName := ⟨RX3, "drop", "(I)V"⟩
abbrev cX3_clear : ByteArray := prog_5_method_16_code
def yX3_clear : MethodName := ⟨RX3, "clear", "()V"⟩
def RX4 : String := "DeskStack"
def TX4 : u_T := fun k => match k with
  | 0 => ("DeskStack", "stack", "LDeskStack$Shelf;", true)
  | 1 => ("DeskStack", "registers", "[LDeskStack$Shelf;", true)
  | 2 => ("DeskStack", "printer", "LDeskStack$Shelf;", true)
  | 3 => ("DeskStack", "texts", "LDeskStack$Nest;", true)
  | 4 => ("DeskStack", "program", "LDeskStack$Row;", false)
  | 5 => ("DeskStack", "keptPlaces", "I", false)
  | _ => ("DeskStack", "commandsDone", "I", false)
def tyX4 : Nat → FieldType := fun k => match k with
  | 0 => .object "DeskStack$Shelf"
  | 1 => .array (.object "DeskStack$Shelf")
  | 2 => .object "DeskStack$Shelf"
  | 3 => .object "DeskStack$Nest"
  | 4 => .object "DeskStack$Row"
  | 5 => .int
  | _ => .int
abbrev wsX40 : List Cond := u_ws RX4 TX4 7
theorem nmX4 : ∀ a, a < 7 → ∀ b, b < 7 → a ≠ b → (TX4 a).2.1 ≠ (TX4 b).2.1 := by decide +kernel
theorem tyX4_ok : ∀ k, k < 7 → parseFieldDescriptor (TX4 k).2.2.1 = some (tyX4 k) := by decide +kernel
abbrev cX4_init : ByteArray := prog_1_method_1_code
def yX4_init : MethodName := ⟨RX4, "<init>", "()V"⟩
abbrev cX4_write : ByteArray := prog_1_method_2_code
def yX4_write : MethodName := ⟨RX4, "write", "(J)I"⟩
abbrev cX4_erase : ByteArray := prog_1_method_3_code
def yX4_erase : MethodName := ⟨RX4, "erase", "()I"⟩
abbrev cX4_run : ByteArray := prog_1_method_4_code
def yX4_run : MethodName := ⟨RX4, "run", "(I)I"⟩
abbrev cX4_cost : ByteArray := prog_1_method_5_code
def yX4_cost : MethodName := ⟨RX4, "cost", "()I"⟩
abbrev cX4_prints : ByteArray := prog_1_method_6_code
def yX4_prints : MethodName := ⟨RX4, "prints", "()I"⟩
abbrev cX4_printed : ByteArray := prog_1_method_7_code
def yX4_printed : MethodName := ⟨RX4, "printed", "(I)J"⟩
abbrev cX4_places : ByteArray := prog_1_method_8_code
def yX4_places : MethodName := ⟨RX4, "places", "(I)I"⟩
abbrev cX4_depth : ByteArray := prog_1_method_9_code
def yX4_depth : MethodName := ⟨RX4, "depth", "()I"⟩
abbrev cX4_item : ByteArray := prog_1_method_10_code
def yX4_item : MethodName := ⟨RX4, "item", "(I)J"⟩
abbrev cX4_scale : ByteArray := prog_1_method_11_code
def yX4_scale : MethodName := ⟨RX4, "scale", "(I)I"⟩
abbrev cX4_held : ByteArray := prog_1_method_12_code
def yX4_held : MethodName := ⟨RX4, "held", "(I)I"⟩
abbrev cX4_precision : ByteArray := prog_1_method_13_code
def yX4_precision : MethodName := ⟨RX4, "precision", "()I"⟩
abbrev cX4_reset : ByteArray := prog_1_method_14_code
def yX4_reset : MethodName := ⟨RX4, "reset", "()V"⟩
abbrev cX4_charOf : ByteArray := prog_1_method_15_code
def yX4_charOf : MethodName := ⟨RX4, "charOf", "(JI)I"⟩
abbrev cX4_registerNumbered : ByteArray := prog_1_method_16_code
def yX4_registerNumbered : MethodName := ⟨RX4, "registerNumbered", "(I)LDeskStack$Shelf;"⟩
abbrev cX4_doCommand : ByteArray := prog_1_method_17_code
def yX4_doCommand : MethodName := ⟨RX4, "doCommand", "()V"⟩
abbrev cX4_isDigit : ByteArray := prog_1_method_18_code
def yX4_isDigit : MethodName := ⟨RX4, "isDigit", "(I)Z"⟩
abbrev cX4_beginsNumber : ByteArray := prog_1_method_19_code
def yX4_beginsNumber : MethodName := ⟨RX4, "beginsNumber", "(I)Z"⟩
abbrev cX4_putWrittenNumber : ByteArray := prog_1_method_20_code
def yX4_putWrittenNumber : MethodName := ⟨RX4, "putWrittenNumber", "()V"⟩
abbrev cX4_putWrittenText : ByteArray := prog_1_method_21_code
def yX4_putWrittenText : MethodName := ⟨RX4, "putWrittenText", "()V"⟩
abbrev cX4_needItems : ByteArray := prog_1_method_22_code
def yX4_needItems : MethodName := ⟨RX4, "needItems", "(I)V"⟩
abbrev cX4_needNumbers : ByteArray := prog_1_method_23_code
def yX4_needNumbers : MethodName := ⟨RX4, "needNumbers", "(I)V"⟩
abbrev cX4_calculate : ByteArray := prog_1_method_24_code
def yX4_calculate : MethodName := ⟨RX4, "calculate", "(I)V"⟩
abbrev cX4_changeNumber : ByteArray := prog_1_method_25_code
def yX4_changeNumber : MethodName := ⟨RX4, "changeNumber", "(I)V"⟩
abbrev cX4_arrangeStack : ByteArray := prog_1_method_26_code
def yX4_arrangeStack : MethodName := ⟨RX4, "arrangeStack", "(I)V"⟩
abbrev cX4_registerOfLetter : ByteArray := prog_1_method_27_code
def yX4_registerOfLetter : MethodName := ⟨RX4, "registerOfLetter", "()LDeskStack$Shelf;"⟩
abbrev cX4_needHeld : ByteArray := prog_1_method_28_code
def yX4_needHeld : MethodName := ⟨RX4, "needHeld", "(LDeskStack$Shelf;)V"⟩
abbrev cX4_moveToOrFromRegister : ByteArray := prog_1_method_29_code
def yX4_moveToOrFromRegister : MethodName := ⟨RX4, "moveToOrFromRegister", "(I)V"⟩
abbrev cX4_runTop : ByteArray := prog_1_method_30_code
def yX4_runTop : MethodName := ⟨RX4, "runTop", "()V"⟩
abbrev cX4_runIfOrdered : ByteArray := prog_1_method_31_code
def yX4_runIfOrdered : MethodName := ⟨RX4, "runIfOrdered", "(I)V"⟩
def RX5 : String := "DeskStackModel"
def TX5 : u_T := fun k => match k with
  | 0 => ("DeskStackModel", "program", "[I", true)
  | 1 => ("DeskStackModel", "length", "I", false)
  | 2 => ("DeskStackModel", "value", "[J", true)
  | 3 => ("DeskStackModel", "places", "[I", true)
  | 4 => ("DeskStackModel", "letters", "[I", true)
  | 5 => ("DeskStackModel", "depth", "I", false)
  | 6 => ("DeskStackModel", "precision", "I", false)
  | 7 => ("DeskStackModel", "held", "[I", true)
  | 8 => ("DeskStackModel", "text", "[I", true)
  | 9 => ("DeskStackModel", "size", "[I", true)
  | 10 => ("DeskStackModel", "at", "[I", true)
  | 11 => ("DeskStackModel", "levels", "I", false)
  | 12 => ("DeskStackModel", "shown", "[J", true)
  | 13 => ("DeskStackModel", "shownPlaces", "[I", true)
  | 14 => ("DeskStackModel", "prints", "I", false)
  | 15 => ("DeskStackModel", "cost", "I", false)
  | 16 => ("DeskStackModel", "fault", "I", false)
  | 17 => ("DeskStackModel", "thrown", "I", false)
  | 18 => ("DeskStackModel", "over", "Z", false)
  | 19 => ("DeskStackModel", "m", "J", false)
  | _ => ("DeskStackModel", "s", "I", false)
def tyX5 : Nat → FieldType := fun k => match k with
  | 0 => .array .int
  | 1 => .int
  | 2 => .array .long
  | 3 => .array .int
  | 4 => .array .int
  | 5 => .int
  | 6 => .int
  | 7 => .array .int
  | 8 => .array .int
  | 9 => .array .int
  | 10 => .array .int
  | 11 => .int
  | 12 => .array .long
  | 13 => .array .int
  | 14 => .int
  | 15 => .int
  | 16 => .int
  | 17 => .int
  | 18 => .boolean
  | 19 => .long
  | _ => .int
abbrev wsX50 : List Cond := u_ws RX5 TX5 21
theorem nmX5 : ∀ a, a < 21 → ∀ b, b < 21 → a ≠ b → (TX5 a).2.1 ≠ (TX5 b).2.1 := by decide +kernel
theorem tyX5_ok : ∀ k, k < 21 → parseFieldDescriptor (TX5 k).2.2.1 = some (tyX5 k) := by decide +kernel
abbrev cX5_init : ByteArray := prog_7_method_1_code
def yX5_init : MethodName := ⟨RX5, "<init>", "()V"⟩
abbrev cX5_thrown : ByteArray := prog_7_method_2_code
def yX5_thrown : MethodName := ⟨RX5, "thrown", "()I"⟩
abbrev cX5_within : ByteArray := prog_7_method_3_code
def yX5_within : MethodName := ⟨RX5, "within", "(JJJ)Z"⟩
abbrev cX5_write : ByteArray := prog_7_method_4_code
def yX5_write : MethodName := ⟨RX5, "write", "(J)I"⟩
abbrev cX5_erase : ByteArray := prog_7_method_5_code
def yX5_erase : MethodName := ⟨RX5, "erase", "()I"⟩
abbrev cX5_copy : ByteArray := prog_7_method_6_code
def yX5_copy : MethodName := ⟨RX5, "copy", "(II)V"⟩
abbrev cX5_fail : ByteArray := prog_7_method_7_code
def yX5_fail : MethodName := ⟨RX5, "fail", "(I)Z"⟩
abbrev cX5_have : ByteArray := prog_7_method_8_code
def yX5_have : MethodName := ⟨RX5, "have", "(I)Z"⟩
abbrev cX5_numbers : ByteArray := prog_7_method_9_code
def yX5_numbers : MethodName := ⟨RX5, "numbers", "(I)Z"⟩
abbrev cX5_room : ByteArray := prog_7_method_10_code
def yX5_room : MethodName := ⟨RX5, "room", "()Z"⟩
abbrev cX5_put : ByteArray := prog_7_method_11_code
def yX5_put : MethodName := ⟨RX5, "put", "(IJI)V"⟩
abbrev cX5_register : ByteArray := prog_7_method_12_code
def yX5_register : MethodName := ⟨RX5, "register", "(I)I"⟩
abbrev cX5_topOf : ByteArray := prog_7_method_13_code
def yX5_topOf : MethodName := ⟨RX5, "topOf", "(I)I"⟩
abbrev cX5_isBig : ByteArray := prog_7_method_14_code
def yX5_isBig : MethodName := ⟨RX5, "isBig", "(J)Z"⟩
abbrev cX5_raised : ByteArray := prog_7_method_15_code
def yX5_raised : MethodName := ⟨RX5, "raised", "(JI)J"⟩
abbrev cX5_cut : ByteArray := prog_7_method_16_code
def yX5_cut : MethodName := ⟨RX5, "cut", "(JI)J"⟩
abbrev cX5_product : ByteArray := prog_7_method_17_code
def yX5_product : MethodName := ⟨RX5, "product", "(JJ)J"⟩
abbrev cX5_greater : ByteArray := prog_7_method_18_code
def yX5_greater : MethodName := ⟨RX5, "greater", "(II)I"⟩
abbrev cX5_sum : ByteArray := prog_7_method_19_code
def yX5_sum : MethodName := ⟨RX5, "sum", "(Z)Z"⟩
abbrev cX5_times : ByteArray := prog_7_method_20_code
def yX5_times : MethodName := ⟨RX5, "times", "()Z"⟩
abbrev cX5_quotient : ByteArray := prog_7_method_21_code
def yX5_quotient : MethodName := ⟨RX5, "quotient", "()Z"⟩
abbrev cX5_rest : ByteArray := prog_7_method_22_code
def yX5_rest : MethodName := ⟨RX5, "rest", "()Z"⟩
abbrev cX5_root : ByteArray := prog_7_method_23_code
def yX5_root : MethodName := ⟨RX5, "root", "()Z"⟩
abbrev cX5_charAt : ByteArray := prog_7_method_24_code
def yX5_charAt : MethodName := ⟨RX5, "charAt", "(II)I"⟩
abbrev cX5_isNothing : ByteArray := prog_7_method_25_code
def yX5_isNothing : MethodName := ⟨RX5, "isNothing", "(I)Z"⟩
abbrev cX5_isDone : ByteArray := prog_7_method_26_code
def yX5_isDone : MethodName := ⟨RX5, "isDone", "(I)Z"⟩
abbrev cX5_mayRun : ByteArray := prog_7_method_27_code
def yX5_mayRun : MethodName := ⟨RX5, "mayRun", "(I)Z"⟩
abbrev cX5_begin : ByteArray := prog_7_method_28_code
def yX5_begin : MethodName := ⟨RX5, "begin", "(II)V"⟩
abbrev cX5_digits : ByteArray := prog_7_method_29_code
def yX5_digits : MethodName := ⟨RX5, "digits", "(I)Z"⟩
abbrev cX5_brackets : ByteArray := prog_7_method_30_code
def yX5_brackets : MethodName := ⟨RX5, "brackets", "(I)Z"⟩
abbrev cX5_calculates : ByteArray := prog_7_method_31_code
def yX5_calculates : MethodName := ⟨RX5, "calculates", "(I)Z"⟩
abbrev cX5_moves : ByteArray := prog_7_method_32_code
def yX5_moves : MethodName := ⟨RX5, "moves", "(I)Z"⟩
abbrev cX5_stores : ByteArray := prog_7_method_33_code
def yX5_stores : MethodName := ⟨RX5, "stores", "(II)Z"⟩
abbrev cX5_tests : ByteArray := prog_7_method_34_code
def yX5_tests : MethodName := ⟨RX5, "tests", "(III)Z"⟩
abbrev cX5_compared : ByteArray := prog_7_method_35_code
def yX5_compared : MethodName := ⟨RX5, "compared", "()Z"⟩
abbrev cX5_runs : ByteArray := prog_7_method_36_code
def yX5_runs : MethodName := ⟨RX5, "runs", "(I)Z"⟩
abbrev cX5_isOne : ByteArray := prog_7_method_37_code
def yX5_isOne : MethodName := ⟨RX5, "isOne", "(IIIII)Z"⟩
abbrev cX5_command : ByteArray := prog_7_method_38_code
def yX5_command : MethodName := ⟨RX5, "command", "(I)Z"⟩
abbrev cX5_run : ByteArray := prog_7_method_39_code
def yX5_run : MethodName := ⟨RX5, "run", "(I)I"⟩
abbrev cX5_cost : ByteArray := prog_7_method_40_code
def yX5_cost : MethodName := ⟨RX5, "cost", "()I"⟩
abbrev cX5_prints : ByteArray := prog_7_method_41_code
def yX5_prints : MethodName := ⟨RX5, "prints", "()I"⟩
abbrev cX5_printed : ByteArray := prog_7_method_42_code
def yX5_printed : MethodName := ⟨RX5, "printed", "(I)J"⟩
abbrev cX5_places : ByteArray := prog_7_method_43_code
def yX5_places : MethodName := ⟨RX5, "places", "(I)I"⟩
abbrev cX5_depth : ByteArray := prog_7_method_44_code
def yX5_depth : MethodName := ⟨RX5, "depth", "()I"⟩
abbrev cX5_item : ByteArray := prog_7_method_45_code
def yX5_item : MethodName := ⟨RX5, "item", "(I)J"⟩
abbrev cX5_scale : ByteArray := prog_7_method_46_code
def yX5_scale : MethodName := ⟨RX5, "scale", "(I)I"⟩
abbrev cX5_held : ByteArray := prog_7_method_47_code
def yX5_held : MethodName := ⟨RX5, "held", "(I)I"⟩
abbrev cX5_precision : ByteArray := prog_7_method_48_code
def yX5_precision : MethodName := ⟨RX5, "precision", "()I"⟩
abbrev cX5_reset : ByteArray := prog_7_method_49_code
def yX5_reset : MethodName := ⟨RX5, "reset", "()V"⟩
def RJ13 : String := "java/lang/Long"
def TJ13 : u_T := fun k => match k with
  | _ => ("", "", "", false)
def tyJ13 : Nat → FieldType := fun k => match k with
  | _ => .int
abbrev wsJ130 : List Cond := u_ws RJ13 TJ13 0
theorem nmJ13 : ∀ a, a < 0 → ∀ b, b < 0 → a ≠ b → (TJ13 a).2.1 ≠ (TJ13 b).2.1 := by decide +kernel
theorem tyJ13_ok : ∀ k, k < 0 → parseFieldDescriptor (TJ13 k).2.2.1 = some (tyJ13 k) := by decide +kernel
abbrev cJ13_compare_74951 : ByteArray := prog_13_method_42_code
def yJ13_compare_74951 : MethodName := ⟨RJ13, "compare", "(JJ)I"⟩
def RJ9 : String := "java/lang/Math"
def TJ9 : u_T := fun k => match k with
  | _ => ("", "", "", false)
def tyJ9 : Nat → FieldType := fun k => match k with
  | _ => .int
abbrev wsJ90 : List Cond := u_ws RJ9 TJ9 0
theorem nmJ9 : ∀ a, a < 0 → ∀ b, b < 0 → a ≠ b → (TJ9 a).2.1 ≠ (TJ9 b).2.1 := by decide +kernel
theorem tyJ9_ok : ∀ k, k < 0 → parseFieldDescriptor (TJ9 k).2.2.1 = some (tyJ9 k) := by decide +kernel
abbrev cJ9_abs_067f4 : ByteArray := prog_14_method_61_code
def yJ9_abs_067f4 : MethodName := ⟨RJ9, "abs", "(J)J"⟩
abbrev cJ9_max_7cf53 : ByteArray := prog_14_method_65_code
def yJ9_max_7cf53 : MethodName := ⟨RJ9, "max", "(II)I"⟩
abbrev cJ9_min_7cf53 : ByteArray := prog_14_method_69_code
def yJ9_min_7cf53 : MethodName := ⟨RJ9, "min", "(II)I"⟩
def RJ0 : String := "java/lang/String"
def TJ0 : u_T := fun k => match k with
  | _ => ("", "", "", false)
def tyJ0 : Nat → FieldType := fun k => match k with
  | _ => .int
abbrev wsJ00 : List Cond := u_ws RJ0 TJ0 0
theorem nmJ0 : ∀ a, a < 0 → ∀ b, b < 0 → a ≠ b → (TJ0 a).2.1 ≠ (TJ0 b).2.1 := by decide +kernel
theorem tyJ0_ok : ∀ k, k < 0 → parseFieldDescriptor (TJ0 k).2.2.1 = some (tyJ0 k) := by decide +kernel
def RL : String := "DeskStackLaw"
abbrev cL_run : ByteArray := method_3_code
def yL_run : MethodName := ⟨RL, "run", "(LDeskStack;I[J)I"⟩
abbrev cL_law : ByteArray := code
def yL_law : MethodName := ⟨RL, "law", "([I)Z"⟩
def wsX0_powerOfTen : List Cond := .code yX0_powerOfTen cX0_powerOfTen 1 (some .long) :: ([.fieldLink RX0 78 "DeskStack$Decimal" "POWERS" "[J", .methodLink RX0 9 Lib.Math.max.name, .static Lib.Math.max.name, .initialized "java/lang/Math", .code Lib.Math.max.name Lib.Math.max.code 2 (some .int), .methodLink RX0 82 Lib.Math.min.name, .static Lib.Math.min.name, .code Lib.Math.min.name Lib.Math.min.code 2 (some .int)])
def wsX0_times : List Cond := .code yX0_times cX0_times 4 (some .long) :: ([.classLink RX0 36 "java/lang/UnsupportedOperationException", .initialized "java/lang/UnsupportedOperationException", .methodLink RX0 31 Lib.MathLoose.abs_long.x, .static Lib.MathLoose.abs_long.x, .initialized "java/lang/Math", .code Lib.MathLoose.abs_long.x Lib.MathLoose.abs_long.code 2 (some .long), .constantLong RX0 34 (999999999999999999)] ++ (vx_atS RX0 40 "java/lang/UnsupportedOperationException" ["java/lang/RuntimeException", "java/lang/Exception"]).filter goodWord)
def wsX0_raise : List Cond := .code yX0_raise cX0_raise 3 (some .long) :: ([.methodLink RX0 74 yX0_powerOfTen, .static yX0_powerOfTen, .initialized RX0, .code yX0_powerOfTen cX0_powerOfTen 1 (some .long), .fieldLink RX0 78 "DeskStack$Decimal" "POWERS" "[J", .methodLink RX0 9 Lib.Math.max.name, .static Lib.Math.max.name, .initialized "java/lang/Math", .code Lib.Math.max.name Lib.Math.max.code 2 (some .int), .methodLink RX0 82 Lib.Math.min.name, .static Lib.Math.min.name, .code Lib.Math.min.name Lib.Math.min.code 2 (some .int), .methodLink RX0 58 yX0_times, .static yX0_times, .code yX0_times cX0_times 4 (some .long), .classLink RX0 36 "java/lang/UnsupportedOperationException", .initialized "java/lang/UnsupportedOperationException", .methodLink RX0 31 Lib.MathLoose.abs_long.x, .static Lib.MathLoose.abs_long.x, .code Lib.MathLoose.abs_long.x Lib.MathLoose.abs_long.code 2 (some .long), .constantLong RX0 34 (999999999999999999)] ++ (vx_atS RX0 40 "java/lang/UnsupportedOperationException" ["java/lang/RuntimeException", "java/lang/Exception"]).filter goodWord)
def wsX0_fitting : List Cond := .code yX0_fitting cX0_fitting 2 (some .long) :: ([.classLink RX0 36 "java/lang/UnsupportedOperationException", .initialized "java/lang/UnsupportedOperationException", .methodLink RX0 31 Lib.MathLoose.abs_long.x, .static Lib.MathLoose.abs_long.x, .initialized "java/lang/Math", .code Lib.MathLoose.abs_long.x Lib.MathLoose.abs_long.code 2 (some .long), .constantLong RX0 34 (999999999999999999)] ++ (vx_atS RX0 40 "java/lang/UnsupportedOperationException" ["java/lang/RuntimeException", "java/lang/Exception"]).filter goodWord)
def wsX0_sum_r1 : List Cond := [Cond.methodLink RX0 9 Lib.Math.max.name, Cond.static Lib.Math.max.name, Cond.initialized "java/lang/Math", Cond.code Lib.Math.max.name Lib.Math.max.code 2 (some .int), Cond.methodLink RX0 15 yX0_raise, Cond.static yX0_raise, Cond.initialized RX0, Cond.code yX0_raise cX0_raise 3 (some .long), Cond.methodLink RX0 74 yX0_powerOfTen, Cond.static yX0_powerOfTen, Cond.code yX0_powerOfTen cX0_powerOfTen 1 (some .long), Cond.fieldLink RX0 78 "DeskStack$Decimal" "POWERS" "[J", Cond.methodLink RX0 82 Lib.Math.min.name, Cond.static Lib.Math.min.name, Cond.code Lib.Math.min.name Lib.Math.min.code 2 (some .int), Cond.methodLink RX0 58 yX0_times, Cond.static yX0_times, Cond.code yX0_times cX0_times 4 (some .long), Cond.classLink RX0 36 "java/lang/UnsupportedOperationException", Cond.initialized "java/lang/UnsupportedOperationException", Cond.methodLink RX0 31 Lib.MathLoose.abs_long.x, Cond.static Lib.MathLoose.abs_long.x, Cond.code Lib.MathLoose.abs_long.x Lib.MathLoose.abs_long.code 2 (some .long), Cond.constantLong RX0 34 (999999999999999999)]
def wsX0_sum_r2 : List Cond := [Cond.methodLink RX0 21 yX0_fitting, Cond.static yX0_fitting, Cond.code yX0_fitting cX0_fitting 2 (some .long)]
def wsX0_sum : List Cond := .code yX0_sum cX0_sum 7 (some .long) :: ((wsX0_sum_r1 ++ wsX0_sum_r2) ++ (vx_atS RX0 40 "java/lang/UnsupportedOperationException" ["java/lang/RuntimeException", "java/lang/Exception"]).filter goodWord)
def wsJ13_compare_74951 : List Cond := .code yJ13_compare_74951 cJ13_compare_74951 4 (some .int) :: ([])
def wsX0_order_r1 : List Cond := [Cond.methodLink RX0 9 Lib.Math.max.name, Cond.static Lib.Math.max.name, Cond.initialized "java/lang/Math", Cond.code Lib.Math.max.name Lib.Math.max.code 2 (some .int), Cond.methodLink RX0 15 yX0_raise, Cond.static yX0_raise, Cond.initialized RX0, Cond.code yX0_raise cX0_raise 3 (some .long), Cond.methodLink RX0 74 yX0_powerOfTen, Cond.static yX0_powerOfTen, Cond.code yX0_powerOfTen cX0_powerOfTen 1 (some .long), Cond.fieldLink RX0 78 "DeskStack$Decimal" "POWERS" "[J", Cond.methodLink RX0 82 Lib.Math.min.name, Cond.static Lib.Math.min.name, Cond.code Lib.Math.min.name Lib.Math.min.code 2 (some .int), Cond.methodLink RX0 58 yX0_times, Cond.static yX0_times, Cond.code yX0_times cX0_times 4 (some .long), Cond.classLink RX0 36 "java/lang/UnsupportedOperationException", Cond.initialized "java/lang/UnsupportedOperationException", Cond.methodLink RX0 31 Lib.MathLoose.abs_long.x, Cond.static Lib.MathLoose.abs_long.x, Cond.code Lib.MathLoose.abs_long.x Lib.MathLoose.abs_long.code 2 (some .long), Cond.constantLong RX0 34 (999999999999999999)]
def wsX0_order_r2 : List Cond := [Cond.methodLink RX0 25 yJ13_compare_74951, Cond.static yJ13_compare_74951, Cond.initialized RJ13, Cond.code yJ13_compare_74951 cJ13_compare_74951 4 (some .int)]
def wsX0_order : List Cond := .code yX0_order cX0_order 7 (some .int) :: ((wsX0_order_r1 ++ wsX0_order_r2) ++ (vx_atS RX0 40 "java/lang/UnsupportedOperationException" ["java/lang/RuntimeException", "java/lang/Exception"]).filter goodWord)
def wsX0_divide : List Cond := .code yX0_divide cX0_divide 4 (some .long) :: ([])
def wsX0_quotient_r1 : List Cond := [Cond.classLink RX0 43 "java/lang/ArithmeticException", Cond.initialized "java/lang/ArithmeticException", Cond.methodLink RX0 15 yX0_raise, Cond.static yX0_raise, Cond.initialized RX0, Cond.code yX0_raise cX0_raise 3 (some .long), Cond.methodLink RX0 74 yX0_powerOfTen, Cond.static yX0_powerOfTen, Cond.code yX0_powerOfTen cX0_powerOfTen 1 (some .long), Cond.fieldLink RX0 78 "DeskStack$Decimal" "POWERS" "[J", Cond.methodLink RX0 9 Lib.Math.max.name, Cond.static Lib.Math.max.name, Cond.initialized "java/lang/Math", Cond.code Lib.Math.max.name Lib.Math.max.code 2 (some .int), Cond.methodLink RX0 82 Lib.Math.min.name, Cond.static Lib.Math.min.name, Cond.code Lib.Math.min.name Lib.Math.min.code 2 (some .int), Cond.methodLink RX0 58 yX0_times, Cond.static yX0_times, Cond.code yX0_times cX0_times 4 (some .long), Cond.classLink RX0 36 "java/lang/UnsupportedOperationException", Cond.initialized "java/lang/UnsupportedOperationException", Cond.methodLink RX0 31 Lib.MathLoose.abs_long.x, Cond.static Lib.MathLoose.abs_long.x]
def wsX0_quotient_r2 : List Cond := [Cond.code Lib.MathLoose.abs_long.x Lib.MathLoose.abs_long.code 2 (some .long), Cond.constantLong RX0 34 (999999999999999999), Cond.methodLink RX0 48 yX0_divide, Cond.static yX0_divide, Cond.code yX0_divide cX0_divide 4 (some .long)]
def wsX0_quotient : List Cond := .code yX0_quotient cX0_quotient 8 (some .long) :: ((wsX0_quotient_r1 ++ wsX0_quotient_r2) ++ (vx_atS RX0 47 "java/lang/ArithmeticException" ["java/lang/RuntimeException", "java/lang/Exception"]).filter goodWord ++ (vx_atS RX0 40 "java/lang/UnsupportedOperationException" ["java/lang/RuntimeException", "java/lang/Exception"]).filter goodWord)
def wsX0_remainder_r1 : List Cond := [Cond.classLink RX0 36 "java/lang/UnsupportedOperationException", Cond.initialized "java/lang/UnsupportedOperationException", Cond.methodLink RX0 9 Lib.Math.max.name, Cond.static Lib.Math.max.name, Cond.initialized "java/lang/Math", Cond.code Lib.Math.max.name Lib.Math.max.code 2 (some .int), Cond.methodLink RX0 52 yX0_quotient, Cond.static yX0_quotient, Cond.initialized RX0, Cond.code yX0_quotient cX0_quotient 8 (some .long), Cond.classLink RX0 43 "java/lang/ArithmeticException", Cond.initialized "java/lang/ArithmeticException", Cond.methodLink RX0 15 yX0_raise, Cond.static yX0_raise, Cond.code yX0_raise cX0_raise 3 (some .long), Cond.methodLink RX0 74 yX0_powerOfTen, Cond.static yX0_powerOfTen, Cond.code yX0_powerOfTen cX0_powerOfTen 1 (some .long), Cond.fieldLink RX0 78 "DeskStack$Decimal" "POWERS" "[J", Cond.methodLink RX0 82 Lib.Math.min.name, Cond.static Lib.Math.min.name, Cond.code Lib.Math.min.name Lib.Math.min.code 2 (some .int), Cond.methodLink RX0 58 yX0_times, Cond.static yX0_times]
def wsX0_remainder_r2 : List Cond := [Cond.code yX0_times cX0_times 4 (some .long), Cond.methodLink RX0 31 Lib.MathLoose.abs_long.x, Cond.static Lib.MathLoose.abs_long.x, Cond.code Lib.MathLoose.abs_long.x Lib.MathLoose.abs_long.code 2 (some .long), Cond.constantLong RX0 34 (999999999999999999), Cond.methodLink RX0 48 yX0_divide, Cond.static yX0_divide, Cond.code yX0_divide cX0_divide 4 (some .long), Cond.methodLink RX0 21 yX0_fitting, Cond.static yX0_fitting, Cond.code yX0_fitting cX0_fitting 2 (some .long)]
def wsX0_remainder : List Cond := .code yX0_remainder cX0_remainder 13 (some .long) :: ((wsX0_remainder_r1 ++ wsX0_remainder_r2) ++ (vx_atS RX0 40 "java/lang/UnsupportedOperationException" ["java/lang/RuntimeException", "java/lang/Exception"]).filter goodWord ++ (vx_atS RX0 47 "java/lang/ArithmeticException" ["java/lang/RuntimeException", "java/lang/Exception"]).filter goodWord)
def wsX0_root_r1 : List Cond := [Cond.classLink RX0 43 "java/lang/ArithmeticException", Cond.initialized "java/lang/ArithmeticException", Cond.constantLong RX0 63 (999999999), Cond.constantLong RX0 65 (2), Cond.methodLink RX0 15 yX0_raise, Cond.static yX0_raise, Cond.initialized RX0, Cond.code yX0_raise cX0_raise 3 (some .long), Cond.methodLink RX0 74 yX0_powerOfTen, Cond.static yX0_powerOfTen, Cond.code yX0_powerOfTen cX0_powerOfTen 1 (some .long), Cond.fieldLink RX0 78 "DeskStack$Decimal" "POWERS" "[J", Cond.methodLink RX0 9 Lib.Math.max.name, Cond.static Lib.Math.max.name, Cond.initialized "java/lang/Math", Cond.code Lib.Math.max.name Lib.Math.max.code 2 (some .int), Cond.methodLink RX0 82 Lib.Math.min.name, Cond.static Lib.Math.min.name, Cond.code Lib.Math.min.name Lib.Math.min.code 2 (some .int), Cond.methodLink RX0 58 yX0_times, Cond.static yX0_times, Cond.code yX0_times cX0_times 4 (some .long), Cond.classLink RX0 36 "java/lang/UnsupportedOperationException", Cond.initialized "java/lang/UnsupportedOperationException"]
def wsX0_root_r2 : List Cond := [Cond.methodLink RX0 31 Lib.MathLoose.abs_long.x, Cond.static Lib.MathLoose.abs_long.x, Cond.code Lib.MathLoose.abs_long.x Lib.MathLoose.abs_long.code 2 (some .long), Cond.constantLong RX0 34 (999999999999999999)]
def wsX0_root : List Cond := .code yX0_root cX0_root 13 (some .long) :: ((wsX0_root_r1 ++ wsX0_root_r2) ++ (vx_atS RX0 47 "java/lang/ArithmeticException" ["java/lang/RuntimeException", "java/lang/Exception"]).filter goodWord ++ (vx_atS RX0 40 "java/lang/UnsupportedOperationException" ["java/lang/RuntimeException", "java/lang/Exception"]).filter goodWord)
def wsX0_cutOff : List Cond := .code yX0_cutOff cX0_cutOff 3 (some .long) :: ([.methodLink RX0 74 yX0_powerOfTen, .static yX0_powerOfTen, .initialized RX0, .code yX0_powerOfTen cX0_powerOfTen 1 (some .long), .fieldLink RX0 78 "DeskStack$Decimal" "POWERS" "[J", .methodLink RX0 9 Lib.Math.max.name, .static Lib.Math.max.name, .initialized "java/lang/Math", .code Lib.Math.max.name Lib.Math.max.code 2 (some .int), .methodLink RX0 82 Lib.Math.min.name, .static Lib.Math.min.name, .code Lib.Math.min.name Lib.Math.min.code 2 (some .int), .methodLink RX0 48 yX0_divide, .static yX0_divide, .code yX0_divide cX0_divide 4 (some .long)])
def wsX0_asPlaces_r1 : List Cond := [Cond.classLink RX0 43 "java/lang/ArithmeticException", Cond.initialized "java/lang/ArithmeticException", Cond.constantLong RX0 70 (9), Cond.methodLink RX0 67 yX0_cutOff, Cond.static yX0_cutOff, Cond.initialized RX0, Cond.code yX0_cutOff cX0_cutOff 3 (some .long), Cond.methodLink RX0 74 yX0_powerOfTen, Cond.static yX0_powerOfTen, Cond.code yX0_powerOfTen cX0_powerOfTen 1 (some .long), Cond.fieldLink RX0 78 "DeskStack$Decimal" "POWERS" "[J", Cond.methodLink RX0 9 Lib.Math.max.name, Cond.static Lib.Math.max.name, Cond.initialized "java/lang/Math", Cond.code Lib.Math.max.name Lib.Math.max.code 2 (some .int), Cond.methodLink RX0 82 Lib.Math.min.name, Cond.static Lib.Math.min.name, Cond.code Lib.Math.min.name Lib.Math.min.code 2 (some .int), Cond.methodLink RX0 48 yX0_divide, Cond.static yX0_divide, Cond.code yX0_divide cX0_divide 4 (some .long), Cond.methodLink RX0 15 yX0_raise, Cond.static yX0_raise, Cond.code yX0_raise cX0_raise 3 (some .long)]
def wsX0_asPlaces_r2 : List Cond := [Cond.methodLink RX0 58 yX0_times, Cond.static yX0_times, Cond.code yX0_times cX0_times 4 (some .long), Cond.classLink RX0 36 "java/lang/UnsupportedOperationException", Cond.initialized "java/lang/UnsupportedOperationException", Cond.methodLink RX0 31 Lib.MathLoose.abs_long.x, Cond.static Lib.MathLoose.abs_long.x, Cond.code Lib.MathLoose.abs_long.x Lib.MathLoose.abs_long.code 2 (some .long), Cond.constantLong RX0 34 (999999999999999999)]
def wsX0_asPlaces : List Cond := .code yX0_asPlaces cX0_asPlaces 5 (some .int) :: ((wsX0_asPlaces_r1 ++ wsX0_asPlaces_r2) ++ (vx_atS RX0 47 "java/lang/ArithmeticException" ["java/lang/RuntimeException", "java/lang/Exception"]).filter goodWord ++ (vx_atS RX0 40 "java/lang/UnsupportedOperationException" ["java/lang/RuntimeException", "java/lang/Exception"]).filter goodWord)
def wsX1_init : List Cond := .code yX1_init cX1_init 1 none :: ([.methodLink RX1 3 objectInit, .instanceMethod objectInit, .code objectInit ⟨#[0xb1]⟩ 1 none, .classLink RX1 9 RX2, .fieldLink RX1 11 "DeskStack$Nest" "rows" "[LDeskStack$Row;", .arrayClass .int, .fieldLink RX1 17 "DeskStack$Nest" "positions" "[I", .fieldLink RX1 21 "DeskStack$Nest" "ends" "[I", .fieldLink RX1 24 "DeskStack$Nest" "count" "I"] ++ wsX10)
def wsX1_isUnderWay : List Cond := .code yX1_isUnderWay cX1_isUnderWay 1 (some .boolean) :: ([.fieldLink RX1 24 "DeskStack$Nest" "count" "I", .fieldLink RX1 11 "DeskStack$Nest" "rows" "[LDeskStack$Row;"] ++ wsX10)
def wsX1_enter : List Cond := .code yX1_enter cX1_enter 4 none :: ([.classLink RX1 28 "java/lang/UnsupportedOperationException", .initialized "java/lang/UnsupportedOperationException", .fieldLink RX1 24 "DeskStack$Nest" "count" "I", .fieldLink RX1 11 "DeskStack$Nest" "rows" "[LDeskStack$Row;", .fieldLink RX1 17 "DeskStack$Nest" "positions" "[I", .fieldLink RX1 21 "DeskStack$Nest" "ends" "[I"] ++ wsX10 ++ (vx_atS RX1 32 "java/lang/UnsupportedOperationException" ["java/lang/RuntimeException", "java/lang/Exception"]).filter goodWord)
def wsX2_charAt : List Cond := .code yX2_charAt cX2_charAt 2 (some .int) :: ([.fieldLink RX2 15 "DeskStack$Row" "size" "I", .fieldLink RX2 9 "DeskStack$Row" "chars" "[B"] ++ wsX20)
def wsX1_look : List Cond := .code yX1_look cX1_look 2 (some .int) :: ([.fieldLink RX1 17 "DeskStack$Nest" "positions" "[I", .fieldLink RX1 24 "DeskStack$Nest" "count" "I", .fieldLink RX1 21 "DeskStack$Nest" "ends" "[I", .fieldLink RX1 11 "DeskStack$Nest" "rows" "[LDeskStack$Row;", .methodLink RX1 55 yX1_isUnderWay, .instanceMethod yX1_isUnderWay, .selects RX1 yX1_isUnderWay yX1_isUnderWay, .initialized RX1, .code yX1_isUnderWay cX1_isUnderWay 1 (some .boolean), .methodLink RX1 59 yX2_charAt, .instanceMethod yX2_charAt, .selects RX2 yX2_charAt yX2_charAt, .initialized RX2, .code yX2_charAt cX2_charAt 2 (some .int), .fieldLink RX2 15 "DeskStack$Row" "size" "I", .fieldLink RX2 9 "DeskStack$Row" "chars" "[B"] ++ wsX10 ++ wsX20)
def wsX1_pass : List Cond := .code yX1_pass cX1_pass 1 none :: ([.fieldLink RX1 17 "DeskStack$Nest" "positions" "[I", .fieldLink RX1 24 "DeskStack$Nest" "count" "I", .methodLink RX1 55 yX1_isUnderWay, .instanceMethod yX1_isUnderWay, .selects RX1 yX1_isUnderWay yX1_isUnderWay, .initialized RX1, .code yX1_isUnderWay cX1_isUnderWay 1 (some .boolean), .fieldLink RX1 11 "DeskStack$Nest" "rows" "[LDeskStack$Row;"] ++ wsX10)
def wsX1_skipBlanks : List Cond := .code yX1_skipBlanks cX1_skipBlanks 2 none :: ([.methodLink RX1 38 yX1_look, .instanceMethod yX1_look, .selects RX1 yX1_look yX1_look, .initialized RX1, .code yX1_look cX1_look 2 (some .int), .fieldLink RX1 17 "DeskStack$Nest" "positions" "[I", .fieldLink RX1 24 "DeskStack$Nest" "count" "I", .fieldLink RX1 21 "DeskStack$Nest" "ends" "[I", .fieldLink RX1 11 "DeskStack$Nest" "rows" "[LDeskStack$Row;", .methodLink RX1 55 yX1_isUnderWay, .instanceMethod yX1_isUnderWay, .selects RX1 yX1_isUnderWay yX1_isUnderWay, .code yX1_isUnderWay cX1_isUnderWay 1 (some .boolean), .methodLink RX1 59 yX2_charAt, .instanceMethod yX2_charAt, .selects RX2 yX2_charAt yX2_charAt, .initialized RX2, .code yX2_charAt cX2_charAt 2 (some .int), .fieldLink RX2 15 "DeskStack$Row" "size" "I", .fieldLink RX2 9 "DeskStack$Row" "chars" "[B", .methodLink RX1 63 yX1_pass, .instanceMethod yX1_pass, .selects RX1 yX1_pass yX1_pass, .code yX1_pass cX1_pass 1 none] ++ wsX10 ++ wsX20)
def wsX1_leave : List Cond := .code yX1_leave cX1_leave 1 none :: ([.fieldLink RX1 24 "DeskStack$Nest" "count" "I", .methodLink RX1 49 Lib.Math.max.name, .static Lib.Math.max.name, .initialized "java/lang/Math", .code Lib.Math.max.name Lib.Math.max.code 2 (some .int)] ++ wsX10)
def wsX1_enterMacro_r1 : List Cond := [Cond.methodLink RX1 35 yX1_skipBlanks, Cond.instanceMethod yX1_skipBlanks, Cond.selects RX1 yX1_skipBlanks yX1_skipBlanks, Cond.initialized RX1, Cond.code yX1_skipBlanks cX1_skipBlanks 2 none, Cond.methodLink RX1 38 yX1_look, Cond.instanceMethod yX1_look, Cond.selects RX1 yX1_look yX1_look, Cond.code yX1_look cX1_look 2 (some .int), Cond.fieldLink RX1 17 "DeskStack$Nest" "positions" "[I", Cond.fieldLink RX1 24 "DeskStack$Nest" "count" "I", Cond.fieldLink RX1 21 "DeskStack$Nest" "ends" "[I", Cond.fieldLink RX1 11 "DeskStack$Nest" "rows" "[LDeskStack$Row;", Cond.methodLink RX1 55 yX1_isUnderWay, Cond.instanceMethod yX1_isUnderWay, Cond.selects RX1 yX1_isUnderWay yX1_isUnderWay, Cond.code yX1_isUnderWay cX1_isUnderWay 1 (some .boolean), Cond.methodLink RX1 59 yX2_charAt, Cond.instanceMethod yX2_charAt, Cond.selects RX2 yX2_charAt yX2_charAt, Cond.initialized RX2, Cond.code yX2_charAt cX2_charAt 2 (some .int), Cond.fieldLink RX2 15 "DeskStack$Row" "size" "I", Cond.fieldLink RX2 9 "DeskStack$Row" "chars" "[B"]
def wsX1_enterMacro_r2 : List Cond := [Cond.methodLink RX1 63 yX1_pass, Cond.instanceMethod yX1_pass, Cond.selects RX1 yX1_pass yX1_pass, Cond.code yX1_pass cX1_pass 1 none, Cond.methodLink RX1 42 yX1_leave, Cond.instanceMethod yX1_leave, Cond.selects RX1 yX1_leave yX1_leave, Cond.code yX1_leave cX1_leave 1 none, Cond.methodLink RX1 49 Lib.Math.max.name, Cond.static Lib.Math.max.name, Cond.initialized "java/lang/Math", Cond.code Lib.Math.max.name Lib.Math.max.code 2 (some .int), Cond.methodLink RX1 45 yX1_enter, Cond.instanceMethod yX1_enter, Cond.selects RX1 yX1_enter yX1_enter, Cond.code yX1_enter cX1_enter 4 none, Cond.classLink RX1 28 "java/lang/UnsupportedOperationException", Cond.initialized "java/lang/UnsupportedOperationException"]
def wsX1_enterMacro : List Cond := .code yX1_enterMacro cX1_enterMacro 4 none :: ((wsX1_enterMacro_r1 ++ wsX1_enterMacro_r2) ++ wsX10 ++ wsX20 ++ (vx_atS RX1 32 "java/lang/UnsupportedOperationException" ["java/lang/RuntimeException", "java/lang/Exception"]).filter goodWord)
def wsX1_leaveAll : List Cond := .code yX1_leaveAll cX1_leaveAll 1 none :: ([.fieldLink RX1 24 "DeskStack$Nest" "count" "I"] ++ wsX10)
def wsX1_innermostRow : List Cond := .code yX1_innermostRow cX1_innermostRow 1 (some (.object "DeskStack$Row")) :: ([.fieldLink RX1 11 "DeskStack$Nest" "rows" "[LDeskStack$Row;", .fieldLink RX1 24 "DeskStack$Nest" "count" "I", .methodLink RX1 55 yX1_isUnderWay, .instanceMethod yX1_isUnderWay, .selects RX1 yX1_isUnderWay yX1_isUnderWay, .initialized RX1, .code yX1_isUnderWay cX1_isUnderWay 1 (some .boolean)] ++ wsX10)
def wsX1_position : List Cond := .code yX1_position cX1_position 1 (some .int) :: ([.fieldLink RX1 17 "DeskStack$Nest" "positions" "[I", .fieldLink RX1 24 "DeskStack$Nest" "count" "I", .methodLink RX1 55 yX1_isUnderWay, .instanceMethod yX1_isUnderWay, .selects RX1 yX1_isUnderWay yX1_isUnderWay, .initialized RX1, .code yX1_isUnderWay cX1_isUnderWay 1 (some .boolean), .fieldLink RX1 11 "DeskStack$Nest" "rows" "[LDeskStack$Row;"] ++ wsX10)
def wsX2_init : List Cond := .code yX2_init cX2_init 1 none :: ([.methodLink RX2 3 objectInit, .instanceMethod objectInit, .code objectInit ⟨#[0xb1]⟩ 1 none, .arrayClass .byte, .fieldLink RX2 9 "DeskStack$Row" "chars" "[B", .fieldLink RX2 15 "DeskStack$Row" "size" "I"] ++ wsX20)
def wsX2_append : List Cond := .code yX2_append cX2_append 2 none :: ([.fieldLink RX2 15 "DeskStack$Row" "size" "I", .fieldLink RX2 9 "DeskStack$Row" "chars" "[B"] ++ wsX20)
def wsX3_init : List Cond := .code yX3_init cX3_init 3 none :: ([.methodLink RX3 3 objectInit, .instanceMethod objectInit, .code objectInit ⟨#[0xb1]⟩ 1 none, .arrayClass .long, .fieldLink RX3 9 "DeskStack$Shelf" "values" "[J", .arrayClass .int, .fieldLink RX3 15 "DeskStack$Shelf" "places" "[I", .classLink RX3 19 RX2, .fieldLink RX3 21 "DeskStack$Shelf" "rows" "[LDeskStack$Row;", .fieldLink RX3 25 "DeskStack$Shelf" "starts" "[I", .fieldLink RX3 28 "DeskStack$Shelf" "count" "I"] ++ wsX30)
def wsX3_isFull : List Cond := .code yX3_isFull cX3_isFull 1 (some .boolean) :: ([.fieldLink RX3 28 "DeskStack$Shelf" "count" "I", .fieldLink RX3 9 "DeskStack$Shelf" "values" "[J"] ++ wsX30)
def wsX3_has : List Cond := .code yX3_has cX3_has 2 (some .boolean) :: ([.fieldLink RX3 28 "DeskStack$Shelf" "count" "I", .fieldLink RX3 9 "DeskStack$Shelf" "values" "[J"] ++ wsX30)
def wsX3_slotBelowTop : List Cond := .code yX3_slotBelowTop cX3_slotBelowTop 2 (some .int) :: ([.fieldLink RX3 28 "DeskStack$Shelf" "count" "I"] ++ wsX30)
def wsX3_valueAt : List Cond := .code yX3_valueAt cX3_valueAt 2 (some .long) :: ([.fieldLink RX3 9 "DeskStack$Shelf" "values" "[J", .methodLink RX3 32 yX3_has, .instanceMethod yX3_has, .selects RX3 yX3_has yX3_has, .initialized RX3, .code yX3_has cX3_has 2 (some .boolean), .fieldLink RX3 28 "DeskStack$Shelf" "count" "I"] ++ wsX30)
def wsX3_placesAt : List Cond := .code yX3_placesAt cX3_placesAt 2 (some .int) :: ([.fieldLink RX3 15 "DeskStack$Shelf" "places" "[I", .methodLink RX3 32 yX3_has, .instanceMethod yX3_has, .selects RX3 yX3_has yX3_has, .initialized RX3, .code yX3_has cX3_has 2 (some .boolean), .fieldLink RX3 28 "DeskStack$Shelf" "count" "I", .fieldLink RX3 9 "DeskStack$Shelf" "values" "[J"] ++ wsX30)
def wsX3_rowAt : List Cond := .code yX3_rowAt cX3_rowAt 2 (some (.object "DeskStack$Row")) :: ([.fieldLink RX3 21 "DeskStack$Shelf" "rows" "[LDeskStack$Row;", .methodLink RX3 32 yX3_has, .instanceMethod yX3_has, .selects RX3 yX3_has yX3_has, .initialized RX3, .code yX3_has cX3_has 2 (some .boolean), .fieldLink RX3 28 "DeskStack$Shelf" "count" "I", .fieldLink RX3 9 "DeskStack$Shelf" "values" "[J"] ++ wsX30)
def wsX3_startAt : List Cond := .code yX3_startAt cX3_startAt 2 (some .int) :: ([.fieldLink RX3 25 "DeskStack$Shelf" "starts" "[I", .methodLink RX3 32 yX3_has, .instanceMethod yX3_has, .selects RX3 yX3_has yX3_has, .initialized RX3, .code yX3_has cX3_has 2 (some .boolean), .fieldLink RX3 28 "DeskStack$Shelf" "count" "I", .fieldLink RX3 9 "DeskStack$Shelf" "values" "[J"] ++ wsX30)
def wsX3_set : List Cond := .code yX3_set cX3_set 7 none :: ([.fieldLink RX3 9 "DeskStack$Shelf" "values" "[J", .fieldLink RX3 15 "DeskStack$Shelf" "places" "[I", .fieldLink RX3 21 "DeskStack$Shelf" "rows" "[LDeskStack$Row;", .fieldLink RX3 25 "DeskStack$Shelf" "starts" "[I", .methodLink RX3 32 yX3_has, .instanceMethod yX3_has, .selects RX3 yX3_has yX3_has, .initialized RX3, .code yX3_has cX3_has 2 (some .boolean), .fieldLink RX3 28 "DeskStack$Shelf" "count" "I"] ++ wsX30)
def wsX3_put : List Cond := .code yX3_put cX3_put 6 none :: ([.classLink RX3 62 "java/lang/UnsupportedOperationException", .initialized "java/lang/UnsupportedOperationException", .fieldLink RX3 28 "DeskStack$Shelf" "count" "I", .methodLink RX3 58 yX3_isFull, .instanceMethod yX3_isFull, .selects RX3 yX3_isFull yX3_isFull, .initialized RX3, .code yX3_isFull cX3_isFull 1 (some .boolean), .fieldLink RX3 9 "DeskStack$Shelf" "values" "[J", .methodLink RX3 69 yX3_set, .instanceMethod yX3_set, .selects RX3 yX3_set yX3_set, .code yX3_set cX3_set 7 none, .fieldLink RX3 15 "DeskStack$Shelf" "places" "[I", .fieldLink RX3 21 "DeskStack$Shelf" "rows" "[LDeskStack$Row;", .fieldLink RX3 25 "DeskStack$Shelf" "starts" "[I", .methodLink RX3 32 yX3_has, .instanceMethod yX3_has, .selects RX3 yX3_has yX3_has, .code yX3_has cX3_has 2 (some .boolean)] ++ wsX30 ++ (vx_atS RX3 66 "java/lang/UnsupportedOperationException" ["java/lang/RuntimeException", "java/lang/Exception"]).filter goodWord)
def wsX3_putNumber : List Cond := .code yX3_putNumber cX3_putNumber 4 none :: ([.methodLink RX3 36 yX3_put, .instanceMethod yX3_put, .selects RX3 yX3_put yX3_put, .initialized RX3, .code yX3_put cX3_put 6 none, .classLink RX3 62 "java/lang/UnsupportedOperationException", .initialized "java/lang/UnsupportedOperationException", .fieldLink RX3 28 "DeskStack$Shelf" "count" "I", .methodLink RX3 58 yX3_isFull, .instanceMethod yX3_isFull, .selects RX3 yX3_isFull yX3_isFull, .code yX3_isFull cX3_isFull 1 (some .boolean), .fieldLink RX3 9 "DeskStack$Shelf" "values" "[J", .methodLink RX3 69 yX3_set, .instanceMethod yX3_set, .selects RX3 yX3_set yX3_set, .code yX3_set cX3_set 7 none, .fieldLink RX3 15 "DeskStack$Shelf" "places" "[I", .fieldLink RX3 21 "DeskStack$Shelf" "rows" "[LDeskStack$Row;", .fieldLink RX3 25 "DeskStack$Shelf" "starts" "[I", .methodLink RX3 32 yX3_has, .instanceMethod yX3_has, .selects RX3 yX3_has yX3_has, .code yX3_has cX3_has 2 (some .boolean)] ++ wsX30 ++ (vx_atS RX3 66 "java/lang/UnsupportedOperationException" ["java/lang/RuntimeException", "java/lang/Exception"]).filter goodWord)
def wsX3_putText : List Cond := .code yX3_putText cX3_putText 4 none :: ([.methodLink RX3 36 yX3_put, .instanceMethod yX3_put, .selects RX3 yX3_put yX3_put, .initialized RX3, .code yX3_put cX3_put 6 none, .classLink RX3 62 "java/lang/UnsupportedOperationException", .initialized "java/lang/UnsupportedOperationException", .fieldLink RX3 28 "DeskStack$Shelf" "count" "I", .methodLink RX3 58 yX3_isFull, .instanceMethod yX3_isFull, .selects RX3 yX3_isFull yX3_isFull, .code yX3_isFull cX3_isFull 1 (some .boolean), .fieldLink RX3 9 "DeskStack$Shelf" "values" "[J", .methodLink RX3 69 yX3_set, .instanceMethod yX3_set, .selects RX3 yX3_set yX3_set, .code yX3_set cX3_set 7 none, .fieldLink RX3 15 "DeskStack$Shelf" "places" "[I", .fieldLink RX3 21 "DeskStack$Shelf" "rows" "[LDeskStack$Row;", .fieldLink RX3 25 "DeskStack$Shelf" "starts" "[I", .methodLink RX3 32 yX3_has, .instanceMethod yX3_has, .selects RX3 yX3_has yX3_has, .code yX3_has cX3_has 2 (some .boolean)] ++ wsX30 ++ (vx_atS RX3 66 "java/lang/UnsupportedOperationException" ["java/lang/RuntimeException", "java/lang/Exception"]).filter goodWord)
def wsX3_putTopOf_r1 : List Cond := [Cond.methodLink RX3 40 yX3_slotBelowTop, Cond.instanceMethod yX3_slotBelowTop, Cond.selects RX3 yX3_slotBelowTop yX3_slotBelowTop, Cond.initialized RX3, Cond.code yX3_slotBelowTop cX3_slotBelowTop 2 (some .int), Cond.fieldLink RX3 28 "DeskStack$Shelf" "count" "I", Cond.methodLink RX3 44 yX3_valueAt, Cond.instanceMethod yX3_valueAt, Cond.selects RX3 yX3_valueAt yX3_valueAt, Cond.code yX3_valueAt cX3_valueAt 2 (some .long), Cond.fieldLink RX3 9 "DeskStack$Shelf" "values" "[J", Cond.methodLink RX3 32 yX3_has, Cond.instanceMethod yX3_has, Cond.selects RX3 yX3_has yX3_has, Cond.code yX3_has cX3_has 2 (some .boolean), Cond.methodLink RX3 48 yX3_placesAt, Cond.instanceMethod yX3_placesAt, Cond.selects RX3 yX3_placesAt yX3_placesAt, Cond.code yX3_placesAt cX3_placesAt 2 (some .int), Cond.fieldLink RX3 15 "DeskStack$Shelf" "places" "[I", Cond.methodLink RX3 51 yX3_rowAt, Cond.instanceMethod yX3_rowAt, Cond.selects RX3 yX3_rowAt yX3_rowAt, Cond.code yX3_rowAt cX3_rowAt 2 (some (.object "DeskStack$Row"))]
def wsX3_putTopOf_r2 : List Cond := [Cond.fieldLink RX3 21 "DeskStack$Shelf" "rows" "[LDeskStack$Row;", Cond.methodLink RX3 55 yX3_startAt, Cond.instanceMethod yX3_startAt, Cond.selects RX3 yX3_startAt yX3_startAt, Cond.code yX3_startAt cX3_startAt 2 (some .int), Cond.fieldLink RX3 25 "DeskStack$Shelf" "starts" "[I", Cond.methodLink RX3 36 yX3_put, Cond.instanceMethod yX3_put, Cond.selects RX3 yX3_put yX3_put, Cond.code yX3_put cX3_put 6 none, Cond.classLink RX3 62 "java/lang/UnsupportedOperationException", Cond.initialized "java/lang/UnsupportedOperationException", Cond.methodLink RX3 58 yX3_isFull, Cond.instanceMethod yX3_isFull, Cond.selects RX3 yX3_isFull yX3_isFull, Cond.code yX3_isFull cX3_isFull 1 (some .boolean), Cond.methodLink RX3 69 yX3_set, Cond.instanceMethod yX3_set, Cond.selects RX3 yX3_set yX3_set, Cond.code yX3_set cX3_set 7 none]
def wsX3_putTopOf : List Cond := .code yX3_putTopOf cX3_putTopOf 3 none :: ((wsX3_putTopOf_r1 ++ wsX3_putTopOf_r2) ++ wsX30 ++ (vx_atS RX3 66 "java/lang/UnsupportedOperationException" ["java/lang/RuntimeException", "java/lang/Exception"]).filter goodWord)
def wsX3_swapTopTwo_r1 : List Cond := [Cond.methodLink RX3 40 yX3_slotBelowTop, Cond.instanceMethod yX3_slotBelowTop, Cond.selects RX3 yX3_slotBelowTop yX3_slotBelowTop, Cond.initialized RX3, Cond.code yX3_slotBelowTop cX3_slotBelowTop 2 (some .int), Cond.fieldLink RX3 28 "DeskStack$Shelf" "count" "I", Cond.methodLink RX3 44 yX3_valueAt, Cond.instanceMethod yX3_valueAt, Cond.selects RX3 yX3_valueAt yX3_valueAt, Cond.code yX3_valueAt cX3_valueAt 2 (some .long), Cond.fieldLink RX3 9 "DeskStack$Shelf" "values" "[J", Cond.methodLink RX3 32 yX3_has, Cond.instanceMethod yX3_has, Cond.selects RX3 yX3_has yX3_has, Cond.code yX3_has cX3_has 2 (some .boolean), Cond.methodLink RX3 48 yX3_placesAt, Cond.instanceMethod yX3_placesAt, Cond.selects RX3 yX3_placesAt yX3_placesAt, Cond.code yX3_placesAt cX3_placesAt 2 (some .int), Cond.fieldLink RX3 15 "DeskStack$Shelf" "places" "[I", Cond.methodLink RX3 51 yX3_rowAt, Cond.instanceMethod yX3_rowAt, Cond.selects RX3 yX3_rowAt yX3_rowAt, Cond.code yX3_rowAt cX3_rowAt 2 (some (.object "DeskStack$Row"))]
def wsX3_swapTopTwo_r2 : List Cond := [Cond.fieldLink RX3 21 "DeskStack$Shelf" "rows" "[LDeskStack$Row;", Cond.methodLink RX3 55 yX3_startAt, Cond.instanceMethod yX3_startAt, Cond.selects RX3 yX3_startAt yX3_startAt, Cond.code yX3_startAt cX3_startAt 2 (some .int), Cond.fieldLink RX3 25 "DeskStack$Shelf" "starts" "[I", Cond.methodLink RX3 69 yX3_set, Cond.instanceMethod yX3_set, Cond.selects RX3 yX3_set yX3_set, Cond.code yX3_set cX3_set 7 none]
def wsX3_swapTopTwo : List Cond := .code yX3_swapTopTwo cX3_swapTopTwo 8 none :: ((wsX3_swapTopTwo_r1 ++ wsX3_swapTopTwo_r2) ++ wsX30)
def wsX3_drop : List Cond := .code yX3_drop cX3_drop 2 none :: ([.fieldLink RX3 28 "DeskStack$Shelf" "count" "I", .methodLink RX3 73 Lib.Math.max.name, .static Lib.Math.max.name, .initialized "java/lang/Math", .code Lib.Math.max.name Lib.Math.max.code 2 (some .int)] ++ wsX30)
def wsX3_clear : List Cond := .code yX3_clear cX3_clear 1 none :: ([.fieldLink RX3 28 "DeskStack$Shelf" "count" "I"] ++ wsX30)
def wsX4_init_r1 : List Cond := [Cond.methodLink RX4 1 objectInit, Cond.instanceMethod objectInit, Cond.code objectInit ⟨#[0xb1]⟩ 1 none, Cond.classLink RX4 7 RX3, Cond.instantiable RX3 5, Cond.initialized RX3, Cond.fieldLink RX4 14 "DeskStack" "stack" "LDeskStack$Shelf;", Cond.fieldLink RX4 18 "DeskStack" "registers" "[LDeskStack$Shelf;", Cond.fieldLink RX4 22 "DeskStack" "printer" "LDeskStack$Shelf;", Cond.classLink RX4 25 RX1, Cond.instantiable RX1 4, Cond.initialized RX1, Cond.fieldLink RX4 28 "DeskStack" "texts" "LDeskStack$Nest;", Cond.classLink RX4 32 RX2, Cond.instantiable RX2 2, Cond.initialized RX2, Cond.fieldLink RX4 35 "DeskStack" "program" "LDeskStack$Row;", Cond.fieldLink RX4 39 "DeskStack" "keptPlaces" "I", Cond.fieldLink RX4 43 "DeskStack" "commandsDone" "I", Cond.methodLink RX4 11 yX3_init, Cond.instanceMethod yX3_init, Cond.code yX3_init cX3_init 3 none, Cond.methodLink RX3 3 objectInit, Cond.arrayClass .long]
def wsX4_init_r2 : List Cond := [Cond.fieldLink RX3 9 "DeskStack$Shelf" "values" "[J", Cond.arrayClass .int, Cond.fieldLink RX3 15 "DeskStack$Shelf" "places" "[I", Cond.classLink RX3 19 RX2, Cond.fieldLink RX3 21 "DeskStack$Shelf" "rows" "[LDeskStack$Row;", Cond.fieldLink RX3 25 "DeskStack$Shelf" "starts" "[I", Cond.fieldLink RX3 28 "DeskStack$Shelf" "count" "I", Cond.methodLink RX4 27 yX1_init, Cond.instanceMethod yX1_init, Cond.code yX1_init cX1_init 1 none, Cond.methodLink RX1 3 objectInit, Cond.classLink RX1 9 RX2, Cond.fieldLink RX1 11 "DeskStack$Nest" "rows" "[LDeskStack$Row;", Cond.fieldLink RX1 17 "DeskStack$Nest" "positions" "[I", Cond.fieldLink RX1 21 "DeskStack$Nest" "ends" "[I", Cond.fieldLink RX1 24 "DeskStack$Nest" "count" "I", Cond.methodLink RX4 34 yX2_init, Cond.instanceMethod yX2_init, Cond.code yX2_init cX2_init 1 none, Cond.methodLink RX2 3 objectInit, Cond.arrayClass .byte, Cond.fieldLink RX2 9 "DeskStack$Row" "chars" "[B", Cond.fieldLink RX2 15 "DeskStack$Row" "size" "I"]
def wsX4_init : List Cond := .code yX4_init cX4_init 2 none :: ((wsX4_init_r1 ++ wsX4_init_r2) ++ wsX30 ++ wsX40 ++ wsX10 ++ wsX20)
def wsX4_charOf : List Cond := .code yX4_charOf cX4_charOf 3 (some .int) :: ([])
def wsX4_write : List Cond := .code yX4_write cX4_write 5 (some .int) :: ([.fieldLink RX4 35 "DeskStack" "program" "LDeskStack$Row;", .fieldLink RX4 50 "DeskStack$Row" "size" "I", .methodLink RX4 46 yX4_charOf, .static yX4_charOf, .initialized RX4, .code yX4_charOf cX4_charOf 3 (some .int), .methodLink RX4 53 yX2_append, .instanceMethod yX2_append, .selects RX2 yX2_append yX2_append, .initialized RX2, .code yX2_append cX2_append 2 none, .fieldLink RX2 15 "DeskStack$Row" "size" "I", .fieldLink RX2 9 "DeskStack$Row" "chars" "[B"] ++ wsX40 ++ wsX20)
def wsX4_erase : List Cond := .code yX4_erase cX4_erase 2 (some .int) :: ([.fieldLink RX4 35 "DeskStack" "program" "LDeskStack$Row;", .fieldLink RX4 50 "DeskStack$Row" "size" "I", .classLink RX4 32 RX2, .instantiable RX2 2, .initialized RX2, .methodLink RX4 34 yX2_init, .instanceMethod yX2_init, .code yX2_init cX2_init 1 none, .methodLink RX2 3 objectInit, .instanceMethod objectInit, .code objectInit ⟨#[0xb1]⟩ 1 none, .arrayClass .byte, .fieldLink RX2 9 "DeskStack$Row" "chars" "[B", .fieldLink RX2 15 "DeskStack$Row" "size" "I"] ++ wsX40 ++ wsX20)
def wsX4_isDigit : List Cond := .code yX4_isDigit cX4_isDigit 1 (some .boolean) :: ([])
def wsX4_beginsNumber : List Cond := .code yX4_beginsNumber cX4_beginsNumber 1 (some .boolean) :: ([.methodLink RX4 142 yX4_isDigit, .static yX4_isDigit, .initialized RX4, .code yX4_isDigit cX4_isDigit 1 (some .boolean)])
def wsX4_putWrittenNumber_r1 : List Cond := [Cond.classLink RX4 56 "java/lang/IllegalArgumentException", Cond.initialized "java/lang/IllegalArgumentException", Cond.fieldLink RX4 28 "DeskStack" "texts" "LDeskStack$Nest;", Cond.constantLong RX4 145 (10), Cond.fieldLink RX4 14 "DeskStack" "stack" "LDeskStack$Shelf;", Cond.methodLink RX4 80 yX1_look, Cond.instanceMethod yX1_look, Cond.selects RX1 yX1_look yX1_look, Cond.initialized RX1, Cond.code yX1_look cX1_look 2 (some .int), Cond.fieldLink RX1 17 "DeskStack$Nest" "positions" "[I", Cond.fieldLink RX1 24 "DeskStack$Nest" "count" "I", Cond.fieldLink RX1 21 "DeskStack$Nest" "ends" "[I", Cond.fieldLink RX1 11 "DeskStack$Nest" "rows" "[LDeskStack$Row;", Cond.methodLink RX1 55 yX1_isUnderWay, Cond.instanceMethod yX1_isUnderWay, Cond.selects RX1 yX1_isUnderWay yX1_isUnderWay, Cond.code yX1_isUnderWay cX1_isUnderWay 1 (some .boolean), Cond.methodLink RX1 59 yX2_charAt, Cond.instanceMethod yX2_charAt, Cond.selects RX2 yX2_charAt yX2_charAt, Cond.initialized RX2, Cond.code yX2_charAt cX2_charAt 2 (some .int), Cond.fieldLink RX2 15 "DeskStack$Row" "size" "I"]
def wsX4_putWrittenNumber_r2 : List Cond := [Cond.fieldLink RX2 9 "DeskStack$Row" "chars" "[B", Cond.methodLink RX4 118 yX1_pass, Cond.instanceMethod yX1_pass, Cond.selects RX1 yX1_pass yX1_pass, Cond.code yX1_pass cX1_pass 1 none, Cond.methodLink RX4 142 yX4_isDigit, Cond.static yX4_isDigit, Cond.initialized RX4, Cond.code yX4_isDigit cX4_isDigit 1 (some .boolean), Cond.methodLink RX4 149 yX3_putNumber, Cond.instanceMethod yX3_putNumber, Cond.selects RX3 yX3_putNumber yX3_putNumber, Cond.initialized RX3, Cond.code yX3_putNumber cX3_putNumber 4 none, Cond.methodLink RX3 36 yX3_put, Cond.instanceMethod yX3_put, Cond.selects RX3 yX3_put yX3_put, Cond.code yX3_put cX3_put 6 none, Cond.classLink RX3 62 "java/lang/UnsupportedOperationException", Cond.initialized "java/lang/UnsupportedOperationException", Cond.fieldLink RX3 28 "DeskStack$Shelf" "count" "I", Cond.methodLink RX3 58 yX3_isFull, Cond.instanceMethod yX3_isFull, Cond.selects RX3 yX3_isFull yX3_isFull]
def wsX4_putWrittenNumber_r3 : List Cond := [Cond.code yX3_isFull cX3_isFull 1 (some .boolean), Cond.fieldLink RX3 9 "DeskStack$Shelf" "values" "[J", Cond.methodLink RX3 69 yX3_set, Cond.instanceMethod yX3_set, Cond.selects RX3 yX3_set yX3_set, Cond.code yX3_set cX3_set 7 none, Cond.fieldLink RX3 15 "DeskStack$Shelf" "places" "[I", Cond.fieldLink RX3 21 "DeskStack$Shelf" "rows" "[LDeskStack$Row;", Cond.fieldLink RX3 25 "DeskStack$Shelf" "starts" "[I", Cond.methodLink RX3 32 yX3_has, Cond.instanceMethod yX3_has, Cond.selects RX3 yX3_has yX3_has, Cond.code yX3_has cX3_has 2 (some .boolean)]
def wsX4_putWrittenNumber : List Cond := .code yX4_putWrittenNumber cX4_putWrittenNumber 9 none :: ((wsX4_putWrittenNumber_r1 ++ (wsX4_putWrittenNumber_r2 ++ wsX4_putWrittenNumber_r3)) ++ wsX40 ++ wsX10 ++ wsX20 ++ wsX30 ++ (vx_atS RX4 60 "java/lang/IllegalArgumentException" ["java/lang/RuntimeException", "java/lang/Exception"]).filter goodWord ++ (vx_atS RX3 66 "java/lang/UnsupportedOperationException" ["java/lang/RuntimeException", "java/lang/Exception"]).filter goodWord)
def wsX4_putWrittenText_r1 : List Cond := [Cond.classLink RX4 56 "java/lang/IllegalArgumentException", Cond.initialized "java/lang/IllegalArgumentException", Cond.fieldLink RX4 28 "DeskStack" "texts" "LDeskStack$Nest;", Cond.fieldLink RX4 14 "DeskStack" "stack" "LDeskStack$Shelf;", Cond.methodLink RX4 153 yX1_innermostRow, Cond.instanceMethod yX1_innermostRow, Cond.selects RX1 yX1_innermostRow yX1_innermostRow, Cond.initialized RX1, Cond.code yX1_innermostRow cX1_innermostRow 1 (some (.object "DeskStack$Row")), Cond.fieldLink RX1 11 "DeskStack$Nest" "rows" "[LDeskStack$Row;", Cond.fieldLink RX1 24 "DeskStack$Nest" "count" "I", Cond.methodLink RX1 55 yX1_isUnderWay, Cond.instanceMethod yX1_isUnderWay, Cond.selects RX1 yX1_isUnderWay yX1_isUnderWay, Cond.code yX1_isUnderWay cX1_isUnderWay 1 (some .boolean), Cond.methodLink RX4 157 yX1_position, Cond.instanceMethod yX1_position, Cond.selects RX1 yX1_position yX1_position, Cond.code yX1_position cX1_position 1 (some .int), Cond.fieldLink RX1 17 "DeskStack$Nest" "positions" "[I", Cond.methodLink RX4 80 yX1_look, Cond.instanceMethod yX1_look, Cond.selects RX1 yX1_look yX1_look, Cond.code yX1_look cX1_look 2 (some .int)]
def wsX4_putWrittenText_r2 : List Cond := [Cond.fieldLink RX1 21 "DeskStack$Nest" "ends" "[I", Cond.methodLink RX1 59 yX2_charAt, Cond.instanceMethod yX2_charAt, Cond.selects RX2 yX2_charAt yX2_charAt, Cond.initialized RX2, Cond.code yX2_charAt cX2_charAt 2 (some .int), Cond.fieldLink RX2 15 "DeskStack$Row" "size" "I", Cond.fieldLink RX2 9 "DeskStack$Row" "chars" "[B", Cond.methodLink RX4 118 yX1_pass, Cond.instanceMethod yX1_pass, Cond.selects RX1 yX1_pass yX1_pass, Cond.code yX1_pass cX1_pass 1 none, Cond.methodLink RX4 162 yX3_putText, Cond.instanceMethod yX3_putText, Cond.selects RX3 yX3_putText yX3_putText, Cond.initialized RX3, Cond.code yX3_putText cX3_putText 4 none, Cond.methodLink RX3 36 yX3_put, Cond.instanceMethod yX3_put, Cond.selects RX3 yX3_put yX3_put, Cond.code yX3_put cX3_put 6 none, Cond.classLink RX3 62 "java/lang/UnsupportedOperationException", Cond.initialized "java/lang/UnsupportedOperationException", Cond.fieldLink RX3 28 "DeskStack$Shelf" "count" "I"]
def wsX4_putWrittenText_r3 : List Cond := [Cond.methodLink RX3 58 yX3_isFull, Cond.instanceMethod yX3_isFull, Cond.selects RX3 yX3_isFull yX3_isFull, Cond.code yX3_isFull cX3_isFull 1 (some .boolean), Cond.fieldLink RX3 9 "DeskStack$Shelf" "values" "[J", Cond.methodLink RX3 69 yX3_set, Cond.instanceMethod yX3_set, Cond.selects RX3 yX3_set yX3_set, Cond.code yX3_set cX3_set 7 none, Cond.fieldLink RX3 15 "DeskStack$Shelf" "places" "[I", Cond.fieldLink RX3 21 "DeskStack$Shelf" "rows" "[LDeskStack$Row;", Cond.fieldLink RX3 25 "DeskStack$Shelf" "starts" "[I", Cond.methodLink RX3 32 yX3_has, Cond.instanceMethod yX3_has, Cond.selects RX3 yX3_has yX3_has, Cond.code yX3_has cX3_has 2 (some .boolean)]
def wsX4_putWrittenText : List Cond := .code yX4_putWrittenText cX4_putWrittenText 6 none :: ((wsX4_putWrittenText_r1 ++ (wsX4_putWrittenText_r2 ++ wsX4_putWrittenText_r3)) ++ wsX40 ++ wsX10 ++ wsX20 ++ wsX30 ++ (vx_atS RX4 60 "java/lang/IllegalArgumentException" ["java/lang/RuntimeException", "java/lang/Exception"]).filter goodWord ++ (vx_atS RX3 66 "java/lang/UnsupportedOperationException" ["java/lang/RuntimeException", "java/lang/Exception"]).filter goodWord)
def wsX4_needItems : List Cond := .code yX4_needItems cX4_needItems 2 none :: ([.classLink RX4 165 "java/lang/IllegalStateException", .initialized "java/lang/IllegalStateException", .fieldLink RX4 14 "DeskStack" "stack" "LDeskStack$Shelf;", .fieldLink RX4 95 "DeskStack$Shelf" "count" "I"] ++ wsX40 ++ wsX30 ++ (vx_atS RX4 169 "java/lang/IllegalStateException" ["java/lang/RuntimeException", "java/lang/Exception"]).filter goodWord)
def wsX4_needNumbers_r1 : List Cond := [Cond.classLink RX4 177 "java/lang/IndexOutOfBoundsException", Cond.initialized "java/lang/IndexOutOfBoundsException", Cond.fieldLink RX4 14 "DeskStack" "stack" "LDeskStack$Shelf;", Cond.methodLink RX4 170 yX4_needItems, Cond.instanceMethod yX4_needItems, Cond.selects RX4 yX4_needItems yX4_needItems, Cond.initialized RX4, Cond.code yX4_needItems cX4_needItems 2 none, Cond.classLink RX4 165 "java/lang/IllegalStateException", Cond.initialized "java/lang/IllegalStateException", Cond.fieldLink RX4 95 "DeskStack$Shelf" "count" "I", Cond.methodLink RX4 104 yX3_slotBelowTop, Cond.instanceMethod yX3_slotBelowTop, Cond.selects RX3 yX3_slotBelowTop yX3_slotBelowTop, Cond.initialized RX3, Cond.code yX3_slotBelowTop cX3_slotBelowTop 2 (some .int), Cond.fieldLink RX3 28 "DeskStack$Shelf" "count" "I", Cond.methodLink RX4 173 yX3_rowAt, Cond.instanceMethod yX3_rowAt, Cond.selects RX3 yX3_rowAt yX3_rowAt, Cond.code yX3_rowAt cX3_rowAt 2 (some (.object "DeskStack$Row")), Cond.fieldLink RX3 21 "DeskStack$Shelf" "rows" "[LDeskStack$Row;", Cond.methodLink RX3 32 yX3_has, Cond.instanceMethod yX3_has]
def wsX4_needNumbers_r2 : List Cond := [Cond.selects RX3 yX3_has yX3_has, Cond.code yX3_has cX3_has 2 (some .boolean), Cond.fieldLink RX3 9 "DeskStack$Shelf" "values" "[J"]
def wsX4_needNumbers : List Cond := .code yX4_needNumbers cX4_needNumbers 3 none :: ((wsX4_needNumbers_r1 ++ wsX4_needNumbers_r2) ++ wsX40 ++ wsX30 ++ (vx_atS RX4 181 "java/lang/IndexOutOfBoundsException" ["java/lang/RuntimeException", "java/lang/Exception"]).filter goodWord ++ (vx_atS RX4 169 "java/lang/IllegalStateException" ["java/lang/RuntimeException", "java/lang/Exception"]).filter goodWord)
def wsX4_calculate_r1 : List Cond := [Cond.fieldLink RX4 14 "DeskStack" "stack" "LDeskStack$Shelf;", Cond.methodLink RX4 185 Lib.Math.max.name, Cond.static Lib.Math.max.name, Cond.initialized "java/lang/Math", Cond.code Lib.Math.max.name Lib.Math.max.code 2 (some .int), Cond.fieldLink RX4 39 "DeskStack" "keptPlaces" "I", Cond.methodLink RX4 197 Lib.Math.min.name, Cond.static Lib.Math.min.name, Cond.code Lib.Math.min.name Lib.Math.min.code 2 (some .int), Cond.methodLink RX4 182 yX4_needNumbers, Cond.instanceMethod yX4_needNumbers, Cond.selects RX4 yX4_needNumbers yX4_needNumbers, Cond.initialized RX4, Cond.code yX4_needNumbers cX4_needNumbers 3 none, Cond.classLink RX4 177 "java/lang/IndexOutOfBoundsException", Cond.initialized "java/lang/IndexOutOfBoundsException", Cond.methodLink RX4 170 yX4_needItems, Cond.instanceMethod yX4_needItems, Cond.selects RX4 yX4_needItems yX4_needItems, Cond.code yX4_needItems cX4_needItems 2 none, Cond.classLink RX4 165 "java/lang/IllegalStateException", Cond.initialized "java/lang/IllegalStateException", Cond.fieldLink RX4 95 "DeskStack$Shelf" "count" "I", Cond.methodLink RX4 104 yX3_slotBelowTop]
def wsX4_calculate_r2 : List Cond := [Cond.instanceMethod yX3_slotBelowTop, Cond.selects RX3 yX3_slotBelowTop yX3_slotBelowTop, Cond.initialized RX3, Cond.code yX3_slotBelowTop cX3_slotBelowTop 2 (some .int), Cond.fieldLink RX3 28 "DeskStack$Shelf" "count" "I", Cond.methodLink RX4 173 yX3_rowAt, Cond.instanceMethod yX3_rowAt, Cond.selects RX3 yX3_rowAt yX3_rowAt, Cond.code yX3_rowAt cX3_rowAt 2 (some (.object "DeskStack$Row")), Cond.fieldLink RX3 21 "DeskStack$Shelf" "rows" "[LDeskStack$Row;", Cond.methodLink RX3 32 yX3_has, Cond.instanceMethod yX3_has, Cond.selects RX3 yX3_has yX3_has, Cond.code yX3_has cX3_has 2 (some .boolean), Cond.fieldLink RX3 9 "DeskStack$Shelf" "values" "[J", Cond.methodLink RX4 96 yX3_valueAt, Cond.instanceMethod yX3_valueAt, Cond.selects RX3 yX3_valueAt yX3_valueAt, Cond.code yX3_valueAt cX3_valueAt 2 (some .long), Cond.methodLink RX4 100 yX3_placesAt, Cond.instanceMethod yX3_placesAt, Cond.selects RX3 yX3_placesAt yX3_placesAt, Cond.code yX3_placesAt cX3_placesAt 2 (some .int), Cond.fieldLink RX3 15 "DeskStack$Shelf" "places" "[I"]
def wsX4_calculate_r3 : List Cond := [Cond.methodLink RX4 191 yX0_sum, Cond.static yX0_sum, Cond.initialized RX0, Cond.code yX0_sum cX0_sum 7 (some .long), Cond.methodLink RX0 9 Lib.Math.max.name, Cond.methodLink RX0 15 yX0_raise, Cond.static yX0_raise, Cond.code yX0_raise cX0_raise 3 (some .long), Cond.methodLink RX0 74 yX0_powerOfTen, Cond.static yX0_powerOfTen, Cond.code yX0_powerOfTen cX0_powerOfTen 1 (some .long), Cond.fieldLink RX0 78 "DeskStack$Decimal" "POWERS" "[J", Cond.methodLink RX0 82 Lib.Math.min.name, Cond.methodLink RX0 58 yX0_times, Cond.static yX0_times, Cond.code yX0_times cX0_times 4 (some .long), Cond.classLink RX0 36 "java/lang/UnsupportedOperationException", Cond.initialized "java/lang/UnsupportedOperationException", Cond.methodLink RX0 31 Lib.MathLoose.abs_long.x, Cond.static Lib.MathLoose.abs_long.x, Cond.code Lib.MathLoose.abs_long.x Lib.MathLoose.abs_long.code 2 (some .long), Cond.constantLong RX0 34 (999999999999999999), Cond.methodLink RX0 21 yX0_fitting, Cond.static yX0_fitting]
def wsX4_calculate_r4 : List Cond := [Cond.code yX0_fitting cX0_fitting 2 (some .long), Cond.methodLink RX4 200 yX0_times, Cond.methodLink RX4 204 yX0_cutOff, Cond.static yX0_cutOff, Cond.code yX0_cutOff cX0_cutOff 3 (some .long), Cond.methodLink RX0 48 yX0_divide, Cond.static yX0_divide, Cond.code yX0_divide cX0_divide 4 (some .long), Cond.methodLink RX4 208 yX0_quotient, Cond.static yX0_quotient, Cond.code yX0_quotient cX0_quotient 8 (some .long), Cond.classLink RX0 43 "java/lang/ArithmeticException", Cond.initialized "java/lang/ArithmeticException", Cond.methodLink RX4 212 yX0_remainder, Cond.static yX0_remainder, Cond.code yX0_remainder cX0_remainder 13 (some .long), Cond.methodLink RX0 52 yX0_quotient, Cond.methodLink RX4 215 yX3_drop, Cond.instanceMethod yX3_drop, Cond.selects RX3 yX3_drop yX3_drop, Cond.code yX3_drop cX3_drop 2 none, Cond.methodLink RX3 73 Lib.Math.max.name, Cond.methodLink RX4 149 yX3_putNumber, Cond.instanceMethod yX3_putNumber]
def wsX4_calculate_r5 : List Cond := [Cond.selects RX3 yX3_putNumber yX3_putNumber, Cond.code yX3_putNumber cX3_putNumber 4 none, Cond.methodLink RX3 36 yX3_put, Cond.instanceMethod yX3_put, Cond.selects RX3 yX3_put yX3_put, Cond.code yX3_put cX3_put 6 none, Cond.classLink RX3 62 "java/lang/UnsupportedOperationException", Cond.methodLink RX3 58 yX3_isFull, Cond.instanceMethod yX3_isFull, Cond.selects RX3 yX3_isFull yX3_isFull, Cond.code yX3_isFull cX3_isFull 1 (some .boolean), Cond.methodLink RX3 69 yX3_set, Cond.instanceMethod yX3_set, Cond.selects RX3 yX3_set yX3_set, Cond.code yX3_set cX3_set 7 none, Cond.fieldLink RX3 25 "DeskStack$Shelf" "starts" "[I"]
def wsX4_calculate : List Cond := .code yX4_calculate cX4_calculate 12 none :: ((wsX4_calculate_r1 ++ (wsX4_calculate_r2 ++ (wsX4_calculate_r3 ++ (wsX4_calculate_r4 ++ wsX4_calculate_r5)))) ++ wsX40 ++ wsX30 ++ (vx_atS RX4 181 "java/lang/IndexOutOfBoundsException" ["java/lang/RuntimeException", "java/lang/Exception"]).filter goodWord ++ (vx_atS RX4 169 "java/lang/IllegalStateException" ["java/lang/RuntimeException", "java/lang/Exception"]).filter goodWord ++ (vx_atS RX0 40 "java/lang/UnsupportedOperationException" ["java/lang/RuntimeException", "java/lang/Exception"]).filter goodWord ++ (vx_atS RX0 47 "java/lang/ArithmeticException" ["java/lang/RuntimeException", "java/lang/Exception"]).filter goodWord ++ (vx_atS RX3 66 "java/lang/UnsupportedOperationException" ["java/lang/RuntimeException", "java/lang/Exception"]).filter goodWord)
def wsX4_changeNumber_r1 : List Cond := [Cond.fieldLink RX4 14 "DeskStack" "stack" "LDeskStack$Shelf;", Cond.fieldLink RX4 39 "DeskStack" "keptPlaces" "I", Cond.methodLink RX4 185 Lib.Math.max.name, Cond.static Lib.Math.max.name, Cond.initialized "java/lang/Math", Cond.code Lib.Math.max.name Lib.Math.max.code 2 (some .int), Cond.methodLink RX4 182 yX4_needNumbers, Cond.instanceMethod yX4_needNumbers, Cond.selects RX4 yX4_needNumbers yX4_needNumbers, Cond.initialized RX4, Cond.code yX4_needNumbers cX4_needNumbers 3 none, Cond.classLink RX4 177 "java/lang/IndexOutOfBoundsException", Cond.initialized "java/lang/IndexOutOfBoundsException", Cond.methodLink RX4 170 yX4_needItems, Cond.instanceMethod yX4_needItems, Cond.selects RX4 yX4_needItems yX4_needItems, Cond.code yX4_needItems cX4_needItems 2 none, Cond.classLink RX4 165 "java/lang/IllegalStateException", Cond.initialized "java/lang/IllegalStateException", Cond.fieldLink RX4 95 "DeskStack$Shelf" "count" "I", Cond.methodLink RX4 104 yX3_slotBelowTop, Cond.instanceMethod yX3_slotBelowTop, Cond.selects RX3 yX3_slotBelowTop yX3_slotBelowTop, Cond.initialized RX3]
def wsX4_changeNumber_r2 : List Cond := [Cond.code yX3_slotBelowTop cX3_slotBelowTop 2 (some .int), Cond.fieldLink RX3 28 "DeskStack$Shelf" "count" "I", Cond.methodLink RX4 173 yX3_rowAt, Cond.instanceMethod yX3_rowAt, Cond.selects RX3 yX3_rowAt yX3_rowAt, Cond.code yX3_rowAt cX3_rowAt 2 (some (.object "DeskStack$Row")), Cond.fieldLink RX3 21 "DeskStack$Shelf" "rows" "[LDeskStack$Row;", Cond.methodLink RX3 32 yX3_has, Cond.instanceMethod yX3_has, Cond.selects RX3 yX3_has yX3_has, Cond.code yX3_has cX3_has 2 (some .boolean), Cond.fieldLink RX3 9 "DeskStack$Shelf" "values" "[J", Cond.methodLink RX4 96 yX3_valueAt, Cond.instanceMethod yX3_valueAt, Cond.selects RX3 yX3_valueAt yX3_valueAt, Cond.code yX3_valueAt cX3_valueAt 2 (some .long), Cond.methodLink RX4 100 yX3_placesAt, Cond.instanceMethod yX3_placesAt, Cond.selects RX3 yX3_placesAt yX3_placesAt, Cond.code yX3_placesAt cX3_placesAt 2 (some .int), Cond.fieldLink RX3 15 "DeskStack$Shelf" "places" "[I", Cond.methodLink RX4 218 yX0_asPlaces, Cond.static yX0_asPlaces, Cond.initialized RX0]
def wsX4_changeNumber_r3 : List Cond := [Cond.code yX0_asPlaces cX0_asPlaces 5 (some .int), Cond.classLink RX0 43 "java/lang/ArithmeticException", Cond.initialized "java/lang/ArithmeticException", Cond.constantLong RX0 70 (9), Cond.methodLink RX0 67 yX0_cutOff, Cond.static yX0_cutOff, Cond.code yX0_cutOff cX0_cutOff 3 (some .long), Cond.methodLink RX0 74 yX0_powerOfTen, Cond.static yX0_powerOfTen, Cond.code yX0_powerOfTen cX0_powerOfTen 1 (some .long), Cond.fieldLink RX0 78 "DeskStack$Decimal" "POWERS" "[J", Cond.methodLink RX0 9 Lib.Math.max.name, Cond.methodLink RX0 82 Lib.Math.min.name, Cond.static Lib.Math.min.name, Cond.code Lib.Math.min.name Lib.Math.min.code 2 (some .int), Cond.methodLink RX0 48 yX0_divide, Cond.static yX0_divide, Cond.code yX0_divide cX0_divide 4 (some .long), Cond.methodLink RX0 15 yX0_raise, Cond.static yX0_raise, Cond.code yX0_raise cX0_raise 3 (some .long), Cond.methodLink RX0 58 yX0_times, Cond.static yX0_times, Cond.code yX0_times cX0_times 4 (some .long)]
def wsX4_changeNumber_r4 : List Cond := [Cond.classLink RX0 36 "java/lang/UnsupportedOperationException", Cond.initialized "java/lang/UnsupportedOperationException", Cond.methodLink RX0 31 Lib.MathLoose.abs_long.x, Cond.static Lib.MathLoose.abs_long.x, Cond.code Lib.MathLoose.abs_long.x Lib.MathLoose.abs_long.code 2 (some .long), Cond.constantLong RX0 34 (999999999999999999), Cond.methodLink RX4 215 yX3_drop, Cond.instanceMethod yX3_drop, Cond.selects RX3 yX3_drop yX3_drop, Cond.code yX3_drop cX3_drop 2 none, Cond.methodLink RX3 73 Lib.Math.max.name, Cond.methodLink RX4 221 yX0_root, Cond.static yX0_root, Cond.code yX0_root cX0_root 13 (some .long), Cond.constantLong RX0 63 (999999999), Cond.constantLong RX0 65 (2), Cond.methodLink RX4 149 yX3_putNumber, Cond.instanceMethod yX3_putNumber, Cond.selects RX3 yX3_putNumber yX3_putNumber, Cond.code yX3_putNumber cX3_putNumber 4 none, Cond.methodLink RX3 36 yX3_put, Cond.instanceMethod yX3_put, Cond.selects RX3 yX3_put yX3_put, Cond.code yX3_put cX3_put 6 none]
def wsX4_changeNumber_r5 : List Cond := [Cond.classLink RX3 62 "java/lang/UnsupportedOperationException", Cond.methodLink RX3 58 yX3_isFull, Cond.instanceMethod yX3_isFull, Cond.selects RX3 yX3_isFull yX3_isFull, Cond.code yX3_isFull cX3_isFull 1 (some .boolean), Cond.methodLink RX3 69 yX3_set, Cond.instanceMethod yX3_set, Cond.selects RX3 yX3_set yX3_set, Cond.code yX3_set cX3_set 7 none, Cond.fieldLink RX3 25 "DeskStack$Shelf" "starts" "[I"]
def wsX4_changeNumber : List Cond := .code yX4_changeNumber cX4_changeNumber 8 none :: ((wsX4_changeNumber_r1 ++ (wsX4_changeNumber_r2 ++ (wsX4_changeNumber_r3 ++ (wsX4_changeNumber_r4 ++ wsX4_changeNumber_r5)))) ++ wsX40 ++ wsX30 ++ (vx_atS RX4 181 "java/lang/IndexOutOfBoundsException" ["java/lang/RuntimeException", "java/lang/Exception"]).filter goodWord ++ (vx_atS RX4 169 "java/lang/IllegalStateException" ["java/lang/RuntimeException", "java/lang/Exception"]).filter goodWord ++ (vx_atS RX0 47 "java/lang/ArithmeticException" ["java/lang/RuntimeException", "java/lang/Exception"]).filter goodWord ++ (vx_atS RX0 40 "java/lang/UnsupportedOperationException" ["java/lang/RuntimeException", "java/lang/Exception"]).filter goodWord ++ (vx_atS RX3 66 "java/lang/UnsupportedOperationException" ["java/lang/RuntimeException", "java/lang/Exception"]).filter goodWord)
def wsX4_registerNumbered : List Cond := .code yX4_registerNumbered cX4_registerNumbered 2 (some (.object "DeskStack$Shelf")) :: ([.fieldLink RX4 18 "DeskStack" "registers" "[LDeskStack$Shelf;"] ++ wsX40)
def wsX4_registerOfLetter_r1 : List Cond := [Cond.classLink RX4 56 "java/lang/IllegalArgumentException", Cond.initialized "java/lang/IllegalArgumentException", Cond.fieldLink RX4 28 "DeskStack" "texts" "LDeskStack$Nest;", Cond.methodLink RX4 80 yX1_look, Cond.instanceMethod yX1_look, Cond.selects RX1 yX1_look yX1_look, Cond.initialized RX1, Cond.code yX1_look cX1_look 2 (some .int), Cond.fieldLink RX1 17 "DeskStack$Nest" "positions" "[I", Cond.fieldLink RX1 24 "DeskStack$Nest" "count" "I", Cond.fieldLink RX1 21 "DeskStack$Nest" "ends" "[I", Cond.fieldLink RX1 11 "DeskStack$Nest" "rows" "[LDeskStack$Row;", Cond.methodLink RX1 55 yX1_isUnderWay, Cond.instanceMethod yX1_isUnderWay, Cond.selects RX1 yX1_isUnderWay yX1_isUnderWay, Cond.code yX1_isUnderWay cX1_isUnderWay 1 (some .boolean), Cond.methodLink RX1 59 yX2_charAt, Cond.instanceMethod yX2_charAt, Cond.selects RX2 yX2_charAt yX2_charAt, Cond.initialized RX2, Cond.code yX2_charAt cX2_charAt 2 (some .int), Cond.fieldLink RX2 15 "DeskStack$Row" "size" "I", Cond.fieldLink RX2 9 "DeskStack$Row" "chars" "[B", Cond.methodLink RX4 107 yX4_registerNumbered]
def wsX4_registerOfLetter_r2 : List Cond := [Cond.instanceMethod yX4_registerNumbered, Cond.selects RX4 yX4_registerNumbered yX4_registerNumbered, Cond.initialized RX4, Cond.code yX4_registerNumbered cX4_registerNumbered 2 (some (.object "DeskStack$Shelf")), Cond.fieldLink RX4 18 "DeskStack" "registers" "[LDeskStack$Shelf;", Cond.methodLink RX4 118 yX1_pass, Cond.instanceMethod yX1_pass, Cond.selects RX1 yX1_pass yX1_pass, Cond.code yX1_pass cX1_pass 1 none]
def wsX4_registerOfLetter : List Cond := .code yX4_registerOfLetter cX4_registerOfLetter 2 (some (.object "DeskStack$Shelf")) :: ((wsX4_registerOfLetter_r1 ++ wsX4_registerOfLetter_r2) ++ wsX40 ++ wsX10 ++ wsX20 ++ (vx_atS RX4 60 "java/lang/IllegalArgumentException" ["java/lang/RuntimeException", "java/lang/Exception"]).filter goodWord)
def wsX4_needHeld : List Cond := .code yX4_needHeld cX4_needHeld 1 none :: ([.classLink RX4 165 "java/lang/IllegalStateException", .initialized "java/lang/IllegalStateException", .fieldLink RX4 95 "DeskStack$Shelf" "count" "I"] ++ wsX30 ++ (vx_atS RX4 169 "java/lang/IllegalStateException" ["java/lang/RuntimeException", "java/lang/Exception"]).filter goodWord)
def wsX4_moveToOrFromRegister_r1 : List Cond := [Cond.fieldLink RX4 14 "DeskStack" "stack" "LDeskStack$Shelf;", Cond.methodLink RX4 242 yX4_registerOfLetter, Cond.instanceMethod yX4_registerOfLetter, Cond.selects RX4 yX4_registerOfLetter yX4_registerOfLetter, Cond.initialized RX4, Cond.code yX4_registerOfLetter cX4_registerOfLetter 2 (some (.object "DeskStack$Shelf")), Cond.classLink RX4 56 "java/lang/IllegalArgumentException", Cond.initialized "java/lang/IllegalArgumentException", Cond.fieldLink RX4 28 "DeskStack" "texts" "LDeskStack$Nest;", Cond.methodLink RX4 80 yX1_look, Cond.instanceMethod yX1_look, Cond.selects RX1 yX1_look yX1_look, Cond.initialized RX1, Cond.code yX1_look cX1_look 2 (some .int), Cond.fieldLink RX1 17 "DeskStack$Nest" "positions" "[I", Cond.fieldLink RX1 24 "DeskStack$Nest" "count" "I", Cond.fieldLink RX1 21 "DeskStack$Nest" "ends" "[I", Cond.fieldLink RX1 11 "DeskStack$Nest" "rows" "[LDeskStack$Row;", Cond.methodLink RX1 55 yX1_isUnderWay, Cond.instanceMethod yX1_isUnderWay, Cond.selects RX1 yX1_isUnderWay yX1_isUnderWay, Cond.code yX1_isUnderWay cX1_isUnderWay 1 (some .boolean), Cond.methodLink RX1 59 yX2_charAt, Cond.instanceMethod yX2_charAt]
def wsX4_moveToOrFromRegister_r2 : List Cond := [Cond.selects RX2 yX2_charAt yX2_charAt, Cond.initialized RX2, Cond.code yX2_charAt cX2_charAt 2 (some .int), Cond.fieldLink RX2 15 "DeskStack$Row" "size" "I", Cond.fieldLink RX2 9 "DeskStack$Row" "chars" "[B", Cond.methodLink RX4 107 yX4_registerNumbered, Cond.instanceMethod yX4_registerNumbered, Cond.selects RX4 yX4_registerNumbered yX4_registerNumbered, Cond.code yX4_registerNumbered cX4_registerNumbered 2 (some (.object "DeskStack$Shelf")), Cond.fieldLink RX4 18 "DeskStack" "registers" "[LDeskStack$Shelf;", Cond.methodLink RX4 118 yX1_pass, Cond.instanceMethod yX1_pass, Cond.selects RX1 yX1_pass yX1_pass, Cond.code yX1_pass cX1_pass 1 none, Cond.methodLink RX4 170 yX4_needItems, Cond.instanceMethod yX4_needItems, Cond.selects RX4 yX4_needItems yX4_needItems, Cond.code yX4_needItems cX4_needItems 2 none, Cond.classLink RX4 165 "java/lang/IllegalStateException", Cond.initialized "java/lang/IllegalStateException", Cond.fieldLink RX4 95 "DeskStack$Shelf" "count" "I", Cond.methodLink RX4 215 yX3_drop, Cond.instanceMethod yX3_drop, Cond.selects RX3 yX3_drop yX3_drop]
def wsX4_moveToOrFromRegister_r3 : List Cond := [Cond.initialized RX3, Cond.code yX3_drop cX3_drop 2 none, Cond.fieldLink RX3 28 "DeskStack$Shelf" "count" "I", Cond.methodLink RX3 73 Lib.Math.max.name, Cond.static Lib.Math.max.name, Cond.initialized "java/lang/Math", Cond.code Lib.Math.max.name Lib.Math.max.code 2 (some .int), Cond.methodLink RX4 225 yX3_putTopOf, Cond.instanceMethod yX3_putTopOf, Cond.selects RX3 yX3_putTopOf yX3_putTopOf, Cond.code yX3_putTopOf cX3_putTopOf 3 none, Cond.methodLink RX3 40 yX3_slotBelowTop, Cond.instanceMethod yX3_slotBelowTop, Cond.selects RX3 yX3_slotBelowTop yX3_slotBelowTop, Cond.code yX3_slotBelowTop cX3_slotBelowTop 2 (some .int), Cond.methodLink RX3 44 yX3_valueAt, Cond.instanceMethod yX3_valueAt, Cond.selects RX3 yX3_valueAt yX3_valueAt, Cond.code yX3_valueAt cX3_valueAt 2 (some .long), Cond.fieldLink RX3 9 "DeskStack$Shelf" "values" "[J", Cond.methodLink RX3 32 yX3_has, Cond.instanceMethod yX3_has, Cond.selects RX3 yX3_has yX3_has, Cond.code yX3_has cX3_has 2 (some .boolean)]
def wsX4_moveToOrFromRegister_r4 : List Cond := [Cond.methodLink RX3 48 yX3_placesAt, Cond.instanceMethod yX3_placesAt, Cond.selects RX3 yX3_placesAt yX3_placesAt, Cond.code yX3_placesAt cX3_placesAt 2 (some .int), Cond.fieldLink RX3 15 "DeskStack$Shelf" "places" "[I", Cond.methodLink RX3 51 yX3_rowAt, Cond.instanceMethod yX3_rowAt, Cond.selects RX3 yX3_rowAt yX3_rowAt, Cond.code yX3_rowAt cX3_rowAt 2 (some (.object "DeskStack$Row")), Cond.fieldLink RX3 21 "DeskStack$Shelf" "rows" "[LDeskStack$Row;", Cond.methodLink RX3 55 yX3_startAt, Cond.instanceMethod yX3_startAt, Cond.selects RX3 yX3_startAt yX3_startAt, Cond.code yX3_startAt cX3_startAt 2 (some .int), Cond.fieldLink RX3 25 "DeskStack$Shelf" "starts" "[I", Cond.methodLink RX3 36 yX3_put, Cond.instanceMethod yX3_put, Cond.selects RX3 yX3_put yX3_put, Cond.code yX3_put cX3_put 6 none, Cond.classLink RX3 62 "java/lang/UnsupportedOperationException", Cond.initialized "java/lang/UnsupportedOperationException", Cond.methodLink RX3 58 yX3_isFull, Cond.instanceMethod yX3_isFull, Cond.selects RX3 yX3_isFull yX3_isFull]
def wsX4_moveToOrFromRegister_r5 : List Cond := [Cond.code yX3_isFull cX3_isFull 1 (some .boolean), Cond.methodLink RX3 69 yX3_set, Cond.instanceMethod yX3_set, Cond.selects RX3 yX3_set yX3_set, Cond.code yX3_set cX3_set 7 none, Cond.methodLink RX4 246 yX4_needHeld, Cond.static yX4_needHeld, Cond.code yX4_needHeld cX4_needHeld 1 none]
def wsX4_moveToOrFromRegister : List Cond := .code yX4_moveToOrFromRegister cX4_moveToOrFromRegister 3 none :: ((wsX4_moveToOrFromRegister_r1 ++ (wsX4_moveToOrFromRegister_r2 ++ (wsX4_moveToOrFromRegister_r3 ++ (wsX4_moveToOrFromRegister_r4 ++ wsX4_moveToOrFromRegister_r5)))) ++ wsX40 ++ wsX10 ++ wsX20 ++ wsX30 ++ (vx_atS RX4 60 "java/lang/IllegalArgumentException" ["java/lang/RuntimeException", "java/lang/Exception"]).filter goodWord ++ (vx_atS RX4 169 "java/lang/IllegalStateException" ["java/lang/RuntimeException", "java/lang/Exception"]).filter goodWord ++ (vx_atS RX3 66 "java/lang/UnsupportedOperationException" ["java/lang/RuntimeException", "java/lang/Exception"]).filter goodWord)
def wsX4_runIfOrdered_r1 : List Cond := [Cond.classLink RX4 177 "java/lang/IndexOutOfBoundsException", Cond.initialized "java/lang/IndexOutOfBoundsException", Cond.fieldLink RX4 14 "DeskStack" "stack" "LDeskStack$Shelf;", Cond.fieldLink RX4 28 "DeskStack" "texts" "LDeskStack$Nest;", Cond.methodLink RX4 242 yX4_registerOfLetter, Cond.instanceMethod yX4_registerOfLetter, Cond.selects RX4 yX4_registerOfLetter yX4_registerOfLetter, Cond.initialized RX4, Cond.code yX4_registerOfLetter cX4_registerOfLetter 2 (some (.object "DeskStack$Shelf")), Cond.classLink RX4 56 "java/lang/IllegalArgumentException", Cond.initialized "java/lang/IllegalArgumentException", Cond.methodLink RX4 80 yX1_look, Cond.instanceMethod yX1_look, Cond.selects RX1 yX1_look yX1_look, Cond.initialized RX1, Cond.code yX1_look cX1_look 2 (some .int), Cond.fieldLink RX1 17 "DeskStack$Nest" "positions" "[I", Cond.fieldLink RX1 24 "DeskStack$Nest" "count" "I", Cond.fieldLink RX1 21 "DeskStack$Nest" "ends" "[I", Cond.fieldLink RX1 11 "DeskStack$Nest" "rows" "[LDeskStack$Row;", Cond.methodLink RX1 55 yX1_isUnderWay, Cond.instanceMethod yX1_isUnderWay, Cond.selects RX1 yX1_isUnderWay yX1_isUnderWay, Cond.code yX1_isUnderWay cX1_isUnderWay 1 (some .boolean)]
def wsX4_runIfOrdered_r2 : List Cond := [Cond.methodLink RX1 59 yX2_charAt, Cond.instanceMethod yX2_charAt, Cond.selects RX2 yX2_charAt yX2_charAt, Cond.initialized RX2, Cond.code yX2_charAt cX2_charAt 2 (some .int), Cond.fieldLink RX2 15 "DeskStack$Row" "size" "I", Cond.fieldLink RX2 9 "DeskStack$Row" "chars" "[B", Cond.methodLink RX4 107 yX4_registerNumbered, Cond.instanceMethod yX4_registerNumbered, Cond.selects RX4 yX4_registerNumbered yX4_registerNumbered, Cond.code yX4_registerNumbered cX4_registerNumbered 2 (some (.object "DeskStack$Shelf")), Cond.fieldLink RX4 18 "DeskStack" "registers" "[LDeskStack$Shelf;", Cond.methodLink RX4 118 yX1_pass, Cond.instanceMethod yX1_pass, Cond.selects RX1 yX1_pass yX1_pass, Cond.code yX1_pass cX1_pass 1 none, Cond.methodLink RX4 182 yX4_needNumbers, Cond.instanceMethod yX4_needNumbers, Cond.selects RX4 yX4_needNumbers yX4_needNumbers, Cond.code yX4_needNumbers cX4_needNumbers 3 none, Cond.methodLink RX4 170 yX4_needItems, Cond.instanceMethod yX4_needItems, Cond.selects RX4 yX4_needItems yX4_needItems, Cond.code yX4_needItems cX4_needItems 2 none]
def wsX4_runIfOrdered_r3 : List Cond := [Cond.classLink RX4 165 "java/lang/IllegalStateException", Cond.initialized "java/lang/IllegalStateException", Cond.fieldLink RX4 95 "DeskStack$Shelf" "count" "I", Cond.methodLink RX4 104 yX3_slotBelowTop, Cond.instanceMethod yX3_slotBelowTop, Cond.selects RX3 yX3_slotBelowTop yX3_slotBelowTop, Cond.initialized RX3, Cond.code yX3_slotBelowTop cX3_slotBelowTop 2 (some .int), Cond.fieldLink RX3 28 "DeskStack$Shelf" "count" "I", Cond.methodLink RX4 173 yX3_rowAt, Cond.instanceMethod yX3_rowAt, Cond.selects RX3 yX3_rowAt yX3_rowAt, Cond.code yX3_rowAt cX3_rowAt 2 (some (.object "DeskStack$Row")), Cond.fieldLink RX3 21 "DeskStack$Shelf" "rows" "[LDeskStack$Row;", Cond.methodLink RX3 32 yX3_has, Cond.instanceMethod yX3_has, Cond.selects RX3 yX3_has yX3_has, Cond.code yX3_has cX3_has 2 (some .boolean), Cond.fieldLink RX3 9 "DeskStack$Shelf" "values" "[J", Cond.methodLink RX4 96 yX3_valueAt, Cond.instanceMethod yX3_valueAt, Cond.selects RX3 yX3_valueAt yX3_valueAt, Cond.code yX3_valueAt cX3_valueAt 2 (some .long), Cond.methodLink RX4 100 yX3_placesAt]
def wsX4_runIfOrdered_r4 : List Cond := [Cond.instanceMethod yX3_placesAt, Cond.selects RX3 yX3_placesAt yX3_placesAt, Cond.code yX3_placesAt cX3_placesAt 2 (some .int), Cond.fieldLink RX3 15 "DeskStack$Shelf" "places" "[I", Cond.methodLink RX4 255 yX0_order, Cond.static yX0_order, Cond.initialized RX0, Cond.code yX0_order cX0_order 7 (some .int), Cond.methodLink RX0 9 Lib.Math.max.name, Cond.static Lib.Math.max.name, Cond.initialized "java/lang/Math", Cond.code Lib.Math.max.name Lib.Math.max.code 2 (some .int), Cond.methodLink RX0 15 yX0_raise, Cond.static yX0_raise, Cond.code yX0_raise cX0_raise 3 (some .long), Cond.methodLink RX0 74 yX0_powerOfTen, Cond.static yX0_powerOfTen, Cond.code yX0_powerOfTen cX0_powerOfTen 1 (some .long), Cond.fieldLink RX0 78 "DeskStack$Decimal" "POWERS" "[J", Cond.methodLink RX0 82 Lib.Math.min.name, Cond.static Lib.Math.min.name, Cond.code Lib.Math.min.name Lib.Math.min.code 2 (some .int), Cond.methodLink RX0 58 yX0_times, Cond.static yX0_times]
def wsX4_runIfOrdered_r5 : List Cond := [Cond.code yX0_times cX0_times 4 (some .long), Cond.classLink RX0 36 "java/lang/UnsupportedOperationException", Cond.initialized "java/lang/UnsupportedOperationException", Cond.methodLink RX0 31 Lib.MathLoose.abs_long.x, Cond.static Lib.MathLoose.abs_long.x, Cond.code Lib.MathLoose.abs_long.x Lib.MathLoose.abs_long.code 2 (some .long), Cond.constantLong RX0 34 (999999999999999999), Cond.methodLink RX0 25 yJ13_compare_74951, Cond.static yJ13_compare_74951, Cond.initialized RJ13, Cond.code yJ13_compare_74951 cJ13_compare_74951 4 (some .int), Cond.methodLink RX4 246 yX4_needHeld, Cond.static yX4_needHeld, Cond.code yX4_needHeld cX4_needHeld 1 none, Cond.methodLink RX4 249 yX3_startAt, Cond.instanceMethod yX3_startAt, Cond.selects RX3 yX3_startAt yX3_startAt, Cond.code yX3_startAt cX3_startAt 2 (some .int), Cond.fieldLink RX3 25 "DeskStack$Shelf" "starts" "[I", Cond.methodLink RX4 252 yX1_enterMacro, Cond.instanceMethod yX1_enterMacro, Cond.selects RX1 yX1_enterMacro yX1_enterMacro, Cond.code yX1_enterMacro cX1_enterMacro 4 none, Cond.methodLink RX1 35 yX1_skipBlanks]
def wsX4_runIfOrdered_r6 : List Cond := [Cond.instanceMethod yX1_skipBlanks, Cond.selects RX1 yX1_skipBlanks yX1_skipBlanks, Cond.code yX1_skipBlanks cX1_skipBlanks 2 none, Cond.methodLink RX1 38 yX1_look, Cond.methodLink RX1 63 yX1_pass, Cond.methodLink RX1 42 yX1_leave, Cond.instanceMethod yX1_leave, Cond.selects RX1 yX1_leave yX1_leave, Cond.code yX1_leave cX1_leave 1 none, Cond.methodLink RX1 49 Lib.Math.max.name, Cond.methodLink RX1 45 yX1_enter, Cond.instanceMethod yX1_enter, Cond.selects RX1 yX1_enter yX1_enter, Cond.code yX1_enter cX1_enter 4 none, Cond.classLink RX1 28 "java/lang/UnsupportedOperationException", Cond.methodLink RX4 215 yX3_drop, Cond.instanceMethod yX3_drop, Cond.selects RX3 yX3_drop yX3_drop, Cond.code yX3_drop cX3_drop 2 none, Cond.methodLink RX3 73 Lib.Math.max.name]
def wsX4_runIfOrdered : List Cond := .code yX4_runIfOrdered cX4_runIfOrdered 9 none :: ((wsX4_runIfOrdered_r1 ++ (wsX4_runIfOrdered_r2 ++ (wsX4_runIfOrdered_r3 ++ (wsX4_runIfOrdered_r4 ++ (wsX4_runIfOrdered_r5 ++ wsX4_runIfOrdered_r6))))) ++ wsX40 ++ wsX10 ++ wsX20 ++ wsX30 ++ (vx_atS RX4 181 "java/lang/IndexOutOfBoundsException" ["java/lang/RuntimeException", "java/lang/Exception"]).filter goodWord ++ (vx_atS RX4 60 "java/lang/IllegalArgumentException" ["java/lang/RuntimeException", "java/lang/Exception"]).filter goodWord ++ (vx_atS RX4 169 "java/lang/IllegalStateException" ["java/lang/RuntimeException", "java/lang/Exception"]).filter goodWord ++ (vx_atS RX0 40 "java/lang/UnsupportedOperationException" ["java/lang/RuntimeException", "java/lang/Exception"]).filter goodWord ++ (vx_atS RX1 32 "java/lang/UnsupportedOperationException" ["java/lang/RuntimeException", "java/lang/Exception"]).filter goodWord)
def wsX4_runTop_r1 : List Cond := [Cond.fieldLink RX4 14 "DeskStack" "stack" "LDeskStack$Shelf;", Cond.fieldLink RX4 28 "DeskStack" "texts" "LDeskStack$Nest;", Cond.methodLink RX4 170 yX4_needItems, Cond.instanceMethod yX4_needItems, Cond.selects RX4 yX4_needItems yX4_needItems, Cond.initialized RX4, Cond.code yX4_needItems cX4_needItems 2 none, Cond.classLink RX4 165 "java/lang/IllegalStateException", Cond.initialized "java/lang/IllegalStateException", Cond.fieldLink RX4 95 "DeskStack$Shelf" "count" "I", Cond.methodLink RX4 104 yX3_slotBelowTop, Cond.instanceMethod yX3_slotBelowTop, Cond.selects RX3 yX3_slotBelowTop yX3_slotBelowTop, Cond.initialized RX3, Cond.code yX3_slotBelowTop cX3_slotBelowTop 2 (some .int), Cond.fieldLink RX3 28 "DeskStack$Shelf" "count" "I", Cond.methodLink RX4 173 yX3_rowAt, Cond.instanceMethod yX3_rowAt, Cond.selects RX3 yX3_rowAt yX3_rowAt, Cond.code yX3_rowAt cX3_rowAt 2 (some (.object "DeskStack$Row")), Cond.fieldLink RX3 21 "DeskStack$Shelf" "rows" "[LDeskStack$Row;", Cond.methodLink RX3 32 yX3_has, Cond.instanceMethod yX3_has, Cond.selects RX3 yX3_has yX3_has]
def wsX4_runTop_r2 : List Cond := [Cond.code yX3_has cX3_has 2 (some .boolean), Cond.fieldLink RX3 9 "DeskStack$Shelf" "values" "[J", Cond.methodLink RX4 249 yX3_startAt, Cond.instanceMethod yX3_startAt, Cond.selects RX3 yX3_startAt yX3_startAt, Cond.code yX3_startAt cX3_startAt 2 (some .int), Cond.fieldLink RX3 25 "DeskStack$Shelf" "starts" "[I", Cond.methodLink RX4 96 yX3_valueAt, Cond.instanceMethod yX3_valueAt, Cond.selects RX3 yX3_valueAt yX3_valueAt, Cond.code yX3_valueAt cX3_valueAt 2 (some .long), Cond.methodLink RX4 252 yX1_enterMacro, Cond.instanceMethod yX1_enterMacro, Cond.selects RX1 yX1_enterMacro yX1_enterMacro, Cond.initialized RX1, Cond.code yX1_enterMacro cX1_enterMacro 4 none, Cond.methodLink RX1 35 yX1_skipBlanks, Cond.instanceMethod yX1_skipBlanks, Cond.selects RX1 yX1_skipBlanks yX1_skipBlanks, Cond.code yX1_skipBlanks cX1_skipBlanks 2 none, Cond.methodLink RX1 38 yX1_look, Cond.instanceMethod yX1_look, Cond.selects RX1 yX1_look yX1_look, Cond.code yX1_look cX1_look 2 (some .int)]
def wsX4_runTop_r3 : List Cond := [Cond.fieldLink RX1 17 "DeskStack$Nest" "positions" "[I", Cond.fieldLink RX1 24 "DeskStack$Nest" "count" "I", Cond.fieldLink RX1 21 "DeskStack$Nest" "ends" "[I", Cond.fieldLink RX1 11 "DeskStack$Nest" "rows" "[LDeskStack$Row;", Cond.methodLink RX1 55 yX1_isUnderWay, Cond.instanceMethod yX1_isUnderWay, Cond.selects RX1 yX1_isUnderWay yX1_isUnderWay, Cond.code yX1_isUnderWay cX1_isUnderWay 1 (some .boolean), Cond.methodLink RX1 59 yX2_charAt, Cond.instanceMethod yX2_charAt, Cond.selects RX2 yX2_charAt yX2_charAt, Cond.initialized RX2, Cond.code yX2_charAt cX2_charAt 2 (some .int), Cond.fieldLink RX2 15 "DeskStack$Row" "size" "I", Cond.fieldLink RX2 9 "DeskStack$Row" "chars" "[B", Cond.methodLink RX1 63 yX1_pass, Cond.instanceMethod yX1_pass, Cond.selects RX1 yX1_pass yX1_pass, Cond.code yX1_pass cX1_pass 1 none, Cond.methodLink RX1 42 yX1_leave, Cond.instanceMethod yX1_leave, Cond.selects RX1 yX1_leave yX1_leave, Cond.code yX1_leave cX1_leave 1 none, Cond.methodLink RX1 49 Lib.Math.max.name]
def wsX4_runTop_r4 : List Cond := [Cond.static Lib.Math.max.name, Cond.initialized "java/lang/Math", Cond.code Lib.Math.max.name Lib.Math.max.code 2 (some .int), Cond.methodLink RX1 45 yX1_enter, Cond.instanceMethod yX1_enter, Cond.selects RX1 yX1_enter yX1_enter, Cond.code yX1_enter cX1_enter 4 none, Cond.classLink RX1 28 "java/lang/UnsupportedOperationException", Cond.initialized "java/lang/UnsupportedOperationException", Cond.methodLink RX4 215 yX3_drop, Cond.instanceMethod yX3_drop, Cond.selects RX3 yX3_drop yX3_drop, Cond.code yX3_drop cX3_drop 2 none, Cond.methodLink RX3 73 Lib.Math.max.name]
def wsX4_runTop : List Cond := .code yX4_runTop cX4_runTop 3 none :: ((wsX4_runTop_r1 ++ (wsX4_runTop_r2 ++ (wsX4_runTop_r3 ++ wsX4_runTop_r4))) ++ wsX40 ++ wsX30 ++ wsX10 ++ wsX20 ++ (vx_atS RX4 169 "java/lang/IllegalStateException" ["java/lang/RuntimeException", "java/lang/Exception"]).filter goodWord ++ (vx_atS RX1 32 "java/lang/UnsupportedOperationException" ["java/lang/RuntimeException", "java/lang/Exception"]).filter goodWord)
def wsX4_arrangeStack_r1 : List Cond := [Cond.classLink RX4 56 "java/lang/IllegalArgumentException", Cond.initialized "java/lang/IllegalArgumentException", Cond.fieldLink RX4 14 "DeskStack" "stack" "LDeskStack$Shelf;", Cond.fieldLink RX4 95 "DeskStack$Shelf" "count" "I", Cond.fieldLink RX4 39 "DeskStack" "keptPlaces" "I", Cond.fieldLink RX4 22 "DeskStack" "printer" "LDeskStack$Shelf;", Cond.methodLink RX4 170 yX4_needItems, Cond.instanceMethod yX4_needItems, Cond.selects RX4 yX4_needItems yX4_needItems, Cond.initialized RX4, Cond.code yX4_needItems cX4_needItems 2 none, Cond.classLink RX4 165 "java/lang/IllegalStateException", Cond.initialized "java/lang/IllegalStateException", Cond.methodLink RX4 225 yX3_putTopOf, Cond.instanceMethod yX3_putTopOf, Cond.selects RX3 yX3_putTopOf yX3_putTopOf, Cond.initialized RX3, Cond.code yX3_putTopOf cX3_putTopOf 3 none, Cond.methodLink RX3 40 yX3_slotBelowTop, Cond.instanceMethod yX3_slotBelowTop, Cond.selects RX3 yX3_slotBelowTop yX3_slotBelowTop, Cond.code yX3_slotBelowTop cX3_slotBelowTop 2 (some .int), Cond.fieldLink RX3 28 "DeskStack$Shelf" "count" "I", Cond.methodLink RX3 44 yX3_valueAt]
def wsX4_arrangeStack_r2 : List Cond := [Cond.instanceMethod yX3_valueAt, Cond.selects RX3 yX3_valueAt yX3_valueAt, Cond.code yX3_valueAt cX3_valueAt 2 (some .long), Cond.fieldLink RX3 9 "DeskStack$Shelf" "values" "[J", Cond.methodLink RX3 32 yX3_has, Cond.instanceMethod yX3_has, Cond.selects RX3 yX3_has yX3_has, Cond.code yX3_has cX3_has 2 (some .boolean), Cond.methodLink RX3 48 yX3_placesAt, Cond.instanceMethod yX3_placesAt, Cond.selects RX3 yX3_placesAt yX3_placesAt, Cond.code yX3_placesAt cX3_placesAt 2 (some .int), Cond.fieldLink RX3 15 "DeskStack$Shelf" "places" "[I", Cond.methodLink RX3 51 yX3_rowAt, Cond.instanceMethod yX3_rowAt, Cond.selects RX3 yX3_rowAt yX3_rowAt, Cond.code yX3_rowAt cX3_rowAt 2 (some (.object "DeskStack$Row")), Cond.fieldLink RX3 21 "DeskStack$Shelf" "rows" "[LDeskStack$Row;", Cond.methodLink RX3 55 yX3_startAt, Cond.instanceMethod yX3_startAt, Cond.selects RX3 yX3_startAt yX3_startAt, Cond.code yX3_startAt cX3_startAt 2 (some .int), Cond.fieldLink RX3 25 "DeskStack$Shelf" "starts" "[I", Cond.methodLink RX3 36 yX3_put]
def wsX4_arrangeStack_r3 : List Cond := [Cond.instanceMethod yX3_put, Cond.selects RX3 yX3_put yX3_put, Cond.code yX3_put cX3_put 6 none, Cond.classLink RX3 62 "java/lang/UnsupportedOperationException", Cond.initialized "java/lang/UnsupportedOperationException", Cond.methodLink RX3 58 yX3_isFull, Cond.instanceMethod yX3_isFull, Cond.selects RX3 yX3_isFull yX3_isFull, Cond.code yX3_isFull cX3_isFull 1 (some .boolean), Cond.methodLink RX3 69 yX3_set, Cond.instanceMethod yX3_set, Cond.selects RX3 yX3_set yX3_set, Cond.code yX3_set cX3_set 7 none, Cond.methodLink RX4 229 yX3_swapTopTwo, Cond.instanceMethod yX3_swapTopTwo, Cond.selects RX3 yX3_swapTopTwo yX3_swapTopTwo, Cond.code yX3_swapTopTwo cX3_swapTopTwo 8 none, Cond.methodLink RX4 215 yX3_drop, Cond.instanceMethod yX3_drop, Cond.selects RX3 yX3_drop yX3_drop, Cond.code yX3_drop cX3_drop 2 none, Cond.methodLink RX3 73 Lib.Math.max.name, Cond.static Lib.Math.max.name, Cond.initialized "java/lang/Math"]
def wsX4_arrangeStack_r4 : List Cond := [Cond.code Lib.Math.max.name Lib.Math.max.code 2 (some .int), Cond.methodLink RX4 63 yX3_clear, Cond.instanceMethod yX3_clear, Cond.selects RX3 yX3_clear yX3_clear, Cond.code yX3_clear cX3_clear 1 none, Cond.methodLink RX4 149 yX3_putNumber, Cond.instanceMethod yX3_putNumber, Cond.selects RX3 yX3_putNumber yX3_putNumber, Cond.code yX3_putNumber cX3_putNumber 4 none, Cond.methodLink RX4 232 yX3_isFull]
def wsX4_arrangeStack : List Cond := .code yX4_arrangeStack cX4_arrangeStack 2 none :: ((wsX4_arrangeStack_r1 ++ (wsX4_arrangeStack_r2 ++ (wsX4_arrangeStack_r3 ++ wsX4_arrangeStack_r4))) ++ wsX40 ++ wsX30 ++ (vx_atS RX4 60 "java/lang/IllegalArgumentException" ["java/lang/RuntimeException", "java/lang/Exception"]).filter goodWord ++ (vx_atS RX4 169 "java/lang/IllegalStateException" ["java/lang/RuntimeException", "java/lang/Exception"]).filter goodWord ++ (vx_atS RX3 66 "java/lang/UnsupportedOperationException" ["java/lang/RuntimeException", "java/lang/Exception"]).filter goodWord)
def wsX4_doCommand_r1 : List Cond := [Cond.fieldLink RX4 28 "DeskStack" "texts" "LDeskStack$Nest;", Cond.methodLink RX4 80 yX1_look, Cond.instanceMethod yX1_look, Cond.selects RX1 yX1_look yX1_look, Cond.initialized RX1, Cond.code yX1_look cX1_look 2 (some .int), Cond.fieldLink RX1 17 "DeskStack$Nest" "positions" "[I", Cond.fieldLink RX1 24 "DeskStack$Nest" "count" "I", Cond.fieldLink RX1 21 "DeskStack$Nest" "ends" "[I", Cond.fieldLink RX1 11 "DeskStack$Nest" "rows" "[LDeskStack$Row;", Cond.methodLink RX1 55 yX1_isUnderWay, Cond.instanceMethod yX1_isUnderWay, Cond.selects RX1 yX1_isUnderWay yX1_isUnderWay, Cond.code yX1_isUnderWay cX1_isUnderWay 1 (some .boolean), Cond.methodLink RX1 59 yX2_charAt, Cond.instanceMethod yX2_charAt, Cond.selects RX2 yX2_charAt yX2_charAt, Cond.initialized RX2, Cond.code yX2_charAt cX2_charAt 2 (some .int), Cond.fieldLink RX2 15 "DeskStack$Row" "size" "I", Cond.fieldLink RX2 9 "DeskStack$Row" "chars" "[B", Cond.methodLink RX4 111 yX4_beginsNumber, Cond.static yX4_beginsNumber, Cond.initialized RX4]
def wsX4_doCommand_r2 : List Cond := [Cond.code yX4_beginsNumber cX4_beginsNumber 1 (some .boolean), Cond.methodLink RX4 142 yX4_isDigit, Cond.static yX4_isDigit, Cond.code yX4_isDigit cX4_isDigit 1 (some .boolean), Cond.methodLink RX4 115 yX4_putWrittenNumber, Cond.instanceMethod yX4_putWrittenNumber, Cond.selects RX4 yX4_putWrittenNumber yX4_putWrittenNumber, Cond.code yX4_putWrittenNumber cX4_putWrittenNumber 9 none, Cond.classLink RX4 56 "java/lang/IllegalArgumentException", Cond.initialized "java/lang/IllegalArgumentException", Cond.constantLong RX4 145 (10), Cond.fieldLink RX4 14 "DeskStack" "stack" "LDeskStack$Shelf;", Cond.methodLink RX4 118 yX1_pass, Cond.instanceMethod yX1_pass, Cond.selects RX1 yX1_pass yX1_pass, Cond.code yX1_pass cX1_pass 1 none, Cond.methodLink RX4 149 yX3_putNumber, Cond.instanceMethod yX3_putNumber, Cond.selects RX3 yX3_putNumber yX3_putNumber, Cond.initialized RX3, Cond.code yX3_putNumber cX3_putNumber 4 none, Cond.methodLink RX3 36 yX3_put, Cond.instanceMethod yX3_put, Cond.selects RX3 yX3_put yX3_put]
def wsX4_doCommand_r3 : List Cond := [Cond.code yX3_put cX3_put 6 none, Cond.classLink RX3 62 "java/lang/UnsupportedOperationException", Cond.initialized "java/lang/UnsupportedOperationException", Cond.fieldLink RX3 28 "DeskStack$Shelf" "count" "I", Cond.methodLink RX3 58 yX3_isFull, Cond.instanceMethod yX3_isFull, Cond.selects RX3 yX3_isFull yX3_isFull, Cond.code yX3_isFull cX3_isFull 1 (some .boolean), Cond.fieldLink RX3 9 "DeskStack$Shelf" "values" "[J", Cond.methodLink RX3 69 yX3_set, Cond.instanceMethod yX3_set, Cond.selects RX3 yX3_set yX3_set, Cond.code yX3_set cX3_set 7 none, Cond.fieldLink RX3 15 "DeskStack$Shelf" "places" "[I", Cond.fieldLink RX3 21 "DeskStack$Shelf" "rows" "[LDeskStack$Row;", Cond.fieldLink RX3 25 "DeskStack$Shelf" "starts" "[I", Cond.methodLink RX3 32 yX3_has, Cond.instanceMethod yX3_has, Cond.selects RX3 yX3_has yX3_has, Cond.code yX3_has cX3_has 2 (some .boolean), Cond.methodLink RX4 121 yX4_putWrittenText, Cond.instanceMethod yX4_putWrittenText, Cond.selects RX4 yX4_putWrittenText yX4_putWrittenText, Cond.code yX4_putWrittenText cX4_putWrittenText 6 none]
def wsX4_doCommand_r4 : List Cond := [Cond.methodLink RX4 153 yX1_innermostRow, Cond.instanceMethod yX1_innermostRow, Cond.selects RX1 yX1_innermostRow yX1_innermostRow, Cond.code yX1_innermostRow cX1_innermostRow 1 (some (.object "DeskStack$Row")), Cond.methodLink RX4 157 yX1_position, Cond.instanceMethod yX1_position, Cond.selects RX1 yX1_position yX1_position, Cond.code yX1_position cX1_position 1 (some .int), Cond.methodLink RX4 162 yX3_putText, Cond.instanceMethod yX3_putText, Cond.selects RX3 yX3_putText yX3_putText, Cond.code yX3_putText cX3_putText 4 none, Cond.methodLink RX4 124 yX4_calculate, Cond.instanceMethod yX4_calculate, Cond.selects RX4 yX4_calculate yX4_calculate, Cond.code yX4_calculate cX4_calculate 12 none, Cond.methodLink RX4 185 Lib.Math.max.name, Cond.static Lib.Math.max.name, Cond.initialized "java/lang/Math", Cond.code Lib.Math.max.name Lib.Math.max.code 2 (some .int), Cond.fieldLink RX4 39 "DeskStack" "keptPlaces" "I", Cond.methodLink RX4 197 Lib.Math.min.name, Cond.static Lib.Math.min.name, Cond.code Lib.Math.min.name Lib.Math.min.code 2 (some .int)]
def wsX4_doCommand_r5 : List Cond := [Cond.methodLink RX4 182 yX4_needNumbers, Cond.instanceMethod yX4_needNumbers, Cond.selects RX4 yX4_needNumbers yX4_needNumbers, Cond.code yX4_needNumbers cX4_needNumbers 3 none, Cond.classLink RX4 177 "java/lang/IndexOutOfBoundsException", Cond.initialized "java/lang/IndexOutOfBoundsException", Cond.methodLink RX4 170 yX4_needItems, Cond.instanceMethod yX4_needItems, Cond.selects RX4 yX4_needItems yX4_needItems, Cond.code yX4_needItems cX4_needItems 2 none, Cond.classLink RX4 165 "java/lang/IllegalStateException", Cond.initialized "java/lang/IllegalStateException", Cond.fieldLink RX4 95 "DeskStack$Shelf" "count" "I", Cond.methodLink RX4 104 yX3_slotBelowTop, Cond.instanceMethod yX3_slotBelowTop, Cond.selects RX3 yX3_slotBelowTop yX3_slotBelowTop, Cond.code yX3_slotBelowTop cX3_slotBelowTop 2 (some .int), Cond.methodLink RX4 173 yX3_rowAt, Cond.instanceMethod yX3_rowAt, Cond.selects RX3 yX3_rowAt yX3_rowAt, Cond.code yX3_rowAt cX3_rowAt 2 (some (.object "DeskStack$Row")), Cond.methodLink RX4 96 yX3_valueAt, Cond.instanceMethod yX3_valueAt, Cond.selects RX3 yX3_valueAt yX3_valueAt]
def wsX4_doCommand_r6 : List Cond := [Cond.code yX3_valueAt cX3_valueAt 2 (some .long), Cond.methodLink RX4 100 yX3_placesAt, Cond.instanceMethod yX3_placesAt, Cond.selects RX3 yX3_placesAt yX3_placesAt, Cond.code yX3_placesAt cX3_placesAt 2 (some .int), Cond.methodLink RX4 191 yX0_sum, Cond.static yX0_sum, Cond.initialized RX0, Cond.code yX0_sum cX0_sum 7 (some .long), Cond.methodLink RX0 9 Lib.Math.max.name, Cond.methodLink RX0 15 yX0_raise, Cond.static yX0_raise, Cond.code yX0_raise cX0_raise 3 (some .long), Cond.methodLink RX0 74 yX0_powerOfTen, Cond.static yX0_powerOfTen, Cond.code yX0_powerOfTen cX0_powerOfTen 1 (some .long), Cond.fieldLink RX0 78 "DeskStack$Decimal" "POWERS" "[J", Cond.methodLink RX0 82 Lib.Math.min.name, Cond.methodLink RX0 58 yX0_times, Cond.static yX0_times, Cond.code yX0_times cX0_times 4 (some .long), Cond.classLink RX0 36 "java/lang/UnsupportedOperationException", Cond.methodLink RX0 31 Lib.MathLoose.abs_long.x, Cond.static Lib.MathLoose.abs_long.x]
def wsX4_doCommand_r7 : List Cond := [Cond.code Lib.MathLoose.abs_long.x Lib.MathLoose.abs_long.code 2 (some .long), Cond.constantLong RX0 34 (999999999999999999), Cond.methodLink RX0 21 yX0_fitting, Cond.static yX0_fitting, Cond.code yX0_fitting cX0_fitting 2 (some .long), Cond.methodLink RX4 200 yX0_times, Cond.methodLink RX4 204 yX0_cutOff, Cond.static yX0_cutOff, Cond.code yX0_cutOff cX0_cutOff 3 (some .long), Cond.methodLink RX0 48 yX0_divide, Cond.static yX0_divide, Cond.code yX0_divide cX0_divide 4 (some .long), Cond.methodLink RX4 208 yX0_quotient, Cond.static yX0_quotient, Cond.code yX0_quotient cX0_quotient 8 (some .long), Cond.classLink RX0 43 "java/lang/ArithmeticException", Cond.initialized "java/lang/ArithmeticException", Cond.methodLink RX4 212 yX0_remainder, Cond.static yX0_remainder, Cond.code yX0_remainder cX0_remainder 13 (some .long), Cond.methodLink RX0 52 yX0_quotient, Cond.methodLink RX4 215 yX3_drop, Cond.instanceMethod yX3_drop, Cond.selects RX3 yX3_drop yX3_drop]
def wsX4_doCommand_r8 : List Cond := [Cond.code yX3_drop cX3_drop 2 none, Cond.methodLink RX3 73 Lib.Math.max.name, Cond.methodLink RX4 127 yX4_changeNumber, Cond.instanceMethod yX4_changeNumber, Cond.selects RX4 yX4_changeNumber yX4_changeNumber, Cond.code yX4_changeNumber cX4_changeNumber 8 none, Cond.methodLink RX4 218 yX0_asPlaces, Cond.static yX0_asPlaces, Cond.code yX0_asPlaces cX0_asPlaces 5 (some .int), Cond.constantLong RX0 70 (9), Cond.methodLink RX0 67 yX0_cutOff, Cond.methodLink RX4 221 yX0_root, Cond.static yX0_root, Cond.code yX0_root cX0_root 13 (some .long), Cond.constantLong RX0 63 (999999999), Cond.constantLong RX0 65 (2), Cond.methodLink RX4 130 yX4_moveToOrFromRegister, Cond.instanceMethod yX4_moveToOrFromRegister, Cond.selects RX4 yX4_moveToOrFromRegister yX4_moveToOrFromRegister, Cond.code yX4_moveToOrFromRegister cX4_moveToOrFromRegister 3 none, Cond.methodLink RX4 242 yX4_registerOfLetter, Cond.instanceMethod yX4_registerOfLetter, Cond.selects RX4 yX4_registerOfLetter yX4_registerOfLetter, Cond.code yX4_registerOfLetter cX4_registerOfLetter 2 (some (.object "DeskStack$Shelf"))]
def wsX4_doCommand_r9 : List Cond := [Cond.methodLink RX4 107 yX4_registerNumbered, Cond.instanceMethod yX4_registerNumbered, Cond.selects RX4 yX4_registerNumbered yX4_registerNumbered, Cond.code yX4_registerNumbered cX4_registerNumbered 2 (some (.object "DeskStack$Shelf")), Cond.fieldLink RX4 18 "DeskStack" "registers" "[LDeskStack$Shelf;", Cond.methodLink RX4 225 yX3_putTopOf, Cond.instanceMethod yX3_putTopOf, Cond.selects RX3 yX3_putTopOf yX3_putTopOf, Cond.code yX3_putTopOf cX3_putTopOf 3 none, Cond.methodLink RX3 40 yX3_slotBelowTop, Cond.methodLink RX3 44 yX3_valueAt, Cond.methodLink RX3 48 yX3_placesAt, Cond.methodLink RX3 51 yX3_rowAt, Cond.methodLink RX3 55 yX3_startAt, Cond.instanceMethod yX3_startAt, Cond.selects RX3 yX3_startAt yX3_startAt, Cond.code yX3_startAt cX3_startAt 2 (some .int), Cond.methodLink RX4 246 yX4_needHeld, Cond.static yX4_needHeld, Cond.code yX4_needHeld cX4_needHeld 1 none, Cond.methodLink RX4 133 yX4_runIfOrdered, Cond.instanceMethod yX4_runIfOrdered, Cond.selects RX4 yX4_runIfOrdered yX4_runIfOrdered, Cond.code yX4_runIfOrdered cX4_runIfOrdered 9 none]
def wsX4_doCommand_r10 : List Cond := [Cond.methodLink RX4 255 yX0_order, Cond.static yX0_order, Cond.code yX0_order cX0_order 7 (some .int), Cond.methodLink RX0 25 yJ13_compare_74951, Cond.static yJ13_compare_74951, Cond.initialized RJ13, Cond.code yJ13_compare_74951 cJ13_compare_74951 4 (some .int), Cond.methodLink RX4 249 yX3_startAt, Cond.methodLink RX4 252 yX1_enterMacro, Cond.instanceMethod yX1_enterMacro, Cond.selects RX1 yX1_enterMacro yX1_enterMacro, Cond.code yX1_enterMacro cX1_enterMacro 4 none, Cond.methodLink RX1 35 yX1_skipBlanks, Cond.instanceMethod yX1_skipBlanks, Cond.selects RX1 yX1_skipBlanks yX1_skipBlanks, Cond.code yX1_skipBlanks cX1_skipBlanks 2 none, Cond.methodLink RX1 38 yX1_look, Cond.methodLink RX1 63 yX1_pass, Cond.methodLink RX1 42 yX1_leave, Cond.instanceMethod yX1_leave, Cond.selects RX1 yX1_leave yX1_leave, Cond.code yX1_leave cX1_leave 1 none, Cond.methodLink RX1 49 Lib.Math.max.name, Cond.methodLink RX1 45 yX1_enter]
def wsX4_doCommand_r11 : List Cond := [Cond.instanceMethod yX1_enter, Cond.selects RX1 yX1_enter yX1_enter, Cond.code yX1_enter cX1_enter 4 none, Cond.classLink RX1 28 "java/lang/UnsupportedOperationException", Cond.methodLink RX4 136 yX4_runTop, Cond.instanceMethod yX4_runTop, Cond.selects RX4 yX4_runTop yX4_runTop, Cond.code yX4_runTop cX4_runTop 3 none, Cond.methodLink RX4 66 yX1_leaveAll, Cond.instanceMethod yX1_leaveAll, Cond.selects RX1 yX1_leaveAll yX1_leaveAll, Cond.code yX1_leaveAll cX1_leaveAll 1 none, Cond.methodLink RX4 139 yX4_arrangeStack, Cond.instanceMethod yX4_arrangeStack, Cond.selects RX4 yX4_arrangeStack yX4_arrangeStack, Cond.code yX4_arrangeStack cX4_arrangeStack 2 none, Cond.fieldLink RX4 22 "DeskStack" "printer" "LDeskStack$Shelf;", Cond.methodLink RX4 229 yX3_swapTopTwo, Cond.instanceMethod yX3_swapTopTwo, Cond.selects RX3 yX3_swapTopTwo yX3_swapTopTwo, Cond.code yX3_swapTopTwo cX3_swapTopTwo 8 none, Cond.methodLink RX4 63 yX3_clear, Cond.instanceMethod yX3_clear, Cond.selects RX3 yX3_clear yX3_clear]
def wsX4_doCommand_r12 : List Cond := [Cond.code yX3_clear cX3_clear 1 none, Cond.methodLink RX4 232 yX3_isFull]
def wsX4_doCommand : List Cond := .code yX4_doCommand cX4_doCommand 2 none :: ((wsX4_doCommand_r1 ++ (wsX4_doCommand_r2 ++ (wsX4_doCommand_r3 ++ (wsX4_doCommand_r4 ++ (wsX4_doCommand_r5 ++ (wsX4_doCommand_r6 ++ (wsX4_doCommand_r7 ++ (wsX4_doCommand_r8 ++ (wsX4_doCommand_r9 ++ (wsX4_doCommand_r10 ++ (wsX4_doCommand_r11 ++ wsX4_doCommand_r12))))))))))) ++ wsX40 ++ wsX10 ++ wsX20 ++ wsX30 ++ (vx_atS RX4 60 "java/lang/IllegalArgumentException" ["java/lang/RuntimeException", "java/lang/Exception"]).filter goodWord ++ (vx_atS RX3 66 "java/lang/UnsupportedOperationException" ["java/lang/RuntimeException", "java/lang/Exception"]).filter goodWord ++ (vx_atS RX4 181 "java/lang/IndexOutOfBoundsException" ["java/lang/RuntimeException", "java/lang/Exception"]).filter goodWord ++ (vx_atS RX4 169 "java/lang/IllegalStateException" ["java/lang/RuntimeException", "java/lang/Exception"]).filter goodWord ++ (vx_atS RX0 40 "java/lang/UnsupportedOperationException" ["java/lang/RuntimeException", "java/lang/Exception"]).filter goodWord ++ (vx_atS RX0 47 "java/lang/ArithmeticException" ["java/lang/RuntimeException", "java/lang/Exception"]).filter goodWord ++ (vx_atS RX1 32 "java/lang/UnsupportedOperationException" ["java/lang/RuntimeException", "java/lang/Exception"]).filter goodWord)
def wsX4_run_r1 : List Cond := [Cond.classLink RX4 56 "java/lang/IllegalArgumentException", Cond.initialized "java/lang/IllegalArgumentException", Cond.classLink RX4 87 "java/lang/UnsupportedOperationException", Cond.initialized "java/lang/UnsupportedOperationException", Cond.fieldLink RX4 22 "DeskStack" "printer" "LDeskStack$Shelf;", Cond.fieldLink RX4 43 "DeskStack" "commandsDone" "I", Cond.fieldLink RX4 28 "DeskStack" "texts" "LDeskStack$Nest;", Cond.fieldLink RX4 35 "DeskStack" "program" "LDeskStack$Row;", Cond.fieldLink RX4 50 "DeskStack$Row" "size" "I", Cond.constant RX4 73 (1000000), Cond.fieldLink RX4 74 "DeskStack$Nest" "count" "I", Cond.methodLink RX4 63 yX3_clear, Cond.instanceMethod yX3_clear, Cond.selects RX3 yX3_clear yX3_clear, Cond.initialized RX3, Cond.code yX3_clear cX3_clear 1 none, Cond.fieldLink RX3 28 "DeskStack$Shelf" "count" "I", Cond.methodLink RX4 66 yX1_leaveAll, Cond.instanceMethod yX1_leaveAll, Cond.selects RX1 yX1_leaveAll yX1_leaveAll, Cond.initialized RX1, Cond.code yX1_leaveAll cX1_leaveAll 1 none, Cond.fieldLink RX1 24 "DeskStack$Nest" "count" "I", Cond.methodLink RX4 69 yX1_enter]
def wsX4_run_r2 : List Cond := [Cond.instanceMethod yX1_enter, Cond.selects RX1 yX1_enter yX1_enter, Cond.code yX1_enter cX1_enter 4 none, Cond.classLink RX1 28 "java/lang/UnsupportedOperationException", Cond.fieldLink RX1 11 "DeskStack$Nest" "rows" "[LDeskStack$Row;", Cond.fieldLink RX1 17 "DeskStack$Nest" "positions" "[I", Cond.fieldLink RX1 21 "DeskStack$Nest" "ends" "[I", Cond.methodLink RX4 77 yX1_skipBlanks, Cond.instanceMethod yX1_skipBlanks, Cond.selects RX1 yX1_skipBlanks yX1_skipBlanks, Cond.code yX1_skipBlanks cX1_skipBlanks 2 none, Cond.methodLink RX1 38 yX1_look, Cond.instanceMethod yX1_look, Cond.selects RX1 yX1_look yX1_look, Cond.code yX1_look cX1_look 2 (some .int), Cond.methodLink RX1 55 yX1_isUnderWay, Cond.instanceMethod yX1_isUnderWay, Cond.selects RX1 yX1_isUnderWay yX1_isUnderWay, Cond.code yX1_isUnderWay cX1_isUnderWay 1 (some .boolean), Cond.methodLink RX1 59 yX2_charAt, Cond.instanceMethod yX2_charAt, Cond.selects RX2 yX2_charAt yX2_charAt, Cond.initialized RX2, Cond.code yX2_charAt cX2_charAt 2 (some .int)]
def wsX4_run_r3 : List Cond := [Cond.fieldLink RX2 15 "DeskStack$Row" "size" "I", Cond.fieldLink RX2 9 "DeskStack$Row" "chars" "[B", Cond.methodLink RX1 63 yX1_pass, Cond.instanceMethod yX1_pass, Cond.selects RX1 yX1_pass yX1_pass, Cond.code yX1_pass cX1_pass 1 none, Cond.methodLink RX4 80 yX1_look, Cond.methodLink RX4 84 yX1_leave, Cond.instanceMethod yX1_leave, Cond.selects RX1 yX1_leave yX1_leave, Cond.code yX1_leave cX1_leave 1 none, Cond.methodLink RX1 49 Lib.Math.max.name, Cond.static Lib.Math.max.name, Cond.initialized "java/lang/Math", Cond.code Lib.Math.max.name Lib.Math.max.code 2 (some .int), Cond.methodLink RX4 92 yX4_doCommand, Cond.instanceMethod yX4_doCommand, Cond.selects RX4 yX4_doCommand yX4_doCommand, Cond.initialized RX4, Cond.code yX4_doCommand cX4_doCommand 2 none, Cond.methodLink RX4 111 yX4_beginsNumber, Cond.static yX4_beginsNumber, Cond.code yX4_beginsNumber cX4_beginsNumber 1 (some .boolean), Cond.methodLink RX4 142 yX4_isDigit]
def wsX4_run_r4 : List Cond := [Cond.static yX4_isDigit, Cond.code yX4_isDigit cX4_isDigit 1 (some .boolean), Cond.methodLink RX4 115 yX4_putWrittenNumber, Cond.instanceMethod yX4_putWrittenNumber, Cond.selects RX4 yX4_putWrittenNumber yX4_putWrittenNumber, Cond.code yX4_putWrittenNumber cX4_putWrittenNumber 9 none, Cond.constantLong RX4 145 (10), Cond.fieldLink RX4 14 "DeskStack" "stack" "LDeskStack$Shelf;", Cond.methodLink RX4 118 yX1_pass, Cond.methodLink RX4 149 yX3_putNumber, Cond.instanceMethod yX3_putNumber, Cond.selects RX3 yX3_putNumber yX3_putNumber, Cond.code yX3_putNumber cX3_putNumber 4 none, Cond.methodLink RX3 36 yX3_put, Cond.instanceMethod yX3_put, Cond.selects RX3 yX3_put yX3_put, Cond.code yX3_put cX3_put 6 none, Cond.classLink RX3 62 "java/lang/UnsupportedOperationException", Cond.methodLink RX3 58 yX3_isFull, Cond.instanceMethod yX3_isFull, Cond.selects RX3 yX3_isFull yX3_isFull, Cond.code yX3_isFull cX3_isFull 1 (some .boolean), Cond.fieldLink RX3 9 "DeskStack$Shelf" "values" "[J", Cond.methodLink RX3 69 yX3_set]
def wsX4_run_r5 : List Cond := [Cond.instanceMethod yX3_set, Cond.selects RX3 yX3_set yX3_set, Cond.code yX3_set cX3_set 7 none, Cond.fieldLink RX3 15 "DeskStack$Shelf" "places" "[I", Cond.fieldLink RX3 21 "DeskStack$Shelf" "rows" "[LDeskStack$Row;", Cond.fieldLink RX3 25 "DeskStack$Shelf" "starts" "[I", Cond.methodLink RX3 32 yX3_has, Cond.instanceMethod yX3_has, Cond.selects RX3 yX3_has yX3_has, Cond.code yX3_has cX3_has 2 (some .boolean), Cond.methodLink RX4 121 yX4_putWrittenText, Cond.instanceMethod yX4_putWrittenText, Cond.selects RX4 yX4_putWrittenText yX4_putWrittenText, Cond.code yX4_putWrittenText cX4_putWrittenText 6 none, Cond.methodLink RX4 153 yX1_innermostRow, Cond.instanceMethod yX1_innermostRow, Cond.selects RX1 yX1_innermostRow yX1_innermostRow, Cond.code yX1_innermostRow cX1_innermostRow 1 (some (.object "DeskStack$Row")), Cond.methodLink RX4 157 yX1_position, Cond.instanceMethod yX1_position, Cond.selects RX1 yX1_position yX1_position, Cond.code yX1_position cX1_position 1 (some .int), Cond.methodLink RX4 162 yX3_putText, Cond.instanceMethod yX3_putText]
def wsX4_run_r6 : List Cond := [Cond.selects RX3 yX3_putText yX3_putText, Cond.code yX3_putText cX3_putText 4 none, Cond.methodLink RX4 124 yX4_calculate, Cond.instanceMethod yX4_calculate, Cond.selects RX4 yX4_calculate yX4_calculate, Cond.code yX4_calculate cX4_calculate 12 none, Cond.methodLink RX4 185 Lib.Math.max.name, Cond.fieldLink RX4 39 "DeskStack" "keptPlaces" "I", Cond.methodLink RX4 197 Lib.Math.min.name, Cond.static Lib.Math.min.name, Cond.code Lib.Math.min.name Lib.Math.min.code 2 (some .int), Cond.methodLink RX4 182 yX4_needNumbers, Cond.instanceMethod yX4_needNumbers, Cond.selects RX4 yX4_needNumbers yX4_needNumbers, Cond.code yX4_needNumbers cX4_needNumbers 3 none, Cond.classLink RX4 177 "java/lang/IndexOutOfBoundsException", Cond.initialized "java/lang/IndexOutOfBoundsException", Cond.methodLink RX4 170 yX4_needItems, Cond.instanceMethod yX4_needItems, Cond.selects RX4 yX4_needItems yX4_needItems, Cond.code yX4_needItems cX4_needItems 2 none, Cond.classLink RX4 165 "java/lang/IllegalStateException", Cond.initialized "java/lang/IllegalStateException", Cond.fieldLink RX4 95 "DeskStack$Shelf" "count" "I"]
def wsX4_run_r7 : List Cond := [Cond.methodLink RX4 104 yX3_slotBelowTop, Cond.instanceMethod yX3_slotBelowTop, Cond.selects RX3 yX3_slotBelowTop yX3_slotBelowTop, Cond.code yX3_slotBelowTop cX3_slotBelowTop 2 (some .int), Cond.methodLink RX4 173 yX3_rowAt, Cond.instanceMethod yX3_rowAt, Cond.selects RX3 yX3_rowAt yX3_rowAt, Cond.code yX3_rowAt cX3_rowAt 2 (some (.object "DeskStack$Row")), Cond.methodLink RX4 96 yX3_valueAt, Cond.instanceMethod yX3_valueAt, Cond.selects RX3 yX3_valueAt yX3_valueAt, Cond.code yX3_valueAt cX3_valueAt 2 (some .long), Cond.methodLink RX4 100 yX3_placesAt, Cond.instanceMethod yX3_placesAt, Cond.selects RX3 yX3_placesAt yX3_placesAt, Cond.code yX3_placesAt cX3_placesAt 2 (some .int), Cond.methodLink RX4 191 yX0_sum, Cond.static yX0_sum, Cond.initialized RX0, Cond.code yX0_sum cX0_sum 7 (some .long), Cond.methodLink RX0 9 Lib.Math.max.name, Cond.methodLink RX0 15 yX0_raise, Cond.static yX0_raise, Cond.code yX0_raise cX0_raise 3 (some .long)]
def wsX4_run_r8 : List Cond := [Cond.methodLink RX0 74 yX0_powerOfTen, Cond.static yX0_powerOfTen, Cond.code yX0_powerOfTen cX0_powerOfTen 1 (some .long), Cond.fieldLink RX0 78 "DeskStack$Decimal" "POWERS" "[J", Cond.methodLink RX0 82 Lib.Math.min.name, Cond.methodLink RX0 58 yX0_times, Cond.static yX0_times, Cond.code yX0_times cX0_times 4 (some .long), Cond.classLink RX0 36 "java/lang/UnsupportedOperationException", Cond.methodLink RX0 31 Lib.MathLoose.abs_long.x, Cond.static Lib.MathLoose.abs_long.x, Cond.code Lib.MathLoose.abs_long.x Lib.MathLoose.abs_long.code 2 (some .long), Cond.constantLong RX0 34 (999999999999999999), Cond.methodLink RX0 21 yX0_fitting, Cond.static yX0_fitting, Cond.code yX0_fitting cX0_fitting 2 (some .long), Cond.methodLink RX4 200 yX0_times, Cond.methodLink RX4 204 yX0_cutOff, Cond.static yX0_cutOff, Cond.code yX0_cutOff cX0_cutOff 3 (some .long), Cond.methodLink RX0 48 yX0_divide, Cond.static yX0_divide, Cond.code yX0_divide cX0_divide 4 (some .long), Cond.methodLink RX4 208 yX0_quotient]
def wsX4_run_r9 : List Cond := [Cond.static yX0_quotient, Cond.code yX0_quotient cX0_quotient 8 (some .long), Cond.classLink RX0 43 "java/lang/ArithmeticException", Cond.initialized "java/lang/ArithmeticException", Cond.methodLink RX4 212 yX0_remainder, Cond.static yX0_remainder, Cond.code yX0_remainder cX0_remainder 13 (some .long), Cond.methodLink RX0 52 yX0_quotient, Cond.methodLink RX4 215 yX3_drop, Cond.instanceMethod yX3_drop, Cond.selects RX3 yX3_drop yX3_drop, Cond.code yX3_drop cX3_drop 2 none, Cond.methodLink RX3 73 Lib.Math.max.name, Cond.methodLink RX4 127 yX4_changeNumber, Cond.instanceMethod yX4_changeNumber, Cond.selects RX4 yX4_changeNumber yX4_changeNumber, Cond.code yX4_changeNumber cX4_changeNumber 8 none, Cond.methodLink RX4 218 yX0_asPlaces, Cond.static yX0_asPlaces, Cond.code yX0_asPlaces cX0_asPlaces 5 (some .int), Cond.constantLong RX0 70 (9), Cond.methodLink RX0 67 yX0_cutOff, Cond.methodLink RX4 221 yX0_root, Cond.static yX0_root]
def wsX4_run_r10 : List Cond := [Cond.code yX0_root cX0_root 13 (some .long), Cond.constantLong RX0 63 (999999999), Cond.constantLong RX0 65 (2), Cond.methodLink RX4 130 yX4_moveToOrFromRegister, Cond.instanceMethod yX4_moveToOrFromRegister, Cond.selects RX4 yX4_moveToOrFromRegister yX4_moveToOrFromRegister, Cond.code yX4_moveToOrFromRegister cX4_moveToOrFromRegister 3 none, Cond.methodLink RX4 242 yX4_registerOfLetter, Cond.instanceMethod yX4_registerOfLetter, Cond.selects RX4 yX4_registerOfLetter yX4_registerOfLetter, Cond.code yX4_registerOfLetter cX4_registerOfLetter 2 (some (.object "DeskStack$Shelf")), Cond.methodLink RX4 107 yX4_registerNumbered, Cond.instanceMethod yX4_registerNumbered, Cond.selects RX4 yX4_registerNumbered yX4_registerNumbered, Cond.code yX4_registerNumbered cX4_registerNumbered 2 (some (.object "DeskStack$Shelf")), Cond.fieldLink RX4 18 "DeskStack" "registers" "[LDeskStack$Shelf;", Cond.methodLink RX4 225 yX3_putTopOf, Cond.instanceMethod yX3_putTopOf, Cond.selects RX3 yX3_putTopOf yX3_putTopOf, Cond.code yX3_putTopOf cX3_putTopOf 3 none, Cond.methodLink RX3 40 yX3_slotBelowTop, Cond.methodLink RX3 44 yX3_valueAt, Cond.methodLink RX3 48 yX3_placesAt, Cond.methodLink RX3 51 yX3_rowAt]
def wsX4_run_r11 : List Cond := [Cond.methodLink RX3 55 yX3_startAt, Cond.instanceMethod yX3_startAt, Cond.selects RX3 yX3_startAt yX3_startAt, Cond.code yX3_startAt cX3_startAt 2 (some .int), Cond.methodLink RX4 246 yX4_needHeld, Cond.static yX4_needHeld, Cond.code yX4_needHeld cX4_needHeld 1 none, Cond.methodLink RX4 133 yX4_runIfOrdered, Cond.instanceMethod yX4_runIfOrdered, Cond.selects RX4 yX4_runIfOrdered yX4_runIfOrdered, Cond.code yX4_runIfOrdered cX4_runIfOrdered 9 none, Cond.methodLink RX4 255 yX0_order, Cond.static yX0_order, Cond.code yX0_order cX0_order 7 (some .int), Cond.methodLink RX0 25 yJ13_compare_74951, Cond.static yJ13_compare_74951, Cond.initialized RJ13, Cond.code yJ13_compare_74951 cJ13_compare_74951 4 (some .int), Cond.methodLink RX4 249 yX3_startAt, Cond.methodLink RX4 252 yX1_enterMacro, Cond.instanceMethod yX1_enterMacro, Cond.selects RX1 yX1_enterMacro yX1_enterMacro, Cond.code yX1_enterMacro cX1_enterMacro 4 none, Cond.methodLink RX1 35 yX1_skipBlanks]
def wsX4_run_r12 : List Cond := [Cond.methodLink RX1 42 yX1_leave, Cond.methodLink RX1 45 yX1_enter, Cond.methodLink RX4 136 yX4_runTop, Cond.instanceMethod yX4_runTop, Cond.selects RX4 yX4_runTop yX4_runTop, Cond.code yX4_runTop cX4_runTop 3 none, Cond.methodLink RX4 139 yX4_arrangeStack, Cond.instanceMethod yX4_arrangeStack, Cond.selects RX4 yX4_arrangeStack yX4_arrangeStack, Cond.code yX4_arrangeStack cX4_arrangeStack 2 none, Cond.methodLink RX4 229 yX3_swapTopTwo, Cond.instanceMethod yX3_swapTopTwo, Cond.selects RX3 yX3_swapTopTwo yX3_swapTopTwo, Cond.code yX3_swapTopTwo cX3_swapTopTwo 8 none, Cond.methodLink RX4 232 yX3_isFull]
def wsX4_run : List Cond := .code yX4_run cX4_run 3 (some .int) :: ((wsX4_run_r1 ++ (wsX4_run_r2 ++ (wsX4_run_r3 ++ (wsX4_run_r4 ++ (wsX4_run_r5 ++ (wsX4_run_r6 ++ (wsX4_run_r7 ++ (wsX4_run_r8 ++ (wsX4_run_r9 ++ (wsX4_run_r10 ++ (wsX4_run_r11 ++ wsX4_run_r12))))))))))) ++ wsX40 ++ wsX20 ++ wsX10 ++ wsX30 ++ (vx_atS RX4 60 "java/lang/IllegalArgumentException" ["java/lang/RuntimeException", "java/lang/Exception"]).filter goodWord ++ (vx_atS RX4 91 "java/lang/UnsupportedOperationException" ["java/lang/RuntimeException", "java/lang/Exception"]).filter goodWord ++ (vx_atS RX1 32 "java/lang/UnsupportedOperationException" ["java/lang/RuntimeException", "java/lang/Exception"]).filter goodWord ++ (vx_atS RX3 66 "java/lang/UnsupportedOperationException" ["java/lang/RuntimeException", "java/lang/Exception"]).filter goodWord ++ (vx_atS RX4 181 "java/lang/IndexOutOfBoundsException" ["java/lang/RuntimeException", "java/lang/Exception"]).filter goodWord ++ (vx_atS RX4 169 "java/lang/IllegalStateException" ["java/lang/RuntimeException", "java/lang/Exception"]).filter goodWord ++ (vx_atS RX0 40 "java/lang/UnsupportedOperationException" ["java/lang/RuntimeException", "java/lang/Exception"]).filter goodWord ++ (vx_atS RX0 47 "java/lang/ArithmeticException" ["java/lang/RuntimeException", "java/lang/Exception"]).filter goodWord)
def wsX4_cost : List Cond := .code yX4_cost cX4_cost 1 (some .int) :: ([.fieldLink RX4 43 "DeskStack" "commandsDone" "I"] ++ wsX40)
def wsX4_prints : List Cond := .code yX4_prints cX4_prints 1 (some .int) :: ([.fieldLink RX4 22 "DeskStack" "printer" "LDeskStack$Shelf;", .fieldLink RX4 95 "DeskStack$Shelf" "count" "I"] ++ wsX40 ++ wsX30)
def wsX4_printed : List Cond := .code yX4_printed cX4_printed 2 (some .long) :: ([.fieldLink RX4 22 "DeskStack" "printer" "LDeskStack$Shelf;", .methodLink RX4 96 yX3_valueAt, .instanceMethod yX3_valueAt, .selects RX3 yX3_valueAt yX3_valueAt, .initialized RX3, .code yX3_valueAt cX3_valueAt 2 (some .long), .fieldLink RX3 9 "DeskStack$Shelf" "values" "[J", .methodLink RX3 32 yX3_has, .instanceMethod yX3_has, .selects RX3 yX3_has yX3_has, .code yX3_has cX3_has 2 (some .boolean), .fieldLink RX3 28 "DeskStack$Shelf" "count" "I"] ++ wsX40 ++ wsX30)
def wsX4_places : List Cond := .code yX4_places cX4_places 2 (some .int) :: ([.fieldLink RX4 22 "DeskStack" "printer" "LDeskStack$Shelf;", .methodLink RX4 100 yX3_placesAt, .instanceMethod yX3_placesAt, .selects RX3 yX3_placesAt yX3_placesAt, .initialized RX3, .code yX3_placesAt cX3_placesAt 2 (some .int), .fieldLink RX3 15 "DeskStack$Shelf" "places" "[I", .methodLink RX3 32 yX3_has, .instanceMethod yX3_has, .selects RX3 yX3_has yX3_has, .code yX3_has cX3_has 2 (some .boolean), .fieldLink RX3 28 "DeskStack$Shelf" "count" "I", .fieldLink RX3 9 "DeskStack$Shelf" "values" "[J"] ++ wsX40 ++ wsX30)
def wsX4_depth : List Cond := .code yX4_depth cX4_depth 1 (some .int) :: ([.fieldLink RX4 14 "DeskStack" "stack" "LDeskStack$Shelf;", .fieldLink RX4 95 "DeskStack$Shelf" "count" "I"] ++ wsX40 ++ wsX30)
def wsX4_item : List Cond := .code yX4_item cX4_item 2 (some .long) :: ([.fieldLink RX4 14 "DeskStack" "stack" "LDeskStack$Shelf;", .methodLink RX4 104 yX3_slotBelowTop, .instanceMethod yX3_slotBelowTop, .selects RX3 yX3_slotBelowTop yX3_slotBelowTop, .initialized RX3, .code yX3_slotBelowTop cX3_slotBelowTop 2 (some .int), .fieldLink RX3 28 "DeskStack$Shelf" "count" "I", .methodLink RX4 96 yX3_valueAt, .instanceMethod yX3_valueAt, .selects RX3 yX3_valueAt yX3_valueAt, .code yX3_valueAt cX3_valueAt 2 (some .long), .fieldLink RX3 9 "DeskStack$Shelf" "values" "[J", .methodLink RX3 32 yX3_has, .instanceMethod yX3_has, .selects RX3 yX3_has yX3_has, .code yX3_has cX3_has 2 (some .boolean)] ++ wsX40 ++ wsX30)
def wsX4_scale : List Cond := .code yX4_scale cX4_scale 2 (some .int) :: ([.fieldLink RX4 14 "DeskStack" "stack" "LDeskStack$Shelf;", .methodLink RX4 104 yX3_slotBelowTop, .instanceMethod yX3_slotBelowTop, .selects RX3 yX3_slotBelowTop yX3_slotBelowTop, .initialized RX3, .code yX3_slotBelowTop cX3_slotBelowTop 2 (some .int), .fieldLink RX3 28 "DeskStack$Shelf" "count" "I", .methodLink RX4 100 yX3_placesAt, .instanceMethod yX3_placesAt, .selects RX3 yX3_placesAt yX3_placesAt, .code yX3_placesAt cX3_placesAt 2 (some .int), .fieldLink RX3 15 "DeskStack$Shelf" "places" "[I", .methodLink RX3 32 yX3_has, .instanceMethod yX3_has, .selects RX3 yX3_has yX3_has, .code yX3_has cX3_has 2 (some .boolean), .fieldLink RX3 9 "DeskStack$Shelf" "values" "[J"] ++ wsX40 ++ wsX30)
def wsX4_held : List Cond := .code yX4_held cX4_held 3 (some .int) :: ([.fieldLink RX4 95 "DeskStack$Shelf" "count" "I", .methodLink RX4 107 yX4_registerNumbered, .instanceMethod yX4_registerNumbered, .selects RX4 yX4_registerNumbered yX4_registerNumbered, .initialized RX4, .code yX4_registerNumbered cX4_registerNumbered 2 (some (.object "DeskStack$Shelf")), .fieldLink RX4 18 "DeskStack" "registers" "[LDeskStack$Shelf;"] ++ wsX30 ++ wsX40)
def wsX4_precision : List Cond := .code yX4_precision cX4_precision 1 (some .int) :: ([.fieldLink RX4 39 "DeskStack" "keptPlaces" "I"] ++ wsX40)
def wsX4_reset : List Cond := .code yX4_reset cX4_reset 3 none :: ([.fieldLink RX4 14 "DeskStack" "stack" "LDeskStack$Shelf;", .fieldLink RX4 22 "DeskStack" "printer" "LDeskStack$Shelf;", .fieldLink RX4 39 "DeskStack" "keptPlaces" "I", .methodLink RX4 63 yX3_clear, .instanceMethod yX3_clear, .selects RX3 yX3_clear yX3_clear, .initialized RX3, .code yX3_clear cX3_clear 1 none, .fieldLink RX3 28 "DeskStack$Shelf" "count" "I", .methodLink RX4 107 yX4_registerNumbered, .instanceMethod yX4_registerNumbered, .selects RX4 yX4_registerNumbered yX4_registerNumbered, .initialized RX4, .code yX4_registerNumbered cX4_registerNumbered 2 (some (.object "DeskStack$Shelf")), .fieldLink RX4 18 "DeskStack" "registers" "[LDeskStack$Shelf;"] ++ wsX40 ++ wsX30)
def wsX5_init : List Cond := .code yX5_init cX5_init 1 none :: ([.methodLink RX5 1 objectInit, .instanceMethod objectInit, .code objectInit ⟨#[0xb1]⟩ 1 none, .arrayClass .int, .fieldLink RX5 7 "DeskStackModel" "program" "[I", .arrayClass .long, .fieldLink RX5 13 "DeskStackModel" "value" "[J", .fieldLink RX5 17 "DeskStackModel" "places" "[I", .fieldLink RX5 20 "DeskStackModel" "letters" "[I", .fieldLink RX5 23 "DeskStackModel" "held" "[I", .fieldLink RX5 26 "DeskStackModel" "text" "[I", .fieldLink RX5 29 "DeskStackModel" "size" "[I", .fieldLink RX5 32 "DeskStackModel" "at" "[I", .fieldLink RX5 35 "DeskStackModel" "shown" "[J", .fieldLink RX5 38 "DeskStackModel" "shownPlaces" "[I"] ++ wsX50)
def wsX5_thrown : List Cond := .code yX5_thrown cX5_thrown 1 (some .int) :: ([.fieldLink RX5 41 "DeskStackModel" "thrown" "I"] ++ wsX50)
def wsX5_within : List Cond := .code yX5_within cX5_within 6 (some .boolean) :: ([])
def wsX5_write : List Cond := .code yX5_write cX5_write 6 (some .int) :: ([.fieldLink RX5 41 "DeskStackModel" "thrown" "I", .fieldLink RX5 45 "DeskStackModel" "length" "I", .fieldLink RX5 7 "DeskStackModel" "program" "[I"] ++ wsX50)
def wsX5_erase : List Cond := .code yX5_erase cX5_erase 2 (some .int) :: ([.fieldLink RX5 41 "DeskStackModel" "thrown" "I", .fieldLink RX5 45 "DeskStackModel" "length" "I"] ++ wsX50)
def wsX5_copy : List Cond := .code yX5_copy cX5_copy 4 none :: ([.fieldLink RX5 13 "DeskStackModel" "value" "[J", .fieldLink RX5 17 "DeskStackModel" "places" "[I", .fieldLink RX5 20 "DeskStackModel" "letters" "[I"] ++ wsX50)
def wsX5_fail : List Cond := .code yX5_fail cX5_fail 2 (some .boolean) :: ([.fieldLink RX5 48 "DeskStackModel" "fault" "I"] ++ wsX50)
def wsX5_have : List Cond := .code yX5_have cX5_have 2 (some .boolean) :: ([.fieldLink RX5 51 "DeskStackModel" "depth" "I", .methodLink RX5 54 yX5_fail, .instanceMethod yX5_fail, .selects RX5 yX5_fail yX5_fail, .initialized RX5, .code yX5_fail cX5_fail 2 (some .boolean), .fieldLink RX5 48 "DeskStackModel" "fault" "I"] ++ wsX50)
def wsX5_numbers : List Cond := .code yX5_numbers cX5_numbers 3 (some .boolean) :: ([.fieldLink RX5 17 "DeskStackModel" "places" "[I", .fieldLink RX5 51 "DeskStackModel" "depth" "I", .methodLink RX5 58 yX5_have, .instanceMethod yX5_have, .selects RX5 yX5_have yX5_have, .initialized RX5, .code yX5_have cX5_have 2 (some .boolean), .methodLink RX5 54 yX5_fail, .instanceMethod yX5_fail, .selects RX5 yX5_fail yX5_fail, .code yX5_fail cX5_fail 2 (some .boolean), .fieldLink RX5 48 "DeskStackModel" "fault" "I"] ++ wsX50)
def wsX5_room : List Cond := .code yX5_room cX5_room 1 (some .boolean) :: ([.fieldLink RX5 51 "DeskStackModel" "depth" "I", .methodLink RX5 54 yX5_fail, .instanceMethod yX5_fail, .selects RX5 yX5_fail yX5_fail, .initialized RX5, .code yX5_fail cX5_fail 2 (some .boolean), .fieldLink RX5 48 "DeskStackModel" "fault" "I"] ++ wsX50)
def wsX5_put : List Cond := .code yX5_put cX5_put 5 none :: ([.fieldLink RX5 51 "DeskStackModel" "depth" "I", .fieldLink RX5 13 "DeskStackModel" "value" "[J", .fieldLink RX5 17 "DeskStackModel" "places" "[I"] ++ wsX50)
def wsX5_register : List Cond := .code yX5_register cX5_register 1 (some .int) :: ([])
def wsX5_topOf : List Cond := .code yX5_topOf cX5_topOf 2 (some .int) :: ([.fieldLink RX5 23 "DeskStackModel" "held" "[I"] ++ wsX50)
def wsX5_isBig : List Cond := .code yX5_isBig cX5_isBig 2 (some .boolean) :: ([.constantLong RX5 61 (999999999999999999), .constantLong RX5 63 (-999999999999999999)])
def wsX5_raised : List Cond := .code yX5_raised cX5_raised 7 (some .long) :: ([.fieldLink RX5 48 "DeskStackModel" "fault" "I", .constantLong RX5 65 (99999999999999999), .constantLong RX5 67 (-99999999999999999), .constantLong RX5 69 (10)] ++ wsX50)
def wsX5_cut : List Cond := .code yX5_cut cX5_cut 6 (some .long) :: ([.constantLong RX5 69 (10)])
def wsX5_product : List Cond := .code yX5_product cX5_product 9 (some .long) :: ([.constantLong RX5 61 (999999999999999999), .fieldLink RX5 48 "DeskStackModel" "fault" "I"] ++ wsX50)
def wsX5_greater : List Cond := .code yX5_greater cX5_greater 2 (some .int) :: ([])
def wsX5_sum_r1 : List Cond := [Cond.fieldLink RX5 17 "DeskStackModel" "places" "[I", Cond.fieldLink RX5 51 "DeskStackModel" "depth" "I", Cond.fieldLink RX5 78 "DeskStackModel" "s" "I", Cond.fieldLink RX5 13 "DeskStackModel" "value" "[J", Cond.fieldLink RX5 48 "DeskStackModel" "fault" "I", Cond.fieldLink RX5 85 "DeskStackModel" "m" "J", Cond.methodLink RX5 71 yX5_numbers, Cond.instanceMethod yX5_numbers, Cond.selects RX5 yX5_numbers yX5_numbers, Cond.initialized RX5, Cond.code yX5_numbers cX5_numbers 3 (some .boolean), Cond.methodLink RX5 58 yX5_have, Cond.instanceMethod yX5_have, Cond.selects RX5 yX5_have yX5_have, Cond.code yX5_have cX5_have 2 (some .boolean), Cond.methodLink RX5 54 yX5_fail, Cond.instanceMethod yX5_fail, Cond.selects RX5 yX5_fail yX5_fail, Cond.code yX5_fail cX5_fail 2 (some .boolean), Cond.methodLink RX5 74 yX5_greater, Cond.static yX5_greater, Cond.code yX5_greater cX5_greater 2 (some .int), Cond.methodLink RX5 81 yX5_raised, Cond.instanceMethod yX5_raised]
def wsX5_sum_r2 : List Cond := [Cond.selects RX5 yX5_raised yX5_raised, Cond.code yX5_raised cX5_raised 7 (some .long), Cond.constantLong RX5 65 (99999999999999999), Cond.constantLong RX5 67 (-99999999999999999), Cond.constantLong RX5 69 (10), Cond.methodLink RX5 89 yX5_isBig, Cond.static yX5_isBig, Cond.code yX5_isBig cX5_isBig 2 (some .boolean), Cond.constantLong RX5 61 (999999999999999999), Cond.constantLong RX5 63 (-999999999999999999)]
def wsX5_sum : List Cond := .code yX5_sum cX5_sum 6 (some .boolean) :: ((wsX5_sum_r1 ++ wsX5_sum_r2) ++ wsX50)
def wsX5_times_r1 : List Cond := [Cond.fieldLink RX5 17 "DeskStackModel" "places" "[I", Cond.fieldLink RX5 51 "DeskStackModel" "depth" "I", Cond.fieldLink RX5 93 "DeskStackModel" "precision" "I", Cond.fieldLink RX5 78 "DeskStackModel" "s" "I", Cond.fieldLink RX5 13 "DeskStackModel" "value" "[J", Cond.fieldLink RX5 85 "DeskStackModel" "m" "J", Cond.fieldLink RX5 48 "DeskStackModel" "fault" "I", Cond.methodLink RX5 71 yX5_numbers, Cond.instanceMethod yX5_numbers, Cond.selects RX5 yX5_numbers yX5_numbers, Cond.initialized RX5, Cond.code yX5_numbers cX5_numbers 3 (some .boolean), Cond.methodLink RX5 58 yX5_have, Cond.instanceMethod yX5_have, Cond.selects RX5 yX5_have yX5_have, Cond.code yX5_have cX5_have 2 (some .boolean), Cond.methodLink RX5 54 yX5_fail, Cond.instanceMethod yX5_fail, Cond.selects RX5 yX5_fail yX5_fail, Cond.code yX5_fail cX5_fail 2 (some .boolean), Cond.methodLink RX5 74 yX5_greater, Cond.static yX5_greater, Cond.code yX5_greater cX5_greater 2 (some .int), Cond.methodLink RX5 96 yX5_product]
def wsX5_times_r2 : List Cond := [Cond.instanceMethod yX5_product, Cond.selects RX5 yX5_product yX5_product, Cond.code yX5_product cX5_product 9 (some .long), Cond.constantLong RX5 61 (999999999999999999), Cond.methodLink RX5 100 yX5_cut, Cond.static yX5_cut, Cond.code yX5_cut cX5_cut 6 (some .long), Cond.constantLong RX5 69 (10)]
def wsX5_times : List Cond := .code yX5_times cX5_times 3 (some .boolean) :: ((wsX5_times_r1 ++ wsX5_times_r2) ++ wsX50)
def wsX5_quotient_r1 : List Cond := [Cond.fieldLink RX5 13 "DeskStackModel" "value" "[J", Cond.fieldLink RX5 51 "DeskStackModel" "depth" "I", Cond.fieldLink RX5 93 "DeskStackModel" "precision" "I", Cond.fieldLink RX5 17 "DeskStackModel" "places" "[I", Cond.fieldLink RX5 48 "DeskStackModel" "fault" "I", Cond.fieldLink RX5 85 "DeskStackModel" "m" "J", Cond.fieldLink RX5 78 "DeskStackModel" "s" "I", Cond.methodLink RX5 71 yX5_numbers, Cond.instanceMethod yX5_numbers, Cond.selects RX5 yX5_numbers yX5_numbers, Cond.initialized RX5, Cond.code yX5_numbers cX5_numbers 3 (some .boolean), Cond.methodLink RX5 58 yX5_have, Cond.instanceMethod yX5_have, Cond.selects RX5 yX5_have yX5_have, Cond.code yX5_have cX5_have 2 (some .boolean), Cond.methodLink RX5 54 yX5_fail, Cond.instanceMethod yX5_fail, Cond.selects RX5 yX5_fail yX5_fail, Cond.code yX5_fail cX5_fail 2 (some .boolean), Cond.methodLink RX5 81 yX5_raised, Cond.instanceMethod yX5_raised, Cond.selects RX5 yX5_raised yX5_raised, Cond.code yX5_raised cX5_raised 7 (some .long)]
def wsX5_quotient_r2 : List Cond := [Cond.constantLong RX5 65 (99999999999999999), Cond.constantLong RX5 67 (-99999999999999999), Cond.constantLong RX5 69 (10)]
def wsX5_quotient : List Cond := .code yX5_quotient cX5_quotient 6 (some .boolean) :: ((wsX5_quotient_r1 ++ wsX5_quotient_r2) ++ wsX50)
def wsX5_rest_r1 : List Cond := [Cond.fieldLink RX5 93 "DeskStackModel" "precision" "I", Cond.fieldLink RX5 17 "DeskStackModel" "places" "[I", Cond.fieldLink RX5 51 "DeskStackModel" "depth" "I", Cond.fieldLink RX5 78 "DeskStackModel" "s" "I", Cond.fieldLink RX5 85 "DeskStackModel" "m" "J", Cond.fieldLink RX5 13 "DeskStackModel" "value" "[J", Cond.fieldLink RX5 48 "DeskStackModel" "fault" "I", Cond.methodLink RX5 103 yX5_quotient, Cond.instanceMethod yX5_quotient, Cond.selects RX5 yX5_quotient yX5_quotient, Cond.initialized RX5, Cond.code yX5_quotient cX5_quotient 6 (some .boolean), Cond.methodLink RX5 71 yX5_numbers, Cond.instanceMethod yX5_numbers, Cond.selects RX5 yX5_numbers yX5_numbers, Cond.code yX5_numbers cX5_numbers 3 (some .boolean), Cond.methodLink RX5 58 yX5_have, Cond.instanceMethod yX5_have, Cond.selects RX5 yX5_have yX5_have, Cond.code yX5_have cX5_have 2 (some .boolean), Cond.methodLink RX5 54 yX5_fail, Cond.instanceMethod yX5_fail, Cond.selects RX5 yX5_fail yX5_fail, Cond.code yX5_fail cX5_fail 2 (some .boolean)]
def wsX5_rest_r2 : List Cond := [Cond.methodLink RX5 81 yX5_raised, Cond.instanceMethod yX5_raised, Cond.selects RX5 yX5_raised yX5_raised, Cond.code yX5_raised cX5_raised 7 (some .long), Cond.constantLong RX5 65 (99999999999999999), Cond.constantLong RX5 67 (-99999999999999999), Cond.constantLong RX5 69 (10), Cond.methodLink RX5 74 yX5_greater, Cond.static yX5_greater, Cond.code yX5_greater cX5_greater 2 (some .int), Cond.methodLink RX5 96 yX5_product, Cond.instanceMethod yX5_product, Cond.selects RX5 yX5_product yX5_product, Cond.code yX5_product cX5_product 9 (some .long), Cond.constantLong RX5 61 (999999999999999999), Cond.methodLink RX5 89 yX5_isBig, Cond.static yX5_isBig, Cond.code yX5_isBig cX5_isBig 2 (some .boolean), Cond.constantLong RX5 63 (-999999999999999999)]
def wsX5_rest : List Cond := .code yX5_rest cX5_rest 7 (some .boolean) :: ((wsX5_rest_r1 ++ wsX5_rest_r2) ++ wsX50)
def wsX5_root_r1 : List Cond := [Cond.fieldLink RX5 13 "DeskStackModel" "value" "[J", Cond.fieldLink RX5 51 "DeskStackModel" "depth" "I", Cond.fieldLink RX5 93 "DeskStackModel" "precision" "I", Cond.fieldLink RX5 17 "DeskStackModel" "places" "[I", Cond.fieldLink RX5 78 "DeskStackModel" "s" "I", Cond.fieldLink RX5 48 "DeskStackModel" "fault" "I", Cond.constantLong RX5 107 (1000000000), Cond.constantLong RX5 109 (2), Cond.fieldLink RX5 85 "DeskStackModel" "m" "J", Cond.methodLink RX5 71 yX5_numbers, Cond.instanceMethod yX5_numbers, Cond.selects RX5 yX5_numbers yX5_numbers, Cond.initialized RX5, Cond.code yX5_numbers cX5_numbers 3 (some .boolean), Cond.methodLink RX5 58 yX5_have, Cond.instanceMethod yX5_have, Cond.selects RX5 yX5_have yX5_have, Cond.code yX5_have cX5_have 2 (some .boolean), Cond.methodLink RX5 54 yX5_fail, Cond.instanceMethod yX5_fail, Cond.selects RX5 yX5_fail yX5_fail, Cond.code yX5_fail cX5_fail 2 (some .boolean), Cond.methodLink RX5 74 yX5_greater, Cond.static yX5_greater]
def wsX5_root_r2 : List Cond := [Cond.code yX5_greater cX5_greater 2 (some .int), Cond.methodLink RX5 81 yX5_raised, Cond.instanceMethod yX5_raised, Cond.selects RX5 yX5_raised yX5_raised, Cond.code yX5_raised cX5_raised 7 (some .long), Cond.constantLong RX5 65 (99999999999999999), Cond.constantLong RX5 67 (-99999999999999999), Cond.constantLong RX5 69 (10)]
def wsX5_root : List Cond := .code yX5_root cX5_root 10 (some .boolean) :: ((wsX5_root_r1 ++ wsX5_root_r2) ++ wsX50)
def wsX5_charAt : List Cond := .code yX5_charAt cX5_charAt 3 (some .int) :: ([.fieldLink RX5 29 "DeskStackModel" "size" "[I", .fieldLink RX5 26 "DeskStackModel" "text" "[I"] ++ wsX50)
def wsX5_isNothing : List Cond := .code yX5_isNothing cX5_isNothing 2 (some .boolean) :: ([])
def wsX5_isDone : List Cond := .code yX5_isDone cX5_isDone 4 (some .boolean) :: ([.fieldLink RX5 111 "DeskStackModel" "levels" "I", .fieldLink RX5 29 "DeskStackModel" "size" "[I", .fieldLink RX5 26 "DeskStackModel" "text" "[I", .methodLink RX5 114 yX5_isNothing, .instanceMethod yX5_isNothing, .selects RX5 yX5_isNothing yX5_isNothing, .initialized RX5, .code yX5_isNothing cX5_isNothing 2 (some .boolean)] ++ wsX50)
def wsX5_mayRun : List Cond := .code yX5_mayRun cX5_mayRun 2 (some .boolean) :: ([.fieldLink RX5 111 "DeskStackModel" "levels" "I", .methodLink RX5 117 yX5_isDone, .instanceMethod yX5_isDone, .selects RX5 yX5_isDone yX5_isDone, .initialized RX5, .code yX5_isDone cX5_isDone 4 (some .boolean), .fieldLink RX5 29 "DeskStackModel" "size" "[I", .fieldLink RX5 26 "DeskStackModel" "text" "[I", .methodLink RX5 114 yX5_isNothing, .instanceMethod yX5_isNothing, .selects RX5 yX5_isNothing yX5_isNothing, .code yX5_isNothing cX5_isNothing 2 (some .boolean), .methodLink RX5 54 yX5_fail, .instanceMethod yX5_fail, .selects RX5 yX5_fail yX5_fail, .code yX5_fail cX5_fail 2 (some .boolean), .fieldLink RX5 48 "DeskStackModel" "fault" "I"] ++ wsX50)
def wsX5_begin : List Cond := .code yX5_begin cX5_begin 4 none :: ([.fieldLink RX5 32 "DeskStackModel" "at" "[I", .fieldLink RX5 111 "DeskStackModel" "levels" "I", .fieldLink RX5 29 "DeskStackModel" "size" "[I", .fieldLink RX5 13 "DeskStackModel" "value" "[J", .fieldLink RX5 26 "DeskStackModel" "text" "[I", .fieldLink RX5 20 "DeskStackModel" "letters" "[I", .methodLink RX5 117 yX5_isDone, .instanceMethod yX5_isDone, .selects RX5 yX5_isDone yX5_isDone, .initialized RX5, .code yX5_isDone cX5_isDone 4 (some .boolean), .methodLink RX5 114 yX5_isNothing, .instanceMethod yX5_isNothing, .selects RX5 yX5_isNothing yX5_isNothing, .code yX5_isNothing cX5_isNothing 2 (some .boolean)] ++ wsX50)
def wsX5_digits_r1 : List Cond := [Cond.fieldLink RX5 111 "DeskStackModel" "levels" "I", Cond.constantLong RX5 123 (48), Cond.constantLong RX5 125 (57), Cond.constantLong RX5 69 (10), Cond.fieldLink RX5 32 "DeskStackModel" "at" "[I", Cond.methodLink RX5 120 yX5_charAt, Cond.instanceMethod yX5_charAt, Cond.selects RX5 yX5_charAt yX5_charAt, Cond.initialized RX5, Cond.code yX5_charAt cX5_charAt 3 (some .int), Cond.fieldLink RX5 29 "DeskStackModel" "size" "[I", Cond.fieldLink RX5 26 "DeskStackModel" "text" "[I", Cond.methodLink RX5 127 yX5_within, Cond.static yX5_within, Cond.code yX5_within cX5_within 6 (some .boolean), Cond.methodLink RX5 54 yX5_fail, Cond.instanceMethod yX5_fail, Cond.selects RX5 yX5_fail yX5_fail, Cond.code yX5_fail cX5_fail 2 (some .boolean), Cond.fieldLink RX5 48 "DeskStackModel" "fault" "I", Cond.methodLink RX5 131 yX5_room, Cond.instanceMethod yX5_room, Cond.selects RX5 yX5_room yX5_room, Cond.code yX5_room cX5_room 1 (some .boolean)]
def wsX5_digits_r2 : List Cond := [Cond.fieldLink RX5 51 "DeskStackModel" "depth" "I", Cond.methodLink RX5 134 yX5_put, Cond.instanceMethod yX5_put, Cond.selects RX5 yX5_put yX5_put, Cond.code yX5_put cX5_put 5 none, Cond.fieldLink RX5 13 "DeskStackModel" "value" "[J", Cond.fieldLink RX5 17 "DeskStackModel" "places" "[I"]
def wsX5_digits : List Cond := .code yX5_digits cX5_digits 11 (some .boolean) :: ((wsX5_digits_r1 ++ wsX5_digits_r2) ++ wsX50)
def wsX5_brackets : List Cond := .code yX5_brackets cX5_brackets 7 (some .boolean) :: ([.fieldLink RX5 111 "DeskStackModel" "levels" "I", .fieldLink RX5 29 "DeskStackModel" "size" "[I", .fieldLink RX5 26 "DeskStackModel" "text" "[I", .fieldLink RX5 20 "DeskStackModel" "letters" "[I", .fieldLink RX5 51 "DeskStackModel" "depth" "I", .fieldLink RX5 32 "DeskStackModel" "at" "[I", .methodLink RX5 54 yX5_fail, .instanceMethod yX5_fail, .selects RX5 yX5_fail yX5_fail, .initialized RX5, .code yX5_fail cX5_fail 2 (some .boolean), .fieldLink RX5 48 "DeskStackModel" "fault" "I", .methodLink RX5 131 yX5_room, .instanceMethod yX5_room, .selects RX5 yX5_room yX5_room, .code yX5_room cX5_room 1 (some .boolean), .methodLink RX5 134 yX5_put, .instanceMethod yX5_put, .selects RX5 yX5_put yX5_put, .code yX5_put cX5_put 5 none, .fieldLink RX5 13 "DeskStackModel" "value" "[J", .fieldLink RX5 17 "DeskStackModel" "places" "[I"] ++ wsX50)
def wsX5_calculates_r1 : List Cond := [Cond.fieldLink RX5 13 "DeskStackModel" "value" "[J", Cond.fieldLink RX5 51 "DeskStackModel" "depth" "I", Cond.fieldLink RX5 17 "DeskStackModel" "places" "[I", Cond.constantLong RX5 151 (9), Cond.fieldLink RX5 93 "DeskStackModel" "precision" "I", Cond.fieldLink RX5 85 "DeskStackModel" "m" "J", Cond.fieldLink RX5 78 "DeskStackModel" "s" "I", Cond.methodLink RX5 138 yX5_sum, Cond.instanceMethod yX5_sum, Cond.selects RX5 yX5_sum yX5_sum, Cond.initialized RX5, Cond.code yX5_sum cX5_sum 6 (some .boolean), Cond.fieldLink RX5 48 "DeskStackModel" "fault" "I", Cond.methodLink RX5 71 yX5_numbers, Cond.instanceMethod yX5_numbers, Cond.selects RX5 yX5_numbers yX5_numbers, Cond.code yX5_numbers cX5_numbers 3 (some .boolean), Cond.methodLink RX5 58 yX5_have, Cond.instanceMethod yX5_have, Cond.selects RX5 yX5_have yX5_have, Cond.code yX5_have cX5_have 2 (some .boolean), Cond.methodLink RX5 54 yX5_fail, Cond.instanceMethod yX5_fail, Cond.selects RX5 yX5_fail yX5_fail]
def wsX5_calculates_r2 : List Cond := [Cond.code yX5_fail cX5_fail 2 (some .boolean), Cond.methodLink RX5 74 yX5_greater, Cond.static yX5_greater, Cond.code yX5_greater cX5_greater 2 (some .int), Cond.methodLink RX5 81 yX5_raised, Cond.instanceMethod yX5_raised, Cond.selects RX5 yX5_raised yX5_raised, Cond.code yX5_raised cX5_raised 7 (some .long), Cond.constantLong RX5 65 (99999999999999999), Cond.constantLong RX5 67 (-99999999999999999), Cond.constantLong RX5 69 (10), Cond.methodLink RX5 89 yX5_isBig, Cond.static yX5_isBig, Cond.code yX5_isBig cX5_isBig 2 (some .boolean), Cond.constantLong RX5 61 (999999999999999999), Cond.constantLong RX5 63 (-999999999999999999), Cond.methodLink RX5 142 yX5_times, Cond.instanceMethod yX5_times, Cond.selects RX5 yX5_times yX5_times, Cond.code yX5_times cX5_times 3 (some .boolean), Cond.methodLink RX5 96 yX5_product, Cond.instanceMethod yX5_product, Cond.selects RX5 yX5_product yX5_product, Cond.code yX5_product cX5_product 9 (some .long)]
def wsX5_calculates_r3 : List Cond := [Cond.methodLink RX5 100 yX5_cut, Cond.static yX5_cut, Cond.code yX5_cut cX5_cut 6 (some .long), Cond.methodLink RX5 103 yX5_quotient, Cond.instanceMethod yX5_quotient, Cond.selects RX5 yX5_quotient yX5_quotient, Cond.code yX5_quotient cX5_quotient 6 (some .boolean), Cond.methodLink RX5 145 yX5_rest, Cond.instanceMethod yX5_rest, Cond.selects RX5 yX5_rest yX5_rest, Cond.code yX5_rest cX5_rest 7 (some .boolean), Cond.methodLink RX5 148 yX5_root, Cond.instanceMethod yX5_root, Cond.selects RX5 yX5_root yX5_root, Cond.code yX5_root cX5_root 10 (some .boolean), Cond.constantLong RX5 107 (1000000000), Cond.constantLong RX5 109 (2), Cond.methodLink RX5 134 yX5_put, Cond.instanceMethod yX5_put, Cond.selects RX5 yX5_put yX5_put, Cond.code yX5_put cX5_put 5 none, Cond.methodLink RX5 127 yX5_within, Cond.static yX5_within, Cond.code yX5_within cX5_within 6 (some .boolean)]
def wsX5_calculates : List Cond := .code yX5_calculates cX5_calculates 8 (some .boolean) :: ((wsX5_calculates_r1 ++ (wsX5_calculates_r2 ++ wsX5_calculates_r3)) ++ wsX50)
def wsX5_moves_r1 : List Cond := [Cond.fieldLink RX5 51 "DeskStackModel" "depth" "I", Cond.fieldLink RX5 93 "DeskStackModel" "precision" "I", Cond.fieldLink RX5 157 "DeskStackModel" "prints" "I", Cond.fieldLink RX5 35 "DeskStackModel" "shown" "[J", Cond.fieldLink RX5 13 "DeskStackModel" "value" "[J", Cond.fieldLink RX5 38 "DeskStackModel" "shownPlaces" "[I", Cond.fieldLink RX5 17 "DeskStackModel" "places" "[I", Cond.methodLink RX5 131 yX5_room, Cond.instanceMethod yX5_room, Cond.selects RX5 yX5_room yX5_room, Cond.initialized RX5, Cond.code yX5_room cX5_room 1 (some .boolean), Cond.methodLink RX5 54 yX5_fail, Cond.instanceMethod yX5_fail, Cond.selects RX5 yX5_fail yX5_fail, Cond.code yX5_fail cX5_fail 2 (some .boolean), Cond.fieldLink RX5 48 "DeskStackModel" "fault" "I", Cond.methodLink RX5 134 yX5_put, Cond.instanceMethod yX5_put, Cond.selects RX5 yX5_put yX5_put, Cond.code yX5_put cX5_put 5 none, Cond.methodLink RX5 58 yX5_have, Cond.instanceMethod yX5_have, Cond.selects RX5 yX5_have yX5_have]
def wsX5_moves_r2 : List Cond := [Cond.code yX5_have cX5_have 2 (some .boolean), Cond.methodLink RX5 153 yX5_copy, Cond.instanceMethod yX5_copy, Cond.selects RX5 yX5_copy yX5_copy, Cond.code yX5_copy cX5_copy 4 none, Cond.fieldLink RX5 20 "DeskStackModel" "letters" "[I"]
def wsX5_moves : List Cond := .code yX5_moves cX5_moves 2 (some .boolean) :: ((wsX5_moves_r1 ++ wsX5_moves_r2) ++ wsX50)
def wsX5_stores_r1 : List Cond := [Cond.fieldLink RX5 23 "DeskStackModel" "held" "[I", Cond.fieldLink RX5 51 "DeskStackModel" "depth" "I", Cond.methodLink RX5 58 yX5_have, Cond.instanceMethod yX5_have, Cond.selects RX5 yX5_have yX5_have, Cond.initialized RX5, Cond.code yX5_have cX5_have 2 (some .boolean), Cond.methodLink RX5 54 yX5_fail, Cond.instanceMethod yX5_fail, Cond.selects RX5 yX5_fail yX5_fail, Cond.code yX5_fail cX5_fail 2 (some .boolean), Cond.fieldLink RX5 48 "DeskStackModel" "fault" "I", Cond.methodLink RX5 160 yX5_topOf, Cond.instanceMethod yX5_topOf, Cond.selects RX5 yX5_topOf yX5_topOf, Cond.code yX5_topOf cX5_topOf 2 (some .int), Cond.methodLink RX5 153 yX5_copy, Cond.instanceMethod yX5_copy, Cond.selects RX5 yX5_copy yX5_copy, Cond.code yX5_copy cX5_copy 4 none, Cond.fieldLink RX5 13 "DeskStackModel" "value" "[J", Cond.fieldLink RX5 17 "DeskStackModel" "places" "[I", Cond.fieldLink RX5 20 "DeskStackModel" "letters" "[I", Cond.methodLink RX5 131 yX5_room]
def wsX5_stores_r2 : List Cond := [Cond.instanceMethod yX5_room, Cond.selects RX5 yX5_room yX5_room, Cond.code yX5_room cX5_room 1 (some .boolean)]
def wsX5_stores : List Cond := .code yX5_stores cX5_stores 4 (some .boolean) :: ((wsX5_stores_r1 ++ wsX5_stores_r2) ++ wsX50)
def wsX5_compared : List Cond := .code yX5_compared cX5_compared 6 (some .boolean) :: ([.fieldLink RX5 17 "DeskStackModel" "places" "[I", .fieldLink RX5 51 "DeskStackModel" "depth" "I", .fieldLink RX5 13 "DeskStackModel" "value" "[J", .constantLong RX5 173 (-1), .fieldLink RX5 85 "DeskStackModel" "m" "J", .fieldLink RX5 48 "DeskStackModel" "fault" "I", .methodLink RX5 74 yX5_greater, .static yX5_greater, .initialized RX5, .code yX5_greater cX5_greater 2 (some .int), .methodLink RX5 81 yX5_raised, .instanceMethod yX5_raised, .selects RX5 yX5_raised yX5_raised, .code yX5_raised cX5_raised 7 (some .long), .constantLong RX5 65 (99999999999999999), .constantLong RX5 67 (-99999999999999999), .constantLong RX5 69 (10)] ++ wsX50)
def wsX5_tests_r1 : List Cond := [Cond.fieldLink RX5 85 "DeskStackModel" "m" "J", Cond.fieldLink RX5 51 "DeskStackModel" "depth" "I", Cond.fieldLink RX5 23 "DeskStackModel" "held" "[I", Cond.fieldLink RX5 17 "DeskStackModel" "places" "[I", Cond.methodLink RX5 71 yX5_numbers, Cond.instanceMethod yX5_numbers, Cond.selects RX5 yX5_numbers yX5_numbers, Cond.initialized RX5, Cond.code yX5_numbers cX5_numbers 3 (some .boolean), Cond.methodLink RX5 58 yX5_have, Cond.instanceMethod yX5_have, Cond.selects RX5 yX5_have yX5_have, Cond.code yX5_have cX5_have 2 (some .boolean), Cond.methodLink RX5 54 yX5_fail, Cond.instanceMethod yX5_fail, Cond.selects RX5 yX5_fail yX5_fail, Cond.code yX5_fail cX5_fail 2 (some .boolean), Cond.fieldLink RX5 48 "DeskStackModel" "fault" "I", Cond.methodLink RX5 164 yX5_compared, Cond.instanceMethod yX5_compared, Cond.selects RX5 yX5_compared yX5_compared, Cond.code yX5_compared cX5_compared 6 (some .boolean), Cond.fieldLink RX5 13 "DeskStackModel" "value" "[J", Cond.constantLong RX5 173 (-1)]
def wsX5_tests_r2 : List Cond := [Cond.methodLink RX5 74 yX5_greater, Cond.static yX5_greater, Cond.code yX5_greater cX5_greater 2 (some .int), Cond.methodLink RX5 81 yX5_raised, Cond.instanceMethod yX5_raised, Cond.selects RX5 yX5_raised yX5_raised, Cond.code yX5_raised cX5_raised 7 (some .long), Cond.constantLong RX5 65 (99999999999999999), Cond.constantLong RX5 67 (-99999999999999999), Cond.constantLong RX5 69 (10), Cond.methodLink RX5 160 yX5_topOf, Cond.instanceMethod yX5_topOf, Cond.selects RX5 yX5_topOf yX5_topOf, Cond.code yX5_topOf cX5_topOf 2 (some .int), Cond.methodLink RX5 167 yX5_mayRun, Cond.instanceMethod yX5_mayRun, Cond.selects RX5 yX5_mayRun yX5_mayRun, Cond.code yX5_mayRun cX5_mayRun 2 (some .boolean), Cond.fieldLink RX5 111 "DeskStackModel" "levels" "I", Cond.methodLink RX5 117 yX5_isDone, Cond.instanceMethod yX5_isDone, Cond.selects RX5 yX5_isDone yX5_isDone, Cond.code yX5_isDone cX5_isDone 4 (some .boolean), Cond.fieldLink RX5 29 "DeskStackModel" "size" "[I"]
def wsX5_tests_r3 : List Cond := [Cond.fieldLink RX5 26 "DeskStackModel" "text" "[I", Cond.methodLink RX5 114 yX5_isNothing, Cond.instanceMethod yX5_isNothing, Cond.selects RX5 yX5_isNothing yX5_isNothing, Cond.code yX5_isNothing cX5_isNothing 2 (some .boolean), Cond.methodLink RX5 170 yX5_begin, Cond.instanceMethod yX5_begin, Cond.selects RX5 yX5_begin yX5_begin, Cond.code yX5_begin cX5_begin 4 none, Cond.fieldLink RX5 32 "DeskStackModel" "at" "[I", Cond.fieldLink RX5 20 "DeskStackModel" "letters" "[I"]
def wsX5_tests : List Cond := .code yX5_tests cX5_tests 5 (some .boolean) :: ((wsX5_tests_r1 ++ (wsX5_tests_r2 ++ wsX5_tests_r3)) ++ wsX50)
def wsX5_runs_r1 : List Cond := [Cond.fieldLink RX5 17 "DeskStackModel" "places" "[I", Cond.fieldLink RX5 51 "DeskStackModel" "depth" "I", Cond.methodLink RX5 58 yX5_have, Cond.instanceMethod yX5_have, Cond.selects RX5 yX5_have yX5_have, Cond.initialized RX5, Cond.code yX5_have cX5_have 2 (some .boolean), Cond.methodLink RX5 54 yX5_fail, Cond.instanceMethod yX5_fail, Cond.selects RX5 yX5_fail yX5_fail, Cond.code yX5_fail cX5_fail 2 (some .boolean), Cond.fieldLink RX5 48 "DeskStackModel" "fault" "I", Cond.methodLink RX5 167 yX5_mayRun, Cond.instanceMethod yX5_mayRun, Cond.selects RX5 yX5_mayRun yX5_mayRun, Cond.code yX5_mayRun cX5_mayRun 2 (some .boolean), Cond.fieldLink RX5 111 "DeskStackModel" "levels" "I", Cond.methodLink RX5 117 yX5_isDone, Cond.instanceMethod yX5_isDone, Cond.selects RX5 yX5_isDone yX5_isDone, Cond.code yX5_isDone cX5_isDone 4 (some .boolean), Cond.fieldLink RX5 29 "DeskStackModel" "size" "[I", Cond.fieldLink RX5 26 "DeskStackModel" "text" "[I", Cond.methodLink RX5 114 yX5_isNothing]
def wsX5_runs_r2 : List Cond := [Cond.instanceMethod yX5_isNothing, Cond.selects RX5 yX5_isNothing yX5_isNothing, Cond.code yX5_isNothing cX5_isNothing 2 (some .boolean), Cond.methodLink RX5 170 yX5_begin, Cond.instanceMethod yX5_begin, Cond.selects RX5 yX5_begin yX5_begin, Cond.code yX5_begin cX5_begin 4 none, Cond.fieldLink RX5 32 "DeskStackModel" "at" "[I", Cond.fieldLink RX5 13 "DeskStackModel" "value" "[J", Cond.fieldLink RX5 20 "DeskStackModel" "letters" "[I"]
def wsX5_runs : List Cond := .code yX5_runs cX5_runs 2 (some .boolean) :: ((wsX5_runs_r1 ++ wsX5_runs_r2) ++ wsX50)
def wsX5_isOne : List Cond := .code yX5_isOne cX5_isOne 5 (some .boolean) :: ([])
def wsX5_command_r1 : List Cond := [Cond.fieldLink RX5 111 "DeskStackModel" "levels" "I", Cond.constantLong RX5 123 (48), Cond.constantLong RX5 125 (57), Cond.constantLong RX5 185 (97), Cond.constantLong RX5 187 (100), Cond.fieldLink RX5 32 "DeskStackModel" "at" "[I", Cond.fieldLink RX5 203 "DeskStackModel" "over" "Z", Cond.methodLink RX5 120 yX5_charAt, Cond.instanceMethod yX5_charAt, Cond.selects RX5 yX5_charAt yX5_charAt, Cond.initialized RX5, Cond.code yX5_charAt cX5_charAt 3 (some .int), Cond.fieldLink RX5 29 "DeskStackModel" "size" "[I", Cond.fieldLink RX5 26 "DeskStackModel" "text" "[I", Cond.methodLink RX5 127 yX5_within, Cond.static yX5_within, Cond.code yX5_within cX5_within 6 (some .boolean), Cond.methodLink RX5 175 yX5_digits, Cond.instanceMethod yX5_digits, Cond.selects RX5 yX5_digits yX5_digits, Cond.code yX5_digits cX5_digits 11 (some .boolean), Cond.constantLong RX5 69 (10), Cond.methodLink RX5 54 yX5_fail, Cond.instanceMethod yX5_fail]
def wsX5_command_r2 : List Cond := [Cond.selects RX5 yX5_fail yX5_fail, Cond.code yX5_fail cX5_fail 2 (some .boolean), Cond.fieldLink RX5 48 "DeskStackModel" "fault" "I", Cond.methodLink RX5 131 yX5_room, Cond.instanceMethod yX5_room, Cond.selects RX5 yX5_room yX5_room, Cond.code yX5_room cX5_room 1 (some .boolean), Cond.fieldLink RX5 51 "DeskStackModel" "depth" "I", Cond.methodLink RX5 134 yX5_put, Cond.instanceMethod yX5_put, Cond.selects RX5 yX5_put yX5_put, Cond.code yX5_put cX5_put 5 none, Cond.fieldLink RX5 13 "DeskStackModel" "value" "[J", Cond.fieldLink RX5 17 "DeskStackModel" "places" "[I", Cond.methodLink RX5 178 yX5_brackets, Cond.instanceMethod yX5_brackets, Cond.selects RX5 yX5_brackets yX5_brackets, Cond.code yX5_brackets cX5_brackets 7 (some .boolean), Cond.fieldLink RX5 20 "DeskStackModel" "letters" "[I", Cond.methodLink RX5 181 yX5_isOne, Cond.static yX5_isOne, Cond.code yX5_isOne cX5_isOne 5 (some .boolean), Cond.methodLink RX5 189 yX5_register, Cond.static yX5_register]
def wsX5_command_r3 : List Cond := [Cond.code yX5_register cX5_register 1 (some .int), Cond.methodLink RX5 192 yX5_stores, Cond.instanceMethod yX5_stores, Cond.selects RX5 yX5_stores yX5_stores, Cond.code yX5_stores cX5_stores 4 (some .boolean), Cond.fieldLink RX5 23 "DeskStackModel" "held" "[I", Cond.methodLink RX5 58 yX5_have, Cond.instanceMethod yX5_have, Cond.selects RX5 yX5_have yX5_have, Cond.code yX5_have cX5_have 2 (some .boolean), Cond.methodLink RX5 160 yX5_topOf, Cond.instanceMethod yX5_topOf, Cond.selects RX5 yX5_topOf yX5_topOf, Cond.code yX5_topOf cX5_topOf 2 (some .int), Cond.methodLink RX5 153 yX5_copy, Cond.instanceMethod yX5_copy, Cond.selects RX5 yX5_copy yX5_copy, Cond.code yX5_copy cX5_copy 4 none, Cond.methodLink RX5 196 yX5_tests, Cond.instanceMethod yX5_tests, Cond.selects RX5 yX5_tests yX5_tests, Cond.code yX5_tests cX5_tests 5 (some .boolean), Cond.fieldLink RX5 85 "DeskStackModel" "m" "J", Cond.methodLink RX5 71 yX5_numbers]
def wsX5_command_r4 : List Cond := [Cond.instanceMethod yX5_numbers, Cond.selects RX5 yX5_numbers yX5_numbers, Cond.code yX5_numbers cX5_numbers 3 (some .boolean), Cond.methodLink RX5 164 yX5_compared, Cond.instanceMethod yX5_compared, Cond.selects RX5 yX5_compared yX5_compared, Cond.code yX5_compared cX5_compared 6 (some .boolean), Cond.constantLong RX5 173 (-1), Cond.methodLink RX5 74 yX5_greater, Cond.static yX5_greater, Cond.code yX5_greater cX5_greater 2 (some .int), Cond.methodLink RX5 81 yX5_raised, Cond.instanceMethod yX5_raised, Cond.selects RX5 yX5_raised yX5_raised, Cond.code yX5_raised cX5_raised 7 (some .long), Cond.constantLong RX5 65 (99999999999999999), Cond.constantLong RX5 67 (-99999999999999999), Cond.methodLink RX5 167 yX5_mayRun, Cond.instanceMethod yX5_mayRun, Cond.selects RX5 yX5_mayRun yX5_mayRun, Cond.code yX5_mayRun cX5_mayRun 2 (some .boolean), Cond.methodLink RX5 117 yX5_isDone, Cond.instanceMethod yX5_isDone, Cond.selects RX5 yX5_isDone yX5_isDone]
def wsX5_command_r5 : List Cond := [Cond.code yX5_isDone cX5_isDone 4 (some .boolean), Cond.methodLink RX5 114 yX5_isNothing, Cond.instanceMethod yX5_isNothing, Cond.selects RX5 yX5_isNothing yX5_isNothing, Cond.code yX5_isNothing cX5_isNothing 2 (some .boolean), Cond.methodLink RX5 170 yX5_begin, Cond.instanceMethod yX5_begin, Cond.selects RX5 yX5_begin yX5_begin, Cond.code yX5_begin cX5_begin 4 none, Cond.methodLink RX5 200 yX5_runs, Cond.instanceMethod yX5_runs, Cond.selects RX5 yX5_runs yX5_runs, Cond.code yX5_runs cX5_runs 2 (some .boolean), Cond.methodLink RX5 207 yX5_calculates, Cond.instanceMethod yX5_calculates, Cond.selects RX5 yX5_calculates yX5_calculates, Cond.code yX5_calculates cX5_calculates 8 (some .boolean), Cond.constantLong RX5 151 (9), Cond.fieldLink RX5 93 "DeskStackModel" "precision" "I", Cond.fieldLink RX5 78 "DeskStackModel" "s" "I", Cond.methodLink RX5 138 yX5_sum, Cond.instanceMethod yX5_sum, Cond.selects RX5 yX5_sum yX5_sum, Cond.code yX5_sum cX5_sum 6 (some .boolean)]
def wsX5_command_r6 : List Cond := [Cond.methodLink RX5 89 yX5_isBig, Cond.static yX5_isBig, Cond.code yX5_isBig cX5_isBig 2 (some .boolean), Cond.constantLong RX5 61 (999999999999999999), Cond.constantLong RX5 63 (-999999999999999999), Cond.methodLink RX5 142 yX5_times, Cond.instanceMethod yX5_times, Cond.selects RX5 yX5_times yX5_times, Cond.code yX5_times cX5_times 3 (some .boolean), Cond.methodLink RX5 96 yX5_product, Cond.instanceMethod yX5_product, Cond.selects RX5 yX5_product yX5_product, Cond.code yX5_product cX5_product 9 (some .long), Cond.methodLink RX5 100 yX5_cut, Cond.static yX5_cut, Cond.code yX5_cut cX5_cut 6 (some .long), Cond.methodLink RX5 103 yX5_quotient, Cond.instanceMethod yX5_quotient, Cond.selects RX5 yX5_quotient yX5_quotient, Cond.code yX5_quotient cX5_quotient 6 (some .boolean), Cond.methodLink RX5 145 yX5_rest, Cond.instanceMethod yX5_rest, Cond.selects RX5 yX5_rest yX5_rest, Cond.code yX5_rest cX5_rest 7 (some .boolean)]
def wsX5_command_r7 : List Cond := [Cond.methodLink RX5 148 yX5_root, Cond.instanceMethod yX5_root, Cond.selects RX5 yX5_root yX5_root, Cond.code yX5_root cX5_root 10 (some .boolean), Cond.constantLong RX5 107 (1000000000), Cond.constantLong RX5 109 (2), Cond.methodLink RX5 210 yX5_moves, Cond.instanceMethod yX5_moves, Cond.selects RX5 yX5_moves yX5_moves, Cond.code yX5_moves cX5_moves 2 (some .boolean), Cond.fieldLink RX5 157 "DeskStackModel" "prints" "I", Cond.fieldLink RX5 35 "DeskStackModel" "shown" "[J", Cond.fieldLink RX5 38 "DeskStackModel" "shownPlaces" "[I"]
def wsX5_command : List Cond := .code yX5_command cX5_command 7 (some .boolean) :: ((wsX5_command_r1 ++ (wsX5_command_r2 ++ (wsX5_command_r3 ++ (wsX5_command_r4 ++ (wsX5_command_r5 ++ (wsX5_command_r6 ++ wsX5_command_r7)))))) ++ wsX50)
def wsX5_run_r1 : List Cond := [Cond.fieldLink RX5 41 "DeskStackModel" "thrown" "I", Cond.constantLong RX5 213 (500), Cond.fieldLink RX5 157 "DeskStackModel" "prints" "I", Cond.fieldLink RX5 215 "DeskStackModel" "cost" "I", Cond.fieldLink RX5 48 "DeskStackModel" "fault" "I", Cond.fieldLink RX5 203 "DeskStackModel" "over" "Z", Cond.fieldLink RX5 111 "DeskStackModel" "levels" "I", Cond.fieldLink RX5 29 "DeskStackModel" "size" "[I", Cond.fieldLink RX5 45 "DeskStackModel" "length" "I", Cond.fieldLink RX5 32 "DeskStackModel" "at" "[I", Cond.fieldLink RX5 26 "DeskStackModel" "text" "[I", Cond.fieldLink RX5 7 "DeskStackModel" "program" "[I", Cond.constant RX5 218 (200000), Cond.methodLink RX5 127 yX5_within, Cond.static yX5_within, Cond.initialized RX5, Cond.code yX5_within cX5_within 6 (some .boolean), Cond.methodLink RX5 114 yX5_isNothing, Cond.instanceMethod yX5_isNothing, Cond.selects RX5 yX5_isNothing yX5_isNothing, Cond.code yX5_isNothing cX5_isNothing 2 (some .boolean), Cond.methodLink RX5 219 yX5_command, Cond.instanceMethod yX5_command, Cond.selects RX5 yX5_command yX5_command]
def wsX5_run_r2 : List Cond := [Cond.code yX5_command cX5_command 7 (some .boolean), Cond.constantLong RX5 123 (48), Cond.constantLong RX5 125 (57), Cond.constantLong RX5 185 (97), Cond.constantLong RX5 187 (100), Cond.methodLink RX5 120 yX5_charAt, Cond.instanceMethod yX5_charAt, Cond.selects RX5 yX5_charAt yX5_charAt, Cond.code yX5_charAt cX5_charAt 3 (some .int), Cond.methodLink RX5 175 yX5_digits, Cond.instanceMethod yX5_digits, Cond.selects RX5 yX5_digits yX5_digits, Cond.code yX5_digits cX5_digits 11 (some .boolean), Cond.constantLong RX5 69 (10), Cond.methodLink RX5 54 yX5_fail, Cond.instanceMethod yX5_fail, Cond.selects RX5 yX5_fail yX5_fail, Cond.code yX5_fail cX5_fail 2 (some .boolean), Cond.methodLink RX5 131 yX5_room, Cond.instanceMethod yX5_room, Cond.selects RX5 yX5_room yX5_room, Cond.code yX5_room cX5_room 1 (some .boolean), Cond.fieldLink RX5 51 "DeskStackModel" "depth" "I", Cond.methodLink RX5 134 yX5_put]
def wsX5_run_r3 : List Cond := [Cond.instanceMethod yX5_put, Cond.selects RX5 yX5_put yX5_put, Cond.code yX5_put cX5_put 5 none, Cond.fieldLink RX5 13 "DeskStackModel" "value" "[J", Cond.fieldLink RX5 17 "DeskStackModel" "places" "[I", Cond.methodLink RX5 178 yX5_brackets, Cond.instanceMethod yX5_brackets, Cond.selects RX5 yX5_brackets yX5_brackets, Cond.code yX5_brackets cX5_brackets 7 (some .boolean), Cond.fieldLink RX5 20 "DeskStackModel" "letters" "[I", Cond.methodLink RX5 181 yX5_isOne, Cond.static yX5_isOne, Cond.code yX5_isOne cX5_isOne 5 (some .boolean), Cond.methodLink RX5 189 yX5_register, Cond.static yX5_register, Cond.code yX5_register cX5_register 1 (some .int), Cond.methodLink RX5 192 yX5_stores, Cond.instanceMethod yX5_stores, Cond.selects RX5 yX5_stores yX5_stores, Cond.code yX5_stores cX5_stores 4 (some .boolean), Cond.fieldLink RX5 23 "DeskStackModel" "held" "[I", Cond.methodLink RX5 58 yX5_have, Cond.instanceMethod yX5_have, Cond.selects RX5 yX5_have yX5_have]
def wsX5_run_r4 : List Cond := [Cond.code yX5_have cX5_have 2 (some .boolean), Cond.methodLink RX5 160 yX5_topOf, Cond.instanceMethod yX5_topOf, Cond.selects RX5 yX5_topOf yX5_topOf, Cond.code yX5_topOf cX5_topOf 2 (some .int), Cond.methodLink RX5 153 yX5_copy, Cond.instanceMethod yX5_copy, Cond.selects RX5 yX5_copy yX5_copy, Cond.code yX5_copy cX5_copy 4 none, Cond.methodLink RX5 196 yX5_tests, Cond.instanceMethod yX5_tests, Cond.selects RX5 yX5_tests yX5_tests, Cond.code yX5_tests cX5_tests 5 (some .boolean), Cond.fieldLink RX5 85 "DeskStackModel" "m" "J", Cond.methodLink RX5 71 yX5_numbers, Cond.instanceMethod yX5_numbers, Cond.selects RX5 yX5_numbers yX5_numbers, Cond.code yX5_numbers cX5_numbers 3 (some .boolean), Cond.methodLink RX5 164 yX5_compared, Cond.instanceMethod yX5_compared, Cond.selects RX5 yX5_compared yX5_compared, Cond.code yX5_compared cX5_compared 6 (some .boolean), Cond.constantLong RX5 173 (-1), Cond.methodLink RX5 74 yX5_greater]
def wsX5_run_r5 : List Cond := [Cond.static yX5_greater, Cond.code yX5_greater cX5_greater 2 (some .int), Cond.methodLink RX5 81 yX5_raised, Cond.instanceMethod yX5_raised, Cond.selects RX5 yX5_raised yX5_raised, Cond.code yX5_raised cX5_raised 7 (some .long), Cond.constantLong RX5 65 (99999999999999999), Cond.constantLong RX5 67 (-99999999999999999), Cond.methodLink RX5 167 yX5_mayRun, Cond.instanceMethod yX5_mayRun, Cond.selects RX5 yX5_mayRun yX5_mayRun, Cond.code yX5_mayRun cX5_mayRun 2 (some .boolean), Cond.methodLink RX5 117 yX5_isDone, Cond.instanceMethod yX5_isDone, Cond.selects RX5 yX5_isDone yX5_isDone, Cond.code yX5_isDone cX5_isDone 4 (some .boolean), Cond.methodLink RX5 170 yX5_begin, Cond.instanceMethod yX5_begin, Cond.selects RX5 yX5_begin yX5_begin, Cond.code yX5_begin cX5_begin 4 none, Cond.methodLink RX5 200 yX5_runs, Cond.instanceMethod yX5_runs, Cond.selects RX5 yX5_runs yX5_runs, Cond.code yX5_runs cX5_runs 2 (some .boolean)]
def wsX5_run_r6 : List Cond := [Cond.methodLink RX5 207 yX5_calculates, Cond.instanceMethod yX5_calculates, Cond.selects RX5 yX5_calculates yX5_calculates, Cond.code yX5_calculates cX5_calculates 8 (some .boolean), Cond.constantLong RX5 151 (9), Cond.fieldLink RX5 93 "DeskStackModel" "precision" "I", Cond.fieldLink RX5 78 "DeskStackModel" "s" "I", Cond.methodLink RX5 138 yX5_sum, Cond.instanceMethod yX5_sum, Cond.selects RX5 yX5_sum yX5_sum, Cond.code yX5_sum cX5_sum 6 (some .boolean), Cond.methodLink RX5 89 yX5_isBig, Cond.static yX5_isBig, Cond.code yX5_isBig cX5_isBig 2 (some .boolean), Cond.constantLong RX5 61 (999999999999999999), Cond.constantLong RX5 63 (-999999999999999999), Cond.methodLink RX5 142 yX5_times, Cond.instanceMethod yX5_times, Cond.selects RX5 yX5_times yX5_times, Cond.code yX5_times cX5_times 3 (some .boolean), Cond.methodLink RX5 96 yX5_product, Cond.instanceMethod yX5_product, Cond.selects RX5 yX5_product yX5_product, Cond.code yX5_product cX5_product 9 (some .long)]
def wsX5_run_r7 : List Cond := [Cond.methodLink RX5 100 yX5_cut, Cond.static yX5_cut, Cond.code yX5_cut cX5_cut 6 (some .long), Cond.methodLink RX5 103 yX5_quotient, Cond.instanceMethod yX5_quotient, Cond.selects RX5 yX5_quotient yX5_quotient, Cond.code yX5_quotient cX5_quotient 6 (some .boolean), Cond.methodLink RX5 145 yX5_rest, Cond.instanceMethod yX5_rest, Cond.selects RX5 yX5_rest yX5_rest, Cond.code yX5_rest cX5_rest 7 (some .boolean), Cond.methodLink RX5 148 yX5_root, Cond.instanceMethod yX5_root, Cond.selects RX5 yX5_root yX5_root, Cond.code yX5_root cX5_root 10 (some .boolean), Cond.constantLong RX5 107 (1000000000), Cond.constantLong RX5 109 (2), Cond.methodLink RX5 210 yX5_moves, Cond.instanceMethod yX5_moves, Cond.selects RX5 yX5_moves yX5_moves, Cond.code yX5_moves cX5_moves 2 (some .boolean), Cond.fieldLink RX5 35 "DeskStackModel" "shown" "[J", Cond.fieldLink RX5 38 "DeskStackModel" "shownPlaces" "[I"]
def wsX5_run : List Cond := .code yX5_run cX5_run 5 (some .int) :: ((wsX5_run_r1 ++ (wsX5_run_r2 ++ (wsX5_run_r3 ++ (wsX5_run_r4 ++ (wsX5_run_r5 ++ (wsX5_run_r6 ++ wsX5_run_r7)))))) ++ wsX50)
def wsX5_cost : List Cond := .code yX5_cost cX5_cost 1 (some .int) :: ([.fieldLink RX5 41 "DeskStackModel" "thrown" "I", .fieldLink RX5 215 "DeskStackModel" "cost" "I"] ++ wsX50)
def wsX5_prints : List Cond := .code yX5_prints cX5_prints 1 (some .int) :: ([.fieldLink RX5 41 "DeskStackModel" "thrown" "I", .fieldLink RX5 157 "DeskStackModel" "prints" "I"] ++ wsX50)
def wsX5_printed : List Cond := .code yX5_printed cX5_printed 2 (some .long) :: ([.fieldLink RX5 41 "DeskStackModel" "thrown" "I", .fieldLink RX5 157 "DeskStackModel" "prints" "I", .fieldLink RX5 35 "DeskStackModel" "shown" "[J", .methodLink RX5 127 yX5_within, .static yX5_within, .initialized RX5, .code yX5_within cX5_within 6 (some .boolean)] ++ wsX50)
def wsX5_places : List Cond := .code yX5_places cX5_places 2 (some .int) :: ([.fieldLink RX5 41 "DeskStackModel" "thrown" "I", .fieldLink RX5 157 "DeskStackModel" "prints" "I", .fieldLink RX5 38 "DeskStackModel" "shownPlaces" "[I", .methodLink RX5 127 yX5_within, .static yX5_within, .initialized RX5, .code yX5_within cX5_within 6 (some .boolean)] ++ wsX50)
def wsX5_depth : List Cond := .code yX5_depth cX5_depth 1 (some .int) :: ([.fieldLink RX5 41 "DeskStackModel" "thrown" "I", .fieldLink RX5 51 "DeskStackModel" "depth" "I"] ++ wsX50)
def wsX5_item : List Cond := .code yX5_item cX5_item 2 (some .long) :: ([.fieldLink RX5 41 "DeskStackModel" "thrown" "I", .fieldLink RX5 51 "DeskStackModel" "depth" "I", .fieldLink RX5 13 "DeskStackModel" "value" "[J", .methodLink RX5 127 yX5_within, .static yX5_within, .initialized RX5, .code yX5_within cX5_within 6 (some .boolean)] ++ wsX50)
def wsX5_scale : List Cond := .code yX5_scale cX5_scale 2 (some .int) :: ([.fieldLink RX5 41 "DeskStackModel" "thrown" "I", .fieldLink RX5 51 "DeskStackModel" "depth" "I", .fieldLink RX5 17 "DeskStackModel" "places" "[I", .methodLink RX5 127 yX5_within, .static yX5_within, .initialized RX5, .code yX5_within cX5_within 6 (some .boolean)] ++ wsX50)
def wsX5_held : List Cond := .code yX5_held cX5_held 2 (some .int) :: ([.fieldLink RX5 41 "DeskStackModel" "thrown" "I", .constantLong RX5 222 (3), .fieldLink RX5 23 "DeskStackModel" "held" "[I", .methodLink RX5 127 yX5_within, .static yX5_within, .initialized RX5, .code yX5_within cX5_within 6 (some .boolean)] ++ wsX50)
def wsX5_precision : List Cond := .code yX5_precision cX5_precision 1 (some .int) :: ([.fieldLink RX5 41 "DeskStackModel" "thrown" "I", .fieldLink RX5 93 "DeskStackModel" "precision" "I"] ++ wsX50)
def wsX5_reset : List Cond := .code yX5_reset cX5_reset 2 none :: ([.fieldLink RX5 41 "DeskStackModel" "thrown" "I", .fieldLink RX5 51 "DeskStackModel" "depth" "I", .fieldLink RX5 93 "DeskStackModel" "precision" "I", .fieldLink RX5 157 "DeskStackModel" "prints" "I", .fieldLink RX5 23 "DeskStackModel" "held" "[I"] ++ wsX50)
def wsJ9_abs_067f4 : List Cond := .code yJ9_abs_067f4 cJ9_abs_067f4 2 (some .long) :: ([])
def wsJ9_max_7cf53 : List Cond := .code yJ9_max_7cf53 cJ9_max_7cf53 2 (some .int) :: ([])
def wsJ9_min_7cf53 : List Cond := .code yJ9_min_7cf53 cJ9_min_7cf53 2 (some .int) :: ([])
def wsL_run_r1 : List Cond := [Cond.classLink RL 13 "java/lang/IllegalArgumentException", Cond.classLink RL 15 "java/lang/IllegalStateException", Cond.classLink RL 17 "java/lang/IndexOutOfBoundsException", Cond.classLink RL 19 "java/lang/ArithmeticException", Cond.classLink RL 21 "java/lang/UnsupportedOperationException", Cond.methodLink RL 7 yX4_run, Cond.instanceMethod yX4_run, Cond.selects RX4 yX4_run yX4_run, Cond.initialized RX4, Cond.code yX4_run cX4_run 3 (some .int), Cond.classLink RX4 56 "java/lang/IllegalArgumentException", Cond.initialized "java/lang/IllegalArgumentException", Cond.classLink RX4 87 "java/lang/UnsupportedOperationException", Cond.initialized "java/lang/UnsupportedOperationException", Cond.fieldLink RX4 22 "DeskStack" "printer" "LDeskStack$Shelf;", Cond.fieldLink RX4 43 "DeskStack" "commandsDone" "I", Cond.fieldLink RX4 28 "DeskStack" "texts" "LDeskStack$Nest;", Cond.fieldLink RX4 35 "DeskStack" "program" "LDeskStack$Row;", Cond.fieldLink RX4 50 "DeskStack$Row" "size" "I", Cond.constant RX4 73 (1000000), Cond.fieldLink RX4 74 "DeskStack$Nest" "count" "I", Cond.methodLink RX4 63 yX3_clear, Cond.instanceMethod yX3_clear, Cond.selects RX3 yX3_clear yX3_clear]
def wsL_run_r2 : List Cond := [Cond.initialized RX3, Cond.code yX3_clear cX3_clear 1 none, Cond.fieldLink RX3 28 "DeskStack$Shelf" "count" "I", Cond.methodLink RX4 66 yX1_leaveAll, Cond.instanceMethod yX1_leaveAll, Cond.selects RX1 yX1_leaveAll yX1_leaveAll, Cond.initialized RX1, Cond.code yX1_leaveAll cX1_leaveAll 1 none, Cond.fieldLink RX1 24 "DeskStack$Nest" "count" "I", Cond.methodLink RX4 69 yX1_enter, Cond.instanceMethod yX1_enter, Cond.selects RX1 yX1_enter yX1_enter, Cond.code yX1_enter cX1_enter 4 none, Cond.classLink RX1 28 "java/lang/UnsupportedOperationException", Cond.fieldLink RX1 11 "DeskStack$Nest" "rows" "[LDeskStack$Row;", Cond.fieldLink RX1 17 "DeskStack$Nest" "positions" "[I", Cond.fieldLink RX1 21 "DeskStack$Nest" "ends" "[I", Cond.methodLink RX4 77 yX1_skipBlanks, Cond.instanceMethod yX1_skipBlanks, Cond.selects RX1 yX1_skipBlanks yX1_skipBlanks, Cond.code yX1_skipBlanks cX1_skipBlanks 2 none, Cond.methodLink RX1 38 yX1_look, Cond.instanceMethod yX1_look, Cond.selects RX1 yX1_look yX1_look]
def wsL_run_r3 : List Cond := [Cond.code yX1_look cX1_look 2 (some .int), Cond.methodLink RX1 55 yX1_isUnderWay, Cond.instanceMethod yX1_isUnderWay, Cond.selects RX1 yX1_isUnderWay yX1_isUnderWay, Cond.code yX1_isUnderWay cX1_isUnderWay 1 (some .boolean), Cond.methodLink RX1 59 yX2_charAt, Cond.instanceMethod yX2_charAt, Cond.selects RX2 yX2_charAt yX2_charAt, Cond.initialized RX2, Cond.code yX2_charAt cX2_charAt 2 (some .int), Cond.fieldLink RX2 15 "DeskStack$Row" "size" "I", Cond.fieldLink RX2 9 "DeskStack$Row" "chars" "[B", Cond.methodLink RX1 63 yX1_pass, Cond.instanceMethod yX1_pass, Cond.selects RX1 yX1_pass yX1_pass, Cond.code yX1_pass cX1_pass 1 none, Cond.methodLink RX4 80 yX1_look, Cond.methodLink RX4 84 yX1_leave, Cond.instanceMethod yX1_leave, Cond.selects RX1 yX1_leave yX1_leave, Cond.code yX1_leave cX1_leave 1 none, Cond.methodLink RX1 49 Lib.Math.max.name, Cond.static Lib.Math.max.name, Cond.initialized "java/lang/Math"]
def wsL_run_r4 : List Cond := [Cond.code Lib.Math.max.name Lib.Math.max.code 2 (some .int), Cond.methodLink RX4 92 yX4_doCommand, Cond.instanceMethod yX4_doCommand, Cond.selects RX4 yX4_doCommand yX4_doCommand, Cond.code yX4_doCommand cX4_doCommand 2 none, Cond.methodLink RX4 111 yX4_beginsNumber, Cond.static yX4_beginsNumber, Cond.code yX4_beginsNumber cX4_beginsNumber 1 (some .boolean), Cond.methodLink RX4 142 yX4_isDigit, Cond.static yX4_isDigit, Cond.code yX4_isDigit cX4_isDigit 1 (some .boolean), Cond.methodLink RX4 115 yX4_putWrittenNumber, Cond.instanceMethod yX4_putWrittenNumber, Cond.selects RX4 yX4_putWrittenNumber yX4_putWrittenNumber, Cond.code yX4_putWrittenNumber cX4_putWrittenNumber 9 none, Cond.constantLong RX4 145 (10), Cond.fieldLink RX4 14 "DeskStack" "stack" "LDeskStack$Shelf;", Cond.methodLink RX4 118 yX1_pass, Cond.methodLink RX4 149 yX3_putNumber, Cond.instanceMethod yX3_putNumber, Cond.selects RX3 yX3_putNumber yX3_putNumber, Cond.code yX3_putNumber cX3_putNumber 4 none, Cond.methodLink RX3 36 yX3_put, Cond.instanceMethod yX3_put]
def wsL_run_r5 : List Cond := [Cond.selects RX3 yX3_put yX3_put, Cond.code yX3_put cX3_put 6 none, Cond.classLink RX3 62 "java/lang/UnsupportedOperationException", Cond.methodLink RX3 58 yX3_isFull, Cond.instanceMethod yX3_isFull, Cond.selects RX3 yX3_isFull yX3_isFull, Cond.code yX3_isFull cX3_isFull 1 (some .boolean), Cond.fieldLink RX3 9 "DeskStack$Shelf" "values" "[J", Cond.methodLink RX3 69 yX3_set, Cond.instanceMethod yX3_set, Cond.selects RX3 yX3_set yX3_set, Cond.code yX3_set cX3_set 7 none, Cond.fieldLink RX3 15 "DeskStack$Shelf" "places" "[I", Cond.fieldLink RX3 21 "DeskStack$Shelf" "rows" "[LDeskStack$Row;", Cond.fieldLink RX3 25 "DeskStack$Shelf" "starts" "[I", Cond.methodLink RX3 32 yX3_has, Cond.instanceMethod yX3_has, Cond.selects RX3 yX3_has yX3_has, Cond.code yX3_has cX3_has 2 (some .boolean), Cond.methodLink RX4 121 yX4_putWrittenText, Cond.instanceMethod yX4_putWrittenText, Cond.selects RX4 yX4_putWrittenText yX4_putWrittenText, Cond.code yX4_putWrittenText cX4_putWrittenText 6 none, Cond.methodLink RX4 153 yX1_innermostRow]
def wsL_run_r6 : List Cond := [Cond.instanceMethod yX1_innermostRow, Cond.selects RX1 yX1_innermostRow yX1_innermostRow, Cond.code yX1_innermostRow cX1_innermostRow 1 (some (.object "DeskStack$Row")), Cond.methodLink RX4 157 yX1_position, Cond.instanceMethod yX1_position, Cond.selects RX1 yX1_position yX1_position, Cond.code yX1_position cX1_position 1 (some .int), Cond.methodLink RX4 162 yX3_putText, Cond.instanceMethod yX3_putText, Cond.selects RX3 yX3_putText yX3_putText, Cond.code yX3_putText cX3_putText 4 none, Cond.methodLink RX4 124 yX4_calculate, Cond.instanceMethod yX4_calculate, Cond.selects RX4 yX4_calculate yX4_calculate, Cond.code yX4_calculate cX4_calculate 12 none, Cond.methodLink RX4 185 Lib.Math.max.name, Cond.fieldLink RX4 39 "DeskStack" "keptPlaces" "I", Cond.methodLink RX4 197 Lib.Math.min.name, Cond.static Lib.Math.min.name, Cond.code Lib.Math.min.name Lib.Math.min.code 2 (some .int), Cond.methodLink RX4 182 yX4_needNumbers, Cond.instanceMethod yX4_needNumbers, Cond.selects RX4 yX4_needNumbers yX4_needNumbers, Cond.code yX4_needNumbers cX4_needNumbers 3 none]
def wsL_run_r7 : List Cond := [Cond.classLink RX4 177 "java/lang/IndexOutOfBoundsException", Cond.initialized "java/lang/IndexOutOfBoundsException", Cond.methodLink RX4 170 yX4_needItems, Cond.instanceMethod yX4_needItems, Cond.selects RX4 yX4_needItems yX4_needItems, Cond.code yX4_needItems cX4_needItems 2 none, Cond.classLink RX4 165 "java/lang/IllegalStateException", Cond.initialized "java/lang/IllegalStateException", Cond.fieldLink RX4 95 "DeskStack$Shelf" "count" "I", Cond.methodLink RX4 104 yX3_slotBelowTop, Cond.instanceMethod yX3_slotBelowTop, Cond.selects RX3 yX3_slotBelowTop yX3_slotBelowTop, Cond.code yX3_slotBelowTop cX3_slotBelowTop 2 (some .int), Cond.methodLink RX4 173 yX3_rowAt, Cond.instanceMethod yX3_rowAt, Cond.selects RX3 yX3_rowAt yX3_rowAt, Cond.code yX3_rowAt cX3_rowAt 2 (some (.object "DeskStack$Row")), Cond.methodLink RX4 96 yX3_valueAt, Cond.instanceMethod yX3_valueAt, Cond.selects RX3 yX3_valueAt yX3_valueAt, Cond.code yX3_valueAt cX3_valueAt 2 (some .long), Cond.methodLink RX4 100 yX3_placesAt, Cond.instanceMethod yX3_placesAt, Cond.selects RX3 yX3_placesAt yX3_placesAt]
def wsL_run_r8 : List Cond := [Cond.code yX3_placesAt cX3_placesAt 2 (some .int), Cond.methodLink RX4 191 yX0_sum, Cond.static yX0_sum, Cond.initialized RX0, Cond.code yX0_sum cX0_sum 7 (some .long), Cond.methodLink RX0 9 Lib.Math.max.name, Cond.methodLink RX0 15 yX0_raise, Cond.static yX0_raise, Cond.code yX0_raise cX0_raise 3 (some .long), Cond.methodLink RX0 74 yX0_powerOfTen, Cond.static yX0_powerOfTen, Cond.code yX0_powerOfTen cX0_powerOfTen 1 (some .long), Cond.fieldLink RX0 78 "DeskStack$Decimal" "POWERS" "[J", Cond.methodLink RX0 82 Lib.Math.min.name, Cond.methodLink RX0 58 yX0_times, Cond.static yX0_times, Cond.code yX0_times cX0_times 4 (some .long), Cond.classLink RX0 36 "java/lang/UnsupportedOperationException", Cond.methodLink RX0 31 Lib.MathLoose.abs_long.x, Cond.static Lib.MathLoose.abs_long.x, Cond.code Lib.MathLoose.abs_long.x Lib.MathLoose.abs_long.code 2 (some .long), Cond.constantLong RX0 34 (999999999999999999), Cond.methodLink RX0 21 yX0_fitting, Cond.static yX0_fitting]
def wsL_run_r9 : List Cond := [Cond.code yX0_fitting cX0_fitting 2 (some .long), Cond.methodLink RX4 200 yX0_times, Cond.methodLink RX4 204 yX0_cutOff, Cond.static yX0_cutOff, Cond.code yX0_cutOff cX0_cutOff 3 (some .long), Cond.methodLink RX0 48 yX0_divide, Cond.static yX0_divide, Cond.code yX0_divide cX0_divide 4 (some .long), Cond.methodLink RX4 208 yX0_quotient, Cond.static yX0_quotient, Cond.code yX0_quotient cX0_quotient 8 (some .long), Cond.classLink RX0 43 "java/lang/ArithmeticException", Cond.initialized "java/lang/ArithmeticException", Cond.methodLink RX4 212 yX0_remainder, Cond.static yX0_remainder, Cond.code yX0_remainder cX0_remainder 13 (some .long), Cond.methodLink RX0 52 yX0_quotient, Cond.methodLink RX4 215 yX3_drop, Cond.instanceMethod yX3_drop, Cond.selects RX3 yX3_drop yX3_drop, Cond.code yX3_drop cX3_drop 2 none, Cond.methodLink RX3 73 Lib.Math.max.name, Cond.methodLink RX4 127 yX4_changeNumber, Cond.instanceMethod yX4_changeNumber]
def wsL_run_r10 : List Cond := [Cond.selects RX4 yX4_changeNumber yX4_changeNumber, Cond.code yX4_changeNumber cX4_changeNumber 8 none, Cond.methodLink RX4 218 yX0_asPlaces, Cond.static yX0_asPlaces, Cond.code yX0_asPlaces cX0_asPlaces 5 (some .int), Cond.constantLong RX0 70 (9), Cond.methodLink RX0 67 yX0_cutOff, Cond.methodLink RX4 221 yX0_root, Cond.static yX0_root, Cond.code yX0_root cX0_root 13 (some .long), Cond.constantLong RX0 63 (999999999), Cond.constantLong RX0 65 (2), Cond.methodLink RX4 130 yX4_moveToOrFromRegister, Cond.instanceMethod yX4_moveToOrFromRegister, Cond.selects RX4 yX4_moveToOrFromRegister yX4_moveToOrFromRegister, Cond.code yX4_moveToOrFromRegister cX4_moveToOrFromRegister 3 none, Cond.methodLink RX4 242 yX4_registerOfLetter, Cond.instanceMethod yX4_registerOfLetter, Cond.selects RX4 yX4_registerOfLetter yX4_registerOfLetter, Cond.code yX4_registerOfLetter cX4_registerOfLetter 2 (some (.object "DeskStack$Shelf")), Cond.methodLink RX4 107 yX4_registerNumbered, Cond.instanceMethod yX4_registerNumbered, Cond.selects RX4 yX4_registerNumbered yX4_registerNumbered, Cond.code yX4_registerNumbered cX4_registerNumbered 2 (some (.object "DeskStack$Shelf"))]
def wsL_run_r11 : List Cond := [Cond.fieldLink RX4 18 "DeskStack" "registers" "[LDeskStack$Shelf;", Cond.methodLink RX4 225 yX3_putTopOf, Cond.instanceMethod yX3_putTopOf, Cond.selects RX3 yX3_putTopOf yX3_putTopOf, Cond.code yX3_putTopOf cX3_putTopOf 3 none, Cond.methodLink RX3 40 yX3_slotBelowTop, Cond.methodLink RX3 44 yX3_valueAt, Cond.methodLink RX3 48 yX3_placesAt, Cond.methodLink RX3 51 yX3_rowAt, Cond.methodLink RX3 55 yX3_startAt, Cond.instanceMethod yX3_startAt, Cond.selects RX3 yX3_startAt yX3_startAt, Cond.code yX3_startAt cX3_startAt 2 (some .int), Cond.methodLink RX4 246 yX4_needHeld, Cond.static yX4_needHeld, Cond.code yX4_needHeld cX4_needHeld 1 none, Cond.methodLink RX4 133 yX4_runIfOrdered, Cond.instanceMethod yX4_runIfOrdered, Cond.selects RX4 yX4_runIfOrdered yX4_runIfOrdered, Cond.code yX4_runIfOrdered cX4_runIfOrdered 9 none, Cond.methodLink RX4 255 yX0_order, Cond.static yX0_order, Cond.code yX0_order cX0_order 7 (some .int), Cond.methodLink RX0 25 yJ13_compare_74951]
def wsL_run_r12 : List Cond := [Cond.static yJ13_compare_74951, Cond.initialized RJ13, Cond.code yJ13_compare_74951 cJ13_compare_74951 4 (some .int), Cond.methodLink RX4 249 yX3_startAt, Cond.methodLink RX4 252 yX1_enterMacro, Cond.instanceMethod yX1_enterMacro, Cond.selects RX1 yX1_enterMacro yX1_enterMacro, Cond.code yX1_enterMacro cX1_enterMacro 4 none, Cond.methodLink RX1 35 yX1_skipBlanks, Cond.methodLink RX1 42 yX1_leave, Cond.methodLink RX1 45 yX1_enter, Cond.methodLink RX4 136 yX4_runTop, Cond.instanceMethod yX4_runTop, Cond.selects RX4 yX4_runTop yX4_runTop, Cond.code yX4_runTop cX4_runTop 3 none, Cond.methodLink RX4 139 yX4_arrangeStack, Cond.instanceMethod yX4_arrangeStack, Cond.selects RX4 yX4_arrangeStack yX4_arrangeStack, Cond.code yX4_arrangeStack cX4_arrangeStack 2 none, Cond.methodLink RX4 229 yX3_swapTopTwo, Cond.instanceMethod yX3_swapTopTwo, Cond.selects RX3 yX3_swapTopTwo yX3_swapTopTwo, Cond.code yX3_swapTopTwo cX3_swapTopTwo 8 none, Cond.methodLink RX4 232 yX3_isFull]
def wsL_run : List Cond := .codeWith yL_run cL_run 4 (some .int) [(0, 9, 12, 13), (0, 9, 15, 15), (0, 9, 18, 17), (0, 9, 21, 19), (0, 9, 24, 21)] :: ((wsL_run_r1 ++ (wsL_run_r2 ++ (wsL_run_r3 ++ (wsL_run_r4 ++ (wsL_run_r5 ++ (wsL_run_r6 ++ (wsL_run_r7 ++ (wsL_run_r8 ++ (wsL_run_r9 ++ (wsL_run_r10 ++ (wsL_run_r11 ++ wsL_run_r12))))))))))) ++ wsX40 ++ wsX20 ++ wsX10 ++ wsX30 ++ (vx_atS RX4 60 "java/lang/IllegalArgumentException" ["java/lang/RuntimeException", "java/lang/Exception"]).filter goodWord ++ (vx_atS RX4 91 "java/lang/UnsupportedOperationException" ["java/lang/RuntimeException", "java/lang/Exception"]).filter goodWord ++ (vx_atS RX1 32 "java/lang/UnsupportedOperationException" ["java/lang/RuntimeException", "java/lang/Exception"]).filter goodWord ++ (vx_atS RX3 66 "java/lang/UnsupportedOperationException" ["java/lang/RuntimeException", "java/lang/Exception"]).filter goodWord ++ (vx_atS RX4 181 "java/lang/IndexOutOfBoundsException" ["java/lang/RuntimeException", "java/lang/Exception"]).filter goodWord ++ (vx_atS RX4 169 "java/lang/IllegalStateException" ["java/lang/RuntimeException", "java/lang/Exception"]).filter goodWord ++ (vx_atS RX0 40 "java/lang/UnsupportedOperationException" ["java/lang/RuntimeException", "java/lang/Exception"]).filter goodWord ++ (vx_atS RX0 47 "java/lang/ArithmeticException" ["java/lang/RuntimeException", "java/lang/Exception"]).filter goodWord)
abbrev vwCl : List vw_C := [(RX1, TX1, 4), (RX2, TX2, 2), (RX3, TX3, 5), (RX4, TX4, 7), (RX5, TX5, 21)]
end
section
theorem i_bm {z : Int} (h1 : -2147483648 ≤ z) (h2 : z < 2147483648) : z.bmod (2 ^ 32) = z := by
  rw [Int.bmod_def]; omega
theorem i_add {a b : Int32} (h1 : -2147483648 ≤ a.toInt + b.toInt) (h2 : a.toInt + b.toInt < 2147483648) : (a + b).toInt = a.toInt + b.toInt := by
  rw [Int32.toInt_add]; exact i_bm h1 h2
theorem i_sub {a b : Int32} (h1 : -2147483648 ≤ a.toInt - b.toInt) (h2 : a.toInt - b.toInt < 2147483648) : (a - b).toInt = a.toInt - b.toInt := by
  rw [Int32.toInt_sub]; exact i_bm h1 h2
theorem i_mul {a b : Int32} (h1 : -2147483648 ≤ a.toInt * b.toInt) (h2 : a.toInt * b.toInt < 2147483648) : (a * b).toInt = a.toInt * b.toInt := by
  rw [Int32.toInt_mul]; exact i_bm h1 h2
theorem i_addE {a b : Int32} {x y : Int} (ha : a.toInt = x) (hb : b.toInt = y) (h1 : -2147483648 ≤ x + y) (h2 : x + y < 2147483648) : (a + b).toInt = x + y := by
  subst ha; subst hb; exact i_add h1 h2
theorem i_subE {a b : Int32} {x y : Int} (ha : a.toInt = x) (hb : b.toInt = y) (h1 : -2147483648 ≤ x - y) (h2 : x - y < 2147483648) : (a - b).toInt = x - y := by
  subst ha; subst hb; exact i_sub h1 h2
theorem i_mulE {a b : Int32} {x y : Int} (ha : a.toInt = x) (hb : b.toInt = y) (h1 : -2147483648 ≤ x * y) (h2 : x * y < 2147483648) : (a * b).toInt = x * y := by
  subst ha; subst hb; exact i_mul h1 h2
theorem vin {i : Int32} {x : Int} {n : Nat} (h : i.toInt = x) (h0 : 0 ≤ x) (h1 : x < n) : vp_in i n := by
  subst h; exact vp_in_iff.mpr ⟨h0, h1⟩
theorem i_cl {a : Int32} (h : 0 ≤ a.toInt) : (a.toNatClampNeg : Int) = a.toInt := by
  rw [← Int32.toNat_toInt]; omega
theorem l_cmp_lt (x y : Int64) : lg_cmp x y < 0 ↔ x < y := by
  unfold lg_cmp
  by_cases h1 : y < x
  · simp [h1]; exact Int64.le_of_lt h1
  · by_cases h2 : x = y
    · simp [h2]
    · simp [h1, h2]; rcases Int64.lt_or_lt_of_ne h2 with h | h
      · exact h
      · exact absurd h h1
theorem l_cmp_gt (x y : Int64) : 0 < lg_cmp x y ↔ y < x := by
  unfold lg_cmp
  by_cases h1 : y < x
  · simp [h1]
  · by_cases h2 : x = y
    · simp [h2]
    · simp [h1, h2]
theorem l_cmp_eq (x y : Int64) : lg_cmp x y = 0 ↔ x = y := by
  unfold lg_cmp
  by_cases h1 : y < x
  · simp [h1]; intro h; subst h; exact Int64.lt_irrefl h1
  · by_cases h2 : x = y
    · simp [h2]
    · simp [h1, h2]
theorem l_cmp_ge (x y : Int64) : 0 ≤ lg_cmp x y ↔ y ≤ x := by
  rw [← Int32.not_lt, l_cmp_lt, Int64.not_lt]
theorem l_cmp_le (x y : Int64) : lg_cmp x y ≤ 0 ↔ x ≤ y := by
  rw [← Int32.not_lt, l_cmp_gt, Int64.not_lt]
abbrev MS : Type := (Nat → Int32) × Int64 × (Nat → Nat → Int32) × (Nat → Nat → Int64)
def si (σ : MS) (k : Nat) (v : Int32) : MS := (upd σ.1 k v, σ.2)
def sm (σ : MS) (v : Int64) : MS := (σ.1, v, σ.2.2)
def sa (σ : MS) (k j : Nat) (v : Int32) : MS := (σ.1, σ.2.1, (fun q => if q = k then upd (σ.2.2.1 k) j v else σ.2.2.1 q), σ.2.2.2)
def sb (σ : MS) (k j : Nat) (v : Int64) : MS := (σ.1, σ.2.1, σ.2.2.1, fun q => if q = k then vp_updL (σ.2.2.2 k) j v else σ.2.2.2 q)
def mW (h : Nat) (ad : Nat → Nat) (cI cJ : ClassId) (σ : MS) : va_W := [(h, .inr (4, [.ref (ad 0), .int (σ.1 1), .ref (ad 2), .ref (ad 3), .ref (ad 4), .int (σ.1 5), .int (σ.1 6), .ref (ad 7), .ref (ad 8), .ref (ad 9), .ref (ad 10), .int (σ.1 11), .ref (ad 12), .ref (ad 13), .int (σ.1 14), .int (σ.1 15), .int (σ.1 16), .int (σ.1 17), .int (σ.1 18), .long σ.2.1, .int (σ.1 20)])), (ad 0, .inl (cI, 160, .inl (σ.2.2.1 0))), (ad 2, .inl (cJ, 82, .inr (.inl (σ.2.2.2 2)))), (ad 3, .inl (cI, 82, .inl (σ.2.2.1 3))), (ad 4, .inl (cI, 13120, .inl (σ.2.2.1 4))), (ad 7, .inl (cI, 4, .inl (σ.2.2.1 7))), (ad 8, .inl (cI, 1920, .inl (σ.2.2.1 8))), (ad 9, .inl (cI, 12, .inl (σ.2.2.1 9))), (ad 10, .inl (cI, 12, .inl (σ.2.2.1 10))), (ad 12, .inl (cJ, 40, .inr (.inl (σ.2.2.2 12)))), (ad 13, .inl (cI, 40, .inl (σ.2.2.1 13)))]
def mX (p : Program) (s : State) (m : MethodId) (args : Array Value) (c : Code) (cc : ByteArray) (Ts : List Cond) (dC : Nat → ClassId) (dI : Nat → Nat → Nat) (cI cJ : ClassId) : Prop := p.tables.exec = Jvm.exec ∧ c.code = cc ∧ (∀ w ∈ Ts, w.before args s = true) ∧ (∀ w ∈ wsX50, w ∈ Ts) ∧ s.vm.findClass RX5 = some m.cls ∧ va_K (dC, dI) vwCl [(cI, .int), (cJ, .long)] s
def mH (dC : Nat → ClassId) (dI : Nat → Nat → Nat) (h : Nat) (ad : Nat → Nat) (cI cJ : ClassId) (σ : MS) (A : Nat → Prop) (H0 H : Heap) (locs : List Loc) : Prop := va_P (dC, dI) vwCl (mW h ad cI cJ σ) H ∧ va_D A (mW h ad cI cJ σ) ∧ va_S A H0 H locs
def mPre (dC : Nat → ClassId) (dI : Nat → Nat → Nat) (cI cJ : ClassId) (h : Nat) (ad : Nat → Nat) (sz : Nat) (σ : MS) : State → Prop := fun U => U.heap.size = sz ∧ va_P (dC, dI) vwCl (mW h ad cI cJ σ) U.heap ∧ va_K (dC, dI) vwCl [(cI, .int), (cJ, .long)] U ∧ va_D (fun _ => True) (mW h ad cI cJ σ)
def mAt (dC : Nat → ClassId) (dI : Nat → Nat → Nat) (cI cJ : ClassId) (h : Nat) (ad : Nat → Nat) (A : Nat → Prop) (u : MS) (t : State) : Prop := va_P (dC, dI) vwCl (mW h ad cI cJ u) t.heap ∧ va_K (dC, dI) vwCl [(cI, .int), (cJ, .long)] t ∧ va_D A (mW h ad cI cJ u)
abbrev mA (h : Nat) (ad : Nat → Nat) (cI cJ : ClassId) (σ : MS) (sz : Nat) : Nat → Prop := va_A (mW h ad cI cJ σ) sz
def QcReadL (r : Int64) : Array Value → State → Outcome → State → Prop := fun _ st o t => o = .returned (some (.long r)) ∧ t.heap = st.heap
section SB
variable {p : Program} {l : Launch} {e : Env} {R : Room} {s : State} {m : MethodId} {args : Array Value} {below : List Frame} {meth : Method} {c : Code} {H : Heap} {locs : List Loc} {cells slots : Nat} {Q : State → Prop} {g : JFrame} {rest : List Value} {a : Array Value} {cc : ByteArray}
theorem W.callRL {r : Int64} (hr : CallRun p l e R s m args below meth c H locs cells slots 0 0 g rest (QcReadL r a) (fun _ => False)) (kk : W p l e R s m args below meth c H locs cells slots Q { g with pc := g.pc + 3, stack := .long r :: rest }) : W p l e R s m args below meth c H locs cells slots Q g := by
  intro T hT X
  obtain ⟨v, st₀, t, T', L, h0, X', hL, e1, ⟨hv, hh⟩, st⟩ := hr T hT X
  cases hv
  obtain ⟨t2, a1, b1⟩ := kk T' (by rw [e1, hh, h0]) (Stand.forget X' (fun q h => (hL q h).elim))
  exact ⟨t2, st t2 a1, b1⟩
theorem s_ofW {y : MethodName} {ws ws' : List Cond} {rm : Room} {vs : List Value} {Qc : Array Value → State → Outcome → State → Prop} {maxL : Nat} {ret : Option FieldType} {cls : String} (hy : plainName y.cls = true) (hw : ws = Cond.code y cc maxL ret :: ws') (hcls : y.cls = cls) (hvs : (lg_sl vs).length ≤ maxL)
    (body : ∀ (p : Program) (e : Env) (s : State) (m : MethodId) (below : List Frame) (meth : Method) (c : Code), p.tables.exec = Jvm.exec → c.code = cc → (∀ w ∈ ws, w.before vs.toArray s = true) → s.vm.findClass cls = some m.cls → meth.sig.returnType = ret → meth.locks = false → c.maxLocals = maxL → ∀ ls : Array Slot, lv_has ls maxL (lv_args 0 vs) → W p l e rm s m vs.toArray below meth c s.heap [] 0 0 (MQ below Qc vs.toArray s 0 0 (fun _ => False)) (F0 m 0 ls [])) :
    Met l y ws rm (va_Pc vs (fun _ => True)) Qc 0 0 (fun _ => False) := by
  refine Met.ofW (cc := cc) (maxL := maxL) (ret := ret) hy hw ?_
  intro p e s m args below meth c s₁ B hml hv
  obtain ⟨rfl, -⟩ := hv
  have hown : s.vm.findClass y.cls = some m.cls := findClass_of_methodNamed B.named
  rw [hcls] at hown
  rw [lg_entry_eq]
  exact body p e s m below meth c B.exec B.bytes (atoms_spec (ws := ws) B.pre) hown B.returns B.notSynchronized hml _ (lv_entry vs hvs)
end SB
section MB
variable {p : Program} {l : Launch} {e : Env} {R : Room} {s : State} {m : MethodId} {args : Array Value} {below : List Frame} {meth : Method} {c : Code} {H : Heap} {locs : List Loc} {cells slots : Nat} {Q : State → Prop}
variable {cc : ByteArray} {pc : Nat} {ls : Array Slot} {rest st0 : List Value} {A : Nat → Prop} {H0 : Heap} {dC : Nat → ClassId} {dI : Nat → Nat → Nat} {cI cJ : ClassId} {h : Nat} {ad : Nat → Nat} {σ : MS} {Ts : List Cond} {index : Nat}
theorem m_get_0 (X : mX p s m args c cc Ts dC dI cI cJ) (G : mH dC dI h ad cI cJ σ A H0 H locs) (hl : Cond.fieldLink RX5 index "DeskStackModel" "program" "[I" ∈ Ts) (hdg : decode cc pc = .ok (.getfield index, 3)) (kk : W p l e R s m args below meth c H locs cells slots Q (F0 m (pc + 3) ls (.ref (ad 0) :: rest))) : W p l e R s m args below meth c H locs cells slots Q (F0 m pc ls (.ref h :: rest)) := by
  obtain ⟨hx, hb, hts, hin, hown, hK⟩ := X
  exact va_get (D := (dC, dI)) (ci := 4) (C := RX5) (T := TX5) (N := 21) hx hb hts hin hown hK G.1 0 rfl rfl 0 (by decide) (hts _ hl) (fun _ h9 => h9) rfl hdg kk
theorem m_get_1 (X : mX p s m args c cc Ts dC dI cI cJ) (G : mH dC dI h ad cI cJ σ A H0 H locs) (hl : Cond.fieldLink RX5 index "DeskStackModel" "length" "I" ∈ Ts) (hdg : decode cc pc = .ok (.getfield index, 3)) (kk : W p l e R s m args below meth c H locs cells slots Q (F0 m (pc + 3) ls (.int (σ.1 1) :: rest))) : W p l e R s m args below meth c H locs cells slots Q (F0 m pc ls (.ref h :: rest)) := by
  obtain ⟨hx, hb, hts, hin, hown, hK⟩ := X
  exact va_get (D := (dC, dI)) (ci := 4) (C := RX5) (T := TX5) (N := 21) hx hb hts hin hown hK G.1 0 rfl rfl 1 (by decide) (hts _ hl) (fun _ h9 => h9) rfl hdg kk
theorem m_put_1 (X : mX p s m args c cc Ts dC dI cI cJ) (G : mH dC dI h ad cI cJ σ A H0 H locs) {v : Int32} (hl : Cond.fieldLink RX5 index "DeskStackModel" "length" "I" ∈ Ts) (hdg : decode cc pc = .ok (.putfield index, 3)) (kk : ∀ (H1 : Heap) (locs1 : List Loc), mH dC dI h ad cI cJ (si σ 1 v) A H0 H1 locs1 → W p l e R s m args below meth c H1 locs1 cells slots Q (F0 m (pc + 3) ls rest)) : W p l e R s m args below meth c H locs cells slots Q (F0 m pc ls (.int v :: .ref h :: rest)) := by
  obtain ⟨hx, hb, hts, hin, hown, hK⟩ := X
  exact va_put (D := (dC, dI)) (ci := 4) (v := .int v) (ty := .int) (C := RX5) (T := TX5) (N := 21) hx hb hts hin tyX5 tyX5_ok nmX5 hown hK G.1 G.2.1 G.2.2 0 rfl rfl 1 (by decide) (hts _ hl) (fun _ h9 => h9) rfl (by decide +kernel) rfl rfl (Nat.le_of_ble_eq_true rfl) hdg (fun H1 locs1 hP hD hS => kk H1 locs1 ⟨hP, hD, hS⟩)
theorem m_get_2 (X : mX p s m args c cc Ts dC dI cI cJ) (G : mH dC dI h ad cI cJ σ A H0 H locs) (hl : Cond.fieldLink RX5 index "DeskStackModel" "value" "[J" ∈ Ts) (hdg : decode cc pc = .ok (.getfield index, 3)) (kk : W p l e R s m args below meth c H locs cells slots Q (F0 m (pc + 3) ls (.ref (ad 2) :: rest))) : W p l e R s m args below meth c H locs cells slots Q (F0 m pc ls (.ref h :: rest)) := by
  obtain ⟨hx, hb, hts, hin, hown, hK⟩ := X
  exact va_get (D := (dC, dI)) (ci := 4) (C := RX5) (T := TX5) (N := 21) hx hb hts hin hown hK G.1 0 rfl rfl 2 (by decide) (hts _ hl) (fun _ h9 => h9) rfl hdg kk
theorem m_get_3 (X : mX p s m args c cc Ts dC dI cI cJ) (G : mH dC dI h ad cI cJ σ A H0 H locs) (hl : Cond.fieldLink RX5 index "DeskStackModel" "places" "[I" ∈ Ts) (hdg : decode cc pc = .ok (.getfield index, 3)) (kk : W p l e R s m args below meth c H locs cells slots Q (F0 m (pc + 3) ls (.ref (ad 3) :: rest))) : W p l e R s m args below meth c H locs cells slots Q (F0 m pc ls (.ref h :: rest)) := by
  obtain ⟨hx, hb, hts, hin, hown, hK⟩ := X
  exact va_get (D := (dC, dI)) (ci := 4) (C := RX5) (T := TX5) (N := 21) hx hb hts hin hown hK G.1 0 rfl rfl 3 (by decide) (hts _ hl) (fun _ h9 => h9) rfl hdg kk
theorem m_get_4 (X : mX p s m args c cc Ts dC dI cI cJ) (G : mH dC dI h ad cI cJ σ A H0 H locs) (hl : Cond.fieldLink RX5 index "DeskStackModel" "letters" "[I" ∈ Ts) (hdg : decode cc pc = .ok (.getfield index, 3)) (kk : W p l e R s m args below meth c H locs cells slots Q (F0 m (pc + 3) ls (.ref (ad 4) :: rest))) : W p l e R s m args below meth c H locs cells slots Q (F0 m pc ls (.ref h :: rest)) := by
  obtain ⟨hx, hb, hts, hin, hown, hK⟩ := X
  exact va_get (D := (dC, dI)) (ci := 4) (C := RX5) (T := TX5) (N := 21) hx hb hts hin hown hK G.1 0 rfl rfl 4 (by decide) (hts _ hl) (fun _ h9 => h9) rfl hdg kk
theorem m_get_5 (X : mX p s m args c cc Ts dC dI cI cJ) (G : mH dC dI h ad cI cJ σ A H0 H locs) (hl : Cond.fieldLink RX5 index "DeskStackModel" "depth" "I" ∈ Ts) (hdg : decode cc pc = .ok (.getfield index, 3)) (kk : W p l e R s m args below meth c H locs cells slots Q (F0 m (pc + 3) ls (.int (σ.1 5) :: rest))) : W p l e R s m args below meth c H locs cells slots Q (F0 m pc ls (.ref h :: rest)) := by
  obtain ⟨hx, hb, hts, hin, hown, hK⟩ := X
  exact va_get (D := (dC, dI)) (ci := 4) (C := RX5) (T := TX5) (N := 21) hx hb hts hin hown hK G.1 0 rfl rfl 5 (by decide) (hts _ hl) (fun _ h9 => h9) rfl hdg kk
theorem m_put_5 (X : mX p s m args c cc Ts dC dI cI cJ) (G : mH dC dI h ad cI cJ σ A H0 H locs) {v : Int32} (hl : Cond.fieldLink RX5 index "DeskStackModel" "depth" "I" ∈ Ts) (hdg : decode cc pc = .ok (.putfield index, 3)) (kk : ∀ (H1 : Heap) (locs1 : List Loc), mH dC dI h ad cI cJ (si σ 5 v) A H0 H1 locs1 → W p l e R s m args below meth c H1 locs1 cells slots Q (F0 m (pc + 3) ls rest)) : W p l e R s m args below meth c H locs cells slots Q (F0 m pc ls (.int v :: .ref h :: rest)) := by
  obtain ⟨hx, hb, hts, hin, hown, hK⟩ := X
  exact va_put (D := (dC, dI)) (ci := 4) (v := .int v) (ty := .int) (C := RX5) (T := TX5) (N := 21) hx hb hts hin tyX5 tyX5_ok nmX5 hown hK G.1 G.2.1 G.2.2 0 rfl rfl 5 (by decide) (hts _ hl) (fun _ h9 => h9) rfl (by decide +kernel) rfl rfl (Nat.le_of_ble_eq_true rfl) hdg (fun H1 locs1 hP hD hS => kk H1 locs1 ⟨hP, hD, hS⟩)
theorem m_get_6 (X : mX p s m args c cc Ts dC dI cI cJ) (G : mH dC dI h ad cI cJ σ A H0 H locs) (hl : Cond.fieldLink RX5 index "DeskStackModel" "precision" "I" ∈ Ts) (hdg : decode cc pc = .ok (.getfield index, 3)) (kk : W p l e R s m args below meth c H locs cells slots Q (F0 m (pc + 3) ls (.int (σ.1 6) :: rest))) : W p l e R s m args below meth c H locs cells slots Q (F0 m pc ls (.ref h :: rest)) := by
  obtain ⟨hx, hb, hts, hin, hown, hK⟩ := X
  exact va_get (D := (dC, dI)) (ci := 4) (C := RX5) (T := TX5) (N := 21) hx hb hts hin hown hK G.1 0 rfl rfl 6 (by decide) (hts _ hl) (fun _ h9 => h9) rfl hdg kk
theorem m_put_6 (X : mX p s m args c cc Ts dC dI cI cJ) (G : mH dC dI h ad cI cJ σ A H0 H locs) {v : Int32} (hl : Cond.fieldLink RX5 index "DeskStackModel" "precision" "I" ∈ Ts) (hdg : decode cc pc = .ok (.putfield index, 3)) (kk : ∀ (H1 : Heap) (locs1 : List Loc), mH dC dI h ad cI cJ (si σ 6 v) A H0 H1 locs1 → W p l e R s m args below meth c H1 locs1 cells slots Q (F0 m (pc + 3) ls rest)) : W p l e R s m args below meth c H locs cells slots Q (F0 m pc ls (.int v :: .ref h :: rest)) := by
  obtain ⟨hx, hb, hts, hin, hown, hK⟩ := X
  exact va_put (D := (dC, dI)) (ci := 4) (v := .int v) (ty := .int) (C := RX5) (T := TX5) (N := 21) hx hb hts hin tyX5 tyX5_ok nmX5 hown hK G.1 G.2.1 G.2.2 0 rfl rfl 6 (by decide) (hts _ hl) (fun _ h9 => h9) rfl (by decide +kernel) rfl rfl (Nat.le_of_ble_eq_true rfl) hdg (fun H1 locs1 hP hD hS => kk H1 locs1 ⟨hP, hD, hS⟩)
theorem m_get_7 (X : mX p s m args c cc Ts dC dI cI cJ) (G : mH dC dI h ad cI cJ σ A H0 H locs) (hl : Cond.fieldLink RX5 index "DeskStackModel" "held" "[I" ∈ Ts) (hdg : decode cc pc = .ok (.getfield index, 3)) (kk : W p l e R s m args below meth c H locs cells slots Q (F0 m (pc + 3) ls (.ref (ad 7) :: rest))) : W p l e R s m args below meth c H locs cells slots Q (F0 m pc ls (.ref h :: rest)) := by
  obtain ⟨hx, hb, hts, hin, hown, hK⟩ := X
  exact va_get (D := (dC, dI)) (ci := 4) (C := RX5) (T := TX5) (N := 21) hx hb hts hin hown hK G.1 0 rfl rfl 7 (by decide) (hts _ hl) (fun _ h9 => h9) rfl hdg kk
theorem m_get_8 (X : mX p s m args c cc Ts dC dI cI cJ) (G : mH dC dI h ad cI cJ σ A H0 H locs) (hl : Cond.fieldLink RX5 index "DeskStackModel" "text" "[I" ∈ Ts) (hdg : decode cc pc = .ok (.getfield index, 3)) (kk : W p l e R s m args below meth c H locs cells slots Q (F0 m (pc + 3) ls (.ref (ad 8) :: rest))) : W p l e R s m args below meth c H locs cells slots Q (F0 m pc ls (.ref h :: rest)) := by
  obtain ⟨hx, hb, hts, hin, hown, hK⟩ := X
  exact va_get (D := (dC, dI)) (ci := 4) (C := RX5) (T := TX5) (N := 21) hx hb hts hin hown hK G.1 0 rfl rfl 8 (by decide) (hts _ hl) (fun _ h9 => h9) rfl hdg kk
theorem m_get_9 (X : mX p s m args c cc Ts dC dI cI cJ) (G : mH dC dI h ad cI cJ σ A H0 H locs) (hl : Cond.fieldLink RX5 index "DeskStackModel" "size" "[I" ∈ Ts) (hdg : decode cc pc = .ok (.getfield index, 3)) (kk : W p l e R s m args below meth c H locs cells slots Q (F0 m (pc + 3) ls (.ref (ad 9) :: rest))) : W p l e R s m args below meth c H locs cells slots Q (F0 m pc ls (.ref h :: rest)) := by
  obtain ⟨hx, hb, hts, hin, hown, hK⟩ := X
  exact va_get (D := (dC, dI)) (ci := 4) (C := RX5) (T := TX5) (N := 21) hx hb hts hin hown hK G.1 0 rfl rfl 9 (by decide) (hts _ hl) (fun _ h9 => h9) rfl hdg kk
theorem m_get_10 (X : mX p s m args c cc Ts dC dI cI cJ) (G : mH dC dI h ad cI cJ σ A H0 H locs) (hl : Cond.fieldLink RX5 index "DeskStackModel" "at" "[I" ∈ Ts) (hdg : decode cc pc = .ok (.getfield index, 3)) (kk : W p l e R s m args below meth c H locs cells slots Q (F0 m (pc + 3) ls (.ref (ad 10) :: rest))) : W p l e R s m args below meth c H locs cells slots Q (F0 m pc ls (.ref h :: rest)) := by
  obtain ⟨hx, hb, hts, hin, hown, hK⟩ := X
  exact va_get (D := (dC, dI)) (ci := 4) (C := RX5) (T := TX5) (N := 21) hx hb hts hin hown hK G.1 0 rfl rfl 10 (by decide) (hts _ hl) (fun _ h9 => h9) rfl hdg kk
theorem m_get_11 (X : mX p s m args c cc Ts dC dI cI cJ) (G : mH dC dI h ad cI cJ σ A H0 H locs) (hl : Cond.fieldLink RX5 index "DeskStackModel" "levels" "I" ∈ Ts) (hdg : decode cc pc = .ok (.getfield index, 3)) (kk : W p l e R s m args below meth c H locs cells slots Q (F0 m (pc + 3) ls (.int (σ.1 11) :: rest))) : W p l e R s m args below meth c H locs cells slots Q (F0 m pc ls (.ref h :: rest)) := by
  obtain ⟨hx, hb, hts, hin, hown, hK⟩ := X
  exact va_get (D := (dC, dI)) (ci := 4) (C := RX5) (T := TX5) (N := 21) hx hb hts hin hown hK G.1 0 rfl rfl 11 (by decide) (hts _ hl) (fun _ h9 => h9) rfl hdg kk
theorem m_put_11 (X : mX p s m args c cc Ts dC dI cI cJ) (G : mH dC dI h ad cI cJ σ A H0 H locs) {v : Int32} (hl : Cond.fieldLink RX5 index "DeskStackModel" "levels" "I" ∈ Ts) (hdg : decode cc pc = .ok (.putfield index, 3)) (kk : ∀ (H1 : Heap) (locs1 : List Loc), mH dC dI h ad cI cJ (si σ 11 v) A H0 H1 locs1 → W p l e R s m args below meth c H1 locs1 cells slots Q (F0 m (pc + 3) ls rest)) : W p l e R s m args below meth c H locs cells slots Q (F0 m pc ls (.int v :: .ref h :: rest)) := by
  obtain ⟨hx, hb, hts, hin, hown, hK⟩ := X
  exact va_put (D := (dC, dI)) (ci := 4) (v := .int v) (ty := .int) (C := RX5) (T := TX5) (N := 21) hx hb hts hin tyX5 tyX5_ok nmX5 hown hK G.1 G.2.1 G.2.2 0 rfl rfl 11 (by decide) (hts _ hl) (fun _ h9 => h9) rfl (by decide +kernel) rfl rfl (Nat.le_of_ble_eq_true rfl) hdg (fun H1 locs1 hP hD hS => kk H1 locs1 ⟨hP, hD, hS⟩)
theorem m_get_12 (X : mX p s m args c cc Ts dC dI cI cJ) (G : mH dC dI h ad cI cJ σ A H0 H locs) (hl : Cond.fieldLink RX5 index "DeskStackModel" "shown" "[J" ∈ Ts) (hdg : decode cc pc = .ok (.getfield index, 3)) (kk : W p l e R s m args below meth c H locs cells slots Q (F0 m (pc + 3) ls (.ref (ad 12) :: rest))) : W p l e R s m args below meth c H locs cells slots Q (F0 m pc ls (.ref h :: rest)) := by
  obtain ⟨hx, hb, hts, hin, hown, hK⟩ := X
  exact va_get (D := (dC, dI)) (ci := 4) (C := RX5) (T := TX5) (N := 21) hx hb hts hin hown hK G.1 0 rfl rfl 12 (by decide) (hts _ hl) (fun _ h9 => h9) rfl hdg kk
theorem m_get_13 (X : mX p s m args c cc Ts dC dI cI cJ) (G : mH dC dI h ad cI cJ σ A H0 H locs) (hl : Cond.fieldLink RX5 index "DeskStackModel" "shownPlaces" "[I" ∈ Ts) (hdg : decode cc pc = .ok (.getfield index, 3)) (kk : W p l e R s m args below meth c H locs cells slots Q (F0 m (pc + 3) ls (.ref (ad 13) :: rest))) : W p l e R s m args below meth c H locs cells slots Q (F0 m pc ls (.ref h :: rest)) := by
  obtain ⟨hx, hb, hts, hin, hown, hK⟩ := X
  exact va_get (D := (dC, dI)) (ci := 4) (C := RX5) (T := TX5) (N := 21) hx hb hts hin hown hK G.1 0 rfl rfl 13 (by decide) (hts _ hl) (fun _ h9 => h9) rfl hdg kk
theorem m_get_14 (X : mX p s m args c cc Ts dC dI cI cJ) (G : mH dC dI h ad cI cJ σ A H0 H locs) (hl : Cond.fieldLink RX5 index "DeskStackModel" "prints" "I" ∈ Ts) (hdg : decode cc pc = .ok (.getfield index, 3)) (kk : W p l e R s m args below meth c H locs cells slots Q (F0 m (pc + 3) ls (.int (σ.1 14) :: rest))) : W p l e R s m args below meth c H locs cells slots Q (F0 m pc ls (.ref h :: rest)) := by
  obtain ⟨hx, hb, hts, hin, hown, hK⟩ := X
  exact va_get (D := (dC, dI)) (ci := 4) (C := RX5) (T := TX5) (N := 21) hx hb hts hin hown hK G.1 0 rfl rfl 14 (by decide) (hts _ hl) (fun _ h9 => h9) rfl hdg kk
theorem m_put_14 (X : mX p s m args c cc Ts dC dI cI cJ) (G : mH dC dI h ad cI cJ σ A H0 H locs) {v : Int32} (hl : Cond.fieldLink RX5 index "DeskStackModel" "prints" "I" ∈ Ts) (hdg : decode cc pc = .ok (.putfield index, 3)) (kk : ∀ (H1 : Heap) (locs1 : List Loc), mH dC dI h ad cI cJ (si σ 14 v) A H0 H1 locs1 → W p l e R s m args below meth c H1 locs1 cells slots Q (F0 m (pc + 3) ls rest)) : W p l e R s m args below meth c H locs cells slots Q (F0 m pc ls (.int v :: .ref h :: rest)) := by
  obtain ⟨hx, hb, hts, hin, hown, hK⟩ := X
  exact va_put (D := (dC, dI)) (ci := 4) (v := .int v) (ty := .int) (C := RX5) (T := TX5) (N := 21) hx hb hts hin tyX5 tyX5_ok nmX5 hown hK G.1 G.2.1 G.2.2 0 rfl rfl 14 (by decide) (hts _ hl) (fun _ h9 => h9) rfl (by decide +kernel) rfl rfl (Nat.le_of_ble_eq_true rfl) hdg (fun H1 locs1 hP hD hS => kk H1 locs1 ⟨hP, hD, hS⟩)
theorem m_get_15 (X : mX p s m args c cc Ts dC dI cI cJ) (G : mH dC dI h ad cI cJ σ A H0 H locs) (hl : Cond.fieldLink RX5 index "DeskStackModel" "cost" "I" ∈ Ts) (hdg : decode cc pc = .ok (.getfield index, 3)) (kk : W p l e R s m args below meth c H locs cells slots Q (F0 m (pc + 3) ls (.int (σ.1 15) :: rest))) : W p l e R s m args below meth c H locs cells slots Q (F0 m pc ls (.ref h :: rest)) := by
  obtain ⟨hx, hb, hts, hin, hown, hK⟩ := X
  exact va_get (D := (dC, dI)) (ci := 4) (C := RX5) (T := TX5) (N := 21) hx hb hts hin hown hK G.1 0 rfl rfl 15 (by decide) (hts _ hl) (fun _ h9 => h9) rfl hdg kk
theorem m_put_15 (X : mX p s m args c cc Ts dC dI cI cJ) (G : mH dC dI h ad cI cJ σ A H0 H locs) {v : Int32} (hl : Cond.fieldLink RX5 index "DeskStackModel" "cost" "I" ∈ Ts) (hdg : decode cc pc = .ok (.putfield index, 3)) (kk : ∀ (H1 : Heap) (locs1 : List Loc), mH dC dI h ad cI cJ (si σ 15 v) A H0 H1 locs1 → W p l e R s m args below meth c H1 locs1 cells slots Q (F0 m (pc + 3) ls rest)) : W p l e R s m args below meth c H locs cells slots Q (F0 m pc ls (.int v :: .ref h :: rest)) := by
  obtain ⟨hx, hb, hts, hin, hown, hK⟩ := X
  exact va_put (D := (dC, dI)) (ci := 4) (v := .int v) (ty := .int) (C := RX5) (T := TX5) (N := 21) hx hb hts hin tyX5 tyX5_ok nmX5 hown hK G.1 G.2.1 G.2.2 0 rfl rfl 15 (by decide) (hts _ hl) (fun _ h9 => h9) rfl (by decide +kernel) rfl rfl (Nat.le_of_ble_eq_true rfl) hdg (fun H1 locs1 hP hD hS => kk H1 locs1 ⟨hP, hD, hS⟩)
theorem m_get_16 (X : mX p s m args c cc Ts dC dI cI cJ) (G : mH dC dI h ad cI cJ σ A H0 H locs) (hl : Cond.fieldLink RX5 index "DeskStackModel" "fault" "I" ∈ Ts) (hdg : decode cc pc = .ok (.getfield index, 3)) (kk : W p l e R s m args below meth c H locs cells slots Q (F0 m (pc + 3) ls (.int (σ.1 16) :: rest))) : W p l e R s m args below meth c H locs cells slots Q (F0 m pc ls (.ref h :: rest)) := by
  obtain ⟨hx, hb, hts, hin, hown, hK⟩ := X
  exact va_get (D := (dC, dI)) (ci := 4) (C := RX5) (T := TX5) (N := 21) hx hb hts hin hown hK G.1 0 rfl rfl 16 (by decide) (hts _ hl) (fun _ h9 => h9) rfl hdg kk
theorem m_put_16 (X : mX p s m args c cc Ts dC dI cI cJ) (G : mH dC dI h ad cI cJ σ A H0 H locs) {v : Int32} (hl : Cond.fieldLink RX5 index "DeskStackModel" "fault" "I" ∈ Ts) (hdg : decode cc pc = .ok (.putfield index, 3)) (kk : ∀ (H1 : Heap) (locs1 : List Loc), mH dC dI h ad cI cJ (si σ 16 v) A H0 H1 locs1 → W p l e R s m args below meth c H1 locs1 cells slots Q (F0 m (pc + 3) ls rest)) : W p l e R s m args below meth c H locs cells slots Q (F0 m pc ls (.int v :: .ref h :: rest)) := by
  obtain ⟨hx, hb, hts, hin, hown, hK⟩ := X
  exact va_put (D := (dC, dI)) (ci := 4) (v := .int v) (ty := .int) (C := RX5) (T := TX5) (N := 21) hx hb hts hin tyX5 tyX5_ok nmX5 hown hK G.1 G.2.1 G.2.2 0 rfl rfl 16 (by decide) (hts _ hl) (fun _ h9 => h9) rfl (by decide +kernel) rfl rfl (Nat.le_of_ble_eq_true rfl) hdg (fun H1 locs1 hP hD hS => kk H1 locs1 ⟨hP, hD, hS⟩)
theorem m_get_17 (X : mX p s m args c cc Ts dC dI cI cJ) (G : mH dC dI h ad cI cJ σ A H0 H locs) (hl : Cond.fieldLink RX5 index "DeskStackModel" "thrown" "I" ∈ Ts) (hdg : decode cc pc = .ok (.getfield index, 3)) (kk : W p l e R s m args below meth c H locs cells slots Q (F0 m (pc + 3) ls (.int (σ.1 17) :: rest))) : W p l e R s m args below meth c H locs cells slots Q (F0 m pc ls (.ref h :: rest)) := by
  obtain ⟨hx, hb, hts, hin, hown, hK⟩ := X
  exact va_get (D := (dC, dI)) (ci := 4) (C := RX5) (T := TX5) (N := 21) hx hb hts hin hown hK G.1 0 rfl rfl 17 (by decide) (hts _ hl) (fun _ h9 => h9) rfl hdg kk
theorem m_put_17 (X : mX p s m args c cc Ts dC dI cI cJ) (G : mH dC dI h ad cI cJ σ A H0 H locs) {v : Int32} (hl : Cond.fieldLink RX5 index "DeskStackModel" "thrown" "I" ∈ Ts) (hdg : decode cc pc = .ok (.putfield index, 3)) (kk : ∀ (H1 : Heap) (locs1 : List Loc), mH dC dI h ad cI cJ (si σ 17 v) A H0 H1 locs1 → W p l e R s m args below meth c H1 locs1 cells slots Q (F0 m (pc + 3) ls rest)) : W p l e R s m args below meth c H locs cells slots Q (F0 m pc ls (.int v :: .ref h :: rest)) := by
  obtain ⟨hx, hb, hts, hin, hown, hK⟩ := X
  exact va_put (D := (dC, dI)) (ci := 4) (v := .int v) (ty := .int) (C := RX5) (T := TX5) (N := 21) hx hb hts hin tyX5 tyX5_ok nmX5 hown hK G.1 G.2.1 G.2.2 0 rfl rfl 17 (by decide) (hts _ hl) (fun _ h9 => h9) rfl (by decide +kernel) rfl rfl (Nat.le_of_ble_eq_true rfl) hdg (fun H1 locs1 hP hD hS => kk H1 locs1 ⟨hP, hD, hS⟩)
theorem m_get_18 (X : mX p s m args c cc Ts dC dI cI cJ) (G : mH dC dI h ad cI cJ σ A H0 H locs) (hl : Cond.fieldLink RX5 index "DeskStackModel" "over" "Z" ∈ Ts) (hdg : decode cc pc = .ok (.getfield index, 3)) (kk : W p l e R s m args below meth c H locs cells slots Q (F0 m (pc + 3) ls (.int (σ.1 18) :: rest))) : W p l e R s m args below meth c H locs cells slots Q (F0 m pc ls (.ref h :: rest)) := by
  obtain ⟨hx, hb, hts, hin, hown, hK⟩ := X
  exact va_get (D := (dC, dI)) (ci := 4) (C := RX5) (T := TX5) (N := 21) hx hb hts hin hown hK G.1 0 rfl rfl 18 (by decide) (hts _ hl) (fun _ h9 => h9) rfl hdg kk
theorem m_put_18 (X : mX p s m args c cc Ts dC dI cI cJ) (G : mH dC dI h ad cI cJ σ A H0 H locs) {v : Int32} (hz : narrow .boolean (.int v) = .int v) (hf : fits .boolean (.int v) = true) (hl : Cond.fieldLink RX5 index "DeskStackModel" "over" "Z" ∈ Ts) (hdg : decode cc pc = .ok (.putfield index, 3)) (kk : ∀ (H1 : Heap) (locs1 : List Loc), mH dC dI h ad cI cJ (si σ 18 v) A H0 H1 locs1 → W p l e R s m args below meth c H1 locs1 cells slots Q (F0 m (pc + 3) ls rest)) : W p l e R s m args below meth c H locs cells slots Q (F0 m pc ls (.int v :: .ref h :: rest)) := by
  obtain ⟨hx, hb, hts, hin, hown, hK⟩ := X
  exact va_put (D := (dC, dI)) (ci := 4) (v := .int v) (ty := .boolean) (C := RX5) (T := TX5) (N := 21) hx hb hts hin tyX5 tyX5_ok nmX5 hown hK G.1 G.2.1 G.2.2 0 rfl rfl 18 (by decide) (hts _ hl) (fun _ h9 => h9) rfl (by decide +kernel) hz hf (Nat.le_of_ble_eq_true rfl) hdg (fun H1 locs1 hP hD hS => kk H1 locs1 ⟨hP, hD, hS⟩)
theorem m_get_19 (X : mX p s m args c cc Ts dC dI cI cJ) (G : mH dC dI h ad cI cJ σ A H0 H locs) (hl : Cond.fieldLink RX5 index "DeskStackModel" "m" "J" ∈ Ts) (hdg : decode cc pc = .ok (.getfield index, 3)) (kk : W p l e R s m args below meth c H locs cells slots Q (F0 m (pc + 3) ls (.long σ.2.1 :: rest))) : W p l e R s m args below meth c H locs cells slots Q (F0 m pc ls (.ref h :: rest)) := by
  obtain ⟨hx, hb, hts, hin, hown, hK⟩ := X
  exact va_get (D := (dC, dI)) (ci := 4) (C := RX5) (T := TX5) (N := 21) hx hb hts hin hown hK G.1 0 rfl rfl 19 (by decide) (hts _ hl) (fun _ h9 => h9) rfl hdg kk
theorem m_put_19 (X : mX p s m args c cc Ts dC dI cI cJ) (G : mH dC dI h ad cI cJ σ A H0 H locs) {v : Int64} (hl : Cond.fieldLink RX5 index "DeskStackModel" "m" "J" ∈ Ts) (hdg : decode cc pc = .ok (.putfield index, 3)) (kk : ∀ (H1 : Heap) (locs1 : List Loc), mH dC dI h ad cI cJ (sm σ v) A H0 H1 locs1 → W p l e R s m args below meth c H1 locs1 cells slots Q (F0 m (pc + 3) ls rest)) : W p l e R s m args below meth c H locs cells slots Q (F0 m pc ls (.long v :: .ref h :: rest)) := by
  obtain ⟨hx, hb, hts, hin, hown, hK⟩ := X
  exact va_put (D := (dC, dI)) (ci := 4) (v := .long v) (ty := .long) (C := RX5) (T := TX5) (N := 21) hx hb hts hin tyX5 tyX5_ok nmX5 hown hK G.1 G.2.1 G.2.2 0 rfl rfl 19 (by decide) (hts _ hl) (fun _ h9 => h9) rfl (by decide +kernel) rfl rfl (Nat.le_of_ble_eq_true rfl) hdg (fun H1 locs1 hP hD hS => kk H1 locs1 ⟨hP, hD, hS⟩)
theorem m_get_20 (X : mX p s m args c cc Ts dC dI cI cJ) (G : mH dC dI h ad cI cJ σ A H0 H locs) (hl : Cond.fieldLink RX5 index "DeskStackModel" "s" "I" ∈ Ts) (hdg : decode cc pc = .ok (.getfield index, 3)) (kk : W p l e R s m args below meth c H locs cells slots Q (F0 m (pc + 3) ls (.int (σ.1 20) :: rest))) : W p l e R s m args below meth c H locs cells slots Q (F0 m pc ls (.ref h :: rest)) := by
  obtain ⟨hx, hb, hts, hin, hown, hK⟩ := X
  exact va_get (D := (dC, dI)) (ci := 4) (C := RX5) (T := TX5) (N := 21) hx hb hts hin hown hK G.1 0 rfl rfl 20 (by decide) (hts _ hl) (fun _ h9 => h9) rfl hdg kk
theorem m_put_20 (X : mX p s m args c cc Ts dC dI cI cJ) (G : mH dC dI h ad cI cJ σ A H0 H locs) {v : Int32} (hl : Cond.fieldLink RX5 index "DeskStackModel" "s" "I" ∈ Ts) (hdg : decode cc pc = .ok (.putfield index, 3)) (kk : ∀ (H1 : Heap) (locs1 : List Loc), mH dC dI h ad cI cJ (si σ 20 v) A H0 H1 locs1 → W p l e R s m args below meth c H1 locs1 cells slots Q (F0 m (pc + 3) ls rest)) : W p l e R s m args below meth c H locs cells slots Q (F0 m pc ls (.int v :: .ref h :: rest)) := by
  obtain ⟨hx, hb, hts, hin, hown, hK⟩ := X
  exact va_put (D := (dC, dI)) (ci := 4) (v := .int v) (ty := .int) (C := RX5) (T := TX5) (N := 21) hx hb hts hin tyX5 tyX5_ok nmX5 hown hK G.1 G.2.1 G.2.2 0 rfl rfl 20 (by decide) (hts _ hl) (fun _ h9 => h9) rfl (by decide +kernel) rfl rfl (Nat.le_of_ble_eq_true rfl) hdg (fun H1 locs1 hP hD hS => kk H1 locs1 ⟨hP, hD, hS⟩)
theorem m_ld_0 (X : mX p s m args c cc Ts dC dI cI cJ) (G : mH dC dI h ad cI cJ σ A H0 H locs) {i : Int32} (hi : vp_in i 160) (hdg : decode cc pc = .ok (.iaload, 1)) (kk : W p l e R s m args below meth c H locs cells slots Q (F0 m (pc + 1) ls (.int (σ.2.2.1 0 i.toNatClampNeg) :: rest))) : W p l e R s m args below meth c H locs cells slots Q (F0 m pc ls (.int i :: .ref (ad 0) :: rest)) := by
  obtain ⟨hx, hb, hts, hin, hown, hK⟩ := X
  exact va_iald hx hb hK G.1 1 0 rfl rfl hi hdg kk
theorem m_st_0 (X : mX p s m args c cc Ts dC dI cI cJ) (G : mH dC dI h ad cI cJ σ A H0 H locs) {i : Int32} {v : Int32} (hi : vp_in i 160) (hdg : decode cc pc = .ok (.iastore, 1)) (kk : ∀ (H1 : Heap) (locs1 : List Loc), mH dC dI h ad cI cJ (sa σ 0 i.toNatClampNeg v) A H0 H1 locs1 → W p l e R s m args below meth c H1 locs1 cells slots Q (F0 m (pc + 1) ls rest)) : W p l e R s m args below meth c H locs cells slots Q (F0 m pc ls (.int v :: .int i :: .ref (ad 0) :: rest)) := by
  obtain ⟨hx, hb, hts, hin, hown, hK⟩ := X
  exact va_iast hx hb hK G.1 G.2.1 G.2.2 1 0 rfl rfl hi hdg (fun H1 locs1 hP hD hS => kk H1 locs1 ⟨hP, hD, hS⟩)
theorem m_ld_2 (X : mX p s m args c cc Ts dC dI cI cJ) (G : mH dC dI h ad cI cJ σ A H0 H locs) {i : Int32} (hi : vp_in i 82) (hdg : decode cc pc = .ok (.laload, 1)) (kk : W p l e R s m args below meth c H locs cells slots Q (F0 m (pc + 1) ls (.long (σ.2.2.2 2 i.toNatClampNeg) :: rest))) : W p l e R s m args below meth c H locs cells slots Q (F0 m pc ls (.int i :: .ref (ad 2) :: rest)) := by
  obtain ⟨hx, hb, hts, hin, hown, hK⟩ := X
  exact va_lald hx hb hK G.1 2 1 rfl rfl hi hdg kk
theorem m_st_2 (X : mX p s m args c cc Ts dC dI cI cJ) (G : mH dC dI h ad cI cJ σ A H0 H locs) {i : Int32} {v : Int64} (hi : vp_in i 82) (hdg : decode cc pc = .ok (.lastore, 1)) (kk : ∀ (H1 : Heap) (locs1 : List Loc), mH dC dI h ad cI cJ (sb σ 2 i.toNatClampNeg v) A H0 H1 locs1 → W p l e R s m args below meth c H1 locs1 cells slots Q (F0 m (pc + 1) ls rest)) : W p l e R s m args below meth c H locs cells slots Q (F0 m pc ls (.long v :: .int i :: .ref (ad 2) :: rest)) := by
  obtain ⟨hx, hb, hts, hin, hown, hK⟩ := X
  exact va_last hx hb hK G.1 G.2.1 G.2.2 2 1 rfl rfl hi hdg (fun H1 locs1 hP hD hS => kk H1 locs1 ⟨hP, hD, hS⟩)
theorem m_ld_3 (X : mX p s m args c cc Ts dC dI cI cJ) (G : mH dC dI h ad cI cJ σ A H0 H locs) {i : Int32} (hi : vp_in i 82) (hdg : decode cc pc = .ok (.iaload, 1)) (kk : W p l e R s m args below meth c H locs cells slots Q (F0 m (pc + 1) ls (.int (σ.2.2.1 3 i.toNatClampNeg) :: rest))) : W p l e R s m args below meth c H locs cells slots Q (F0 m pc ls (.int i :: .ref (ad 3) :: rest)) := by
  obtain ⟨hx, hb, hts, hin, hown, hK⟩ := X
  exact va_iald hx hb hK G.1 3 0 rfl rfl hi hdg kk
theorem m_st_3 (X : mX p s m args c cc Ts dC dI cI cJ) (G : mH dC dI h ad cI cJ σ A H0 H locs) {i : Int32} {v : Int32} (hi : vp_in i 82) (hdg : decode cc pc = .ok (.iastore, 1)) (kk : ∀ (H1 : Heap) (locs1 : List Loc), mH dC dI h ad cI cJ (sa σ 3 i.toNatClampNeg v) A H0 H1 locs1 → W p l e R s m args below meth c H1 locs1 cells slots Q (F0 m (pc + 1) ls rest)) : W p l e R s m args below meth c H locs cells slots Q (F0 m pc ls (.int v :: .int i :: .ref (ad 3) :: rest)) := by
  obtain ⟨hx, hb, hts, hin, hown, hK⟩ := X
  exact va_iast hx hb hK G.1 G.2.1 G.2.2 3 0 rfl rfl hi hdg (fun H1 locs1 hP hD hS => kk H1 locs1 ⟨hP, hD, hS⟩)
theorem m_ld_4 (X : mX p s m args c cc Ts dC dI cI cJ) (G : mH dC dI h ad cI cJ σ A H0 H locs) {i : Int32} (hi : vp_in i 13120) (hdg : decode cc pc = .ok (.iaload, 1)) (kk : W p l e R s m args below meth c H locs cells slots Q (F0 m (pc + 1) ls (.int (σ.2.2.1 4 i.toNatClampNeg) :: rest))) : W p l e R s m args below meth c H locs cells slots Q (F0 m pc ls (.int i :: .ref (ad 4) :: rest)) := by
  obtain ⟨hx, hb, hts, hin, hown, hK⟩ := X
  exact va_iald hx hb hK G.1 4 0 rfl rfl hi hdg kk
theorem m_st_4 (X : mX p s m args c cc Ts dC dI cI cJ) (G : mH dC dI h ad cI cJ σ A H0 H locs) {i : Int32} {v : Int32} (hi : vp_in i 13120) (hdg : decode cc pc = .ok (.iastore, 1)) (kk : ∀ (H1 : Heap) (locs1 : List Loc), mH dC dI h ad cI cJ (sa σ 4 i.toNatClampNeg v) A H0 H1 locs1 → W p l e R s m args below meth c H1 locs1 cells slots Q (F0 m (pc + 1) ls rest)) : W p l e R s m args below meth c H locs cells slots Q (F0 m pc ls (.int v :: .int i :: .ref (ad 4) :: rest)) := by
  obtain ⟨hx, hb, hts, hin, hown, hK⟩ := X
  exact va_iast hx hb hK G.1 G.2.1 G.2.2 4 0 rfl rfl hi hdg (fun H1 locs1 hP hD hS => kk H1 locs1 ⟨hP, hD, hS⟩)
theorem m_ld_7 (X : mX p s m args c cc Ts dC dI cI cJ) (G : mH dC dI h ad cI cJ σ A H0 H locs) {i : Int32} (hi : vp_in i 4) (hdg : decode cc pc = .ok (.iaload, 1)) (kk : W p l e R s m args below meth c H locs cells slots Q (F0 m (pc + 1) ls (.int (σ.2.2.1 7 i.toNatClampNeg) :: rest))) : W p l e R s m args below meth c H locs cells slots Q (F0 m pc ls (.int i :: .ref (ad 7) :: rest)) := by
  obtain ⟨hx, hb, hts, hin, hown, hK⟩ := X
  exact va_iald hx hb hK G.1 5 0 rfl rfl hi hdg kk
theorem m_st_7 (X : mX p s m args c cc Ts dC dI cI cJ) (G : mH dC dI h ad cI cJ σ A H0 H locs) {i : Int32} {v : Int32} (hi : vp_in i 4) (hdg : decode cc pc = .ok (.iastore, 1)) (kk : ∀ (H1 : Heap) (locs1 : List Loc), mH dC dI h ad cI cJ (sa σ 7 i.toNatClampNeg v) A H0 H1 locs1 → W p l e R s m args below meth c H1 locs1 cells slots Q (F0 m (pc + 1) ls rest)) : W p l e R s m args below meth c H locs cells slots Q (F0 m pc ls (.int v :: .int i :: .ref (ad 7) :: rest)) := by
  obtain ⟨hx, hb, hts, hin, hown, hK⟩ := X
  exact va_iast hx hb hK G.1 G.2.1 G.2.2 5 0 rfl rfl hi hdg (fun H1 locs1 hP hD hS => kk H1 locs1 ⟨hP, hD, hS⟩)
theorem m_ld_8 (X : mX p s m args c cc Ts dC dI cI cJ) (G : mH dC dI h ad cI cJ σ A H0 H locs) {i : Int32} (hi : vp_in i 1920) (hdg : decode cc pc = .ok (.iaload, 1)) (kk : W p l e R s m args below meth c H locs cells slots Q (F0 m (pc + 1) ls (.int (σ.2.2.1 8 i.toNatClampNeg) :: rest))) : W p l e R s m args below meth c H locs cells slots Q (F0 m pc ls (.int i :: .ref (ad 8) :: rest)) := by
  obtain ⟨hx, hb, hts, hin, hown, hK⟩ := X
  exact va_iald hx hb hK G.1 6 0 rfl rfl hi hdg kk
theorem m_st_8 (X : mX p s m args c cc Ts dC dI cI cJ) (G : mH dC dI h ad cI cJ σ A H0 H locs) {i : Int32} {v : Int32} (hi : vp_in i 1920) (hdg : decode cc pc = .ok (.iastore, 1)) (kk : ∀ (H1 : Heap) (locs1 : List Loc), mH dC dI h ad cI cJ (sa σ 8 i.toNatClampNeg v) A H0 H1 locs1 → W p l e R s m args below meth c H1 locs1 cells slots Q (F0 m (pc + 1) ls rest)) : W p l e R s m args below meth c H locs cells slots Q (F0 m pc ls (.int v :: .int i :: .ref (ad 8) :: rest)) := by
  obtain ⟨hx, hb, hts, hin, hown, hK⟩ := X
  exact va_iast hx hb hK G.1 G.2.1 G.2.2 6 0 rfl rfl hi hdg (fun H1 locs1 hP hD hS => kk H1 locs1 ⟨hP, hD, hS⟩)
theorem m_ld_9 (X : mX p s m args c cc Ts dC dI cI cJ) (G : mH dC dI h ad cI cJ σ A H0 H locs) {i : Int32} (hi : vp_in i 12) (hdg : decode cc pc = .ok (.iaload, 1)) (kk : W p l e R s m args below meth c H locs cells slots Q (F0 m (pc + 1) ls (.int (σ.2.2.1 9 i.toNatClampNeg) :: rest))) : W p l e R s m args below meth c H locs cells slots Q (F0 m pc ls (.int i :: .ref (ad 9) :: rest)) := by
  obtain ⟨hx, hb, hts, hin, hown, hK⟩ := X
  exact va_iald hx hb hK G.1 7 0 rfl rfl hi hdg kk
theorem m_st_9 (X : mX p s m args c cc Ts dC dI cI cJ) (G : mH dC dI h ad cI cJ σ A H0 H locs) {i : Int32} {v : Int32} (hi : vp_in i 12) (hdg : decode cc pc = .ok (.iastore, 1)) (kk : ∀ (H1 : Heap) (locs1 : List Loc), mH dC dI h ad cI cJ (sa σ 9 i.toNatClampNeg v) A H0 H1 locs1 → W p l e R s m args below meth c H1 locs1 cells slots Q (F0 m (pc + 1) ls rest)) : W p l e R s m args below meth c H locs cells slots Q (F0 m pc ls (.int v :: .int i :: .ref (ad 9) :: rest)) := by
  obtain ⟨hx, hb, hts, hin, hown, hK⟩ := X
  exact va_iast hx hb hK G.1 G.2.1 G.2.2 7 0 rfl rfl hi hdg (fun H1 locs1 hP hD hS => kk H1 locs1 ⟨hP, hD, hS⟩)
theorem m_ld_10 (X : mX p s m args c cc Ts dC dI cI cJ) (G : mH dC dI h ad cI cJ σ A H0 H locs) {i : Int32} (hi : vp_in i 12) (hdg : decode cc pc = .ok (.iaload, 1)) (kk : W p l e R s m args below meth c H locs cells slots Q (F0 m (pc + 1) ls (.int (σ.2.2.1 10 i.toNatClampNeg) :: rest))) : W p l e R s m args below meth c H locs cells slots Q (F0 m pc ls (.int i :: .ref (ad 10) :: rest)) := by
  obtain ⟨hx, hb, hts, hin, hown, hK⟩ := X
  exact va_iald hx hb hK G.1 8 0 rfl rfl hi hdg kk
theorem m_st_10 (X : mX p s m args c cc Ts dC dI cI cJ) (G : mH dC dI h ad cI cJ σ A H0 H locs) {i : Int32} {v : Int32} (hi : vp_in i 12) (hdg : decode cc pc = .ok (.iastore, 1)) (kk : ∀ (H1 : Heap) (locs1 : List Loc), mH dC dI h ad cI cJ (sa σ 10 i.toNatClampNeg v) A H0 H1 locs1 → W p l e R s m args below meth c H1 locs1 cells slots Q (F0 m (pc + 1) ls rest)) : W p l e R s m args below meth c H locs cells slots Q (F0 m pc ls (.int v :: .int i :: .ref (ad 10) :: rest)) := by
  obtain ⟨hx, hb, hts, hin, hown, hK⟩ := X
  exact va_iast hx hb hK G.1 G.2.1 G.2.2 8 0 rfl rfl hi hdg (fun H1 locs1 hP hD hS => kk H1 locs1 ⟨hP, hD, hS⟩)
theorem m_ld_12 (X : mX p s m args c cc Ts dC dI cI cJ) (G : mH dC dI h ad cI cJ σ A H0 H locs) {i : Int32} (hi : vp_in i 40) (hdg : decode cc pc = .ok (.laload, 1)) (kk : W p l e R s m args below meth c H locs cells slots Q (F0 m (pc + 1) ls (.long (σ.2.2.2 12 i.toNatClampNeg) :: rest))) : W p l e R s m args below meth c H locs cells slots Q (F0 m pc ls (.int i :: .ref (ad 12) :: rest)) := by
  obtain ⟨hx, hb, hts, hin, hown, hK⟩ := X
  exact va_lald hx hb hK G.1 9 1 rfl rfl hi hdg kk
theorem m_st_12 (X : mX p s m args c cc Ts dC dI cI cJ) (G : mH dC dI h ad cI cJ σ A H0 H locs) {i : Int32} {v : Int64} (hi : vp_in i 40) (hdg : decode cc pc = .ok (.lastore, 1)) (kk : ∀ (H1 : Heap) (locs1 : List Loc), mH dC dI h ad cI cJ (sb σ 12 i.toNatClampNeg v) A H0 H1 locs1 → W p l e R s m args below meth c H1 locs1 cells slots Q (F0 m (pc + 1) ls rest)) : W p l e R s m args below meth c H locs cells slots Q (F0 m pc ls (.long v :: .int i :: .ref (ad 12) :: rest)) := by
  obtain ⟨hx, hb, hts, hin, hown, hK⟩ := X
  exact va_last hx hb hK G.1 G.2.1 G.2.2 9 1 rfl rfl hi hdg (fun H1 locs1 hP hD hS => kk H1 locs1 ⟨hP, hD, hS⟩)
theorem m_ld_13 (X : mX p s m args c cc Ts dC dI cI cJ) (G : mH dC dI h ad cI cJ σ A H0 H locs) {i : Int32} (hi : vp_in i 40) (hdg : decode cc pc = .ok (.iaload, 1)) (kk : W p l e R s m args below meth c H locs cells slots Q (F0 m (pc + 1) ls (.int (σ.2.2.1 13 i.toNatClampNeg) :: rest))) : W p l e R s m args below meth c H locs cells slots Q (F0 m pc ls (.int i :: .ref (ad 13) :: rest)) := by
  obtain ⟨hx, hb, hts, hin, hown, hK⟩ := X
  exact va_iald hx hb hK G.1 10 0 rfl rfl hi hdg kk
theorem m_st_13 (X : mX p s m args c cc Ts dC dI cI cJ) (G : mH dC dI h ad cI cJ σ A H0 H locs) {i : Int32} {v : Int32} (hi : vp_in i 40) (hdg : decode cc pc = .ok (.iastore, 1)) (kk : ∀ (H1 : Heap) (locs1 : List Loc), mH dC dI h ad cI cJ (sa σ 13 i.toNatClampNeg v) A H0 H1 locs1 → W p l e R s m args below meth c H1 locs1 cells slots Q (F0 m (pc + 1) ls rest)) : W p l e R s m args below meth c H locs cells slots Q (F0 m pc ls (.int v :: .int i :: .ref (ad 13) :: rest)) := by
  obtain ⟨hx, hb, hts, hin, hown, hK⟩ := X
  exact va_iast hx hb hK G.1 G.2.1 G.2.2 10 0 rfl rfl hi hdg (fun H1 locs1 hP hD hS => kk H1 locs1 ⟨hP, hD, hS⟩)
theorem m_iret {A1 : Nat → Prop} {v : Int32} {post : Int32 → MS → Prop} (X : mX p s m args c cc Ts dC dI cI cJ) (G : mH dC dI h ad cI cJ σ A1 s.heap H locs) (hr : meth.sig.returnType = some .int) (hlocks : meth.locks = false) (hq : post v σ) (hdg : decode cc pc = .ok (.ireturn, 1)) : W p l e R s m args below meth c H locs cells slots (MQ below (va_Qi post (mAt dC dI cI cJ h ad A1) A1) args s cells slots A1) (F0 m pc ls [.int v]) := by
  obtain ⟨hx, hb, hts, hin, hown, hK⟩ := X
  exact W.iret hx hb hr (fun t ht hW => ⟨⟨v, σ, rfl, hq, by rw [ht]; exact G.1, va_K.moved hW.alike hK, G.2.1⟩, G.2.2.F ht⟩) G.2.2.2.2 hdg hlocks
theorem m_lret {A1 : Nat → Prop} {v : Int64} {post : Int64 → MS → Prop} (X : mX p s m args c cc Ts dC dI cI cJ) (G : mH dC dI h ad cI cJ σ A1 s.heap H locs) (hr : meth.sig.returnType = some .long) (hlocks : meth.locks = false) (hq : post v σ) (hdg : decode cc pc = .ok (.lreturn, 1)) : W p l e R s m args below meth c H locs cells slots (MQ below (va_Ql post (mAt dC dI cI cJ h ad A1) A1) args s cells slots A1) (F0 m pc ls [.long v]) := by
  obtain ⟨hx, hb, hts, hin, hown, hK⟩ := X
  exact W.lret hx hb hr (fun t ht hW => ⟨⟨v, σ, rfl, hq, by rw [ht]; exact G.1, va_K.moved hW.alike hK, G.2.1⟩, G.2.2.F ht⟩) G.2.2.2.2 hdg hlocks
theorem m_zret {A1 : Nat → Prop} {v : Int32} {post : Int32 → MS → Prop} (X : mX p s m args c cc Ts dC dI cI cJ) (G : mH dC dI h ad cI cJ σ A1 s.heap H locs) (hr : meth.sig.returnType = some .boolean) (hlocks : meth.locks = false) (hn : narrow .boolean (.int v) = .int v) (hq : post v σ) (hdg : decode cc pc = .ok (.ireturn, 1)) : W p l e R s m args below meth c H locs cells slots (MQ below (va_Qi post (mAt dC dI cI cJ h ad A1) A1) args s cells slots A1) (F0 m pc ls [.int v]) := by
  obtain ⟨hx, hb, hts, hin, hown, hK⟩ := X
  exact W.zret hx hb hr hn (fun t ht hW => ⟨⟨v, σ, rfl, hq, by rw [ht]; exact G.1, va_K.moved hW.alike hK, G.2.1⟩, G.2.2.F ht⟩) G.2.2.2.2 hdg hlocks
theorem m_vret {A1 : Nat → Prop} {post : MS → Prop} (X : mX p s m args c cc Ts dC dI cI cJ) (G : mH dC dI h ad cI cJ σ A1 s.heap H locs) (hr : meth.sig.returnType = none) (hlocks : meth.locks = false) (hq : post σ) (hdg : decode cc pc = .ok (.return_, 1)) : W p l e R s m args below meth c H locs cells slots (MQ below (va_Qv post (mAt dC dI cI cJ h ad A1) A1) args s cells slots A1) (F0 m pc ls []) := by
  obtain ⟨hx, hb, hts, hin, hown, hK⟩ := X
  exact W.vret hx hb hr (fun t ht hW => ⟨⟨σ, rfl, hq, by rw [ht]; exact G.1, va_K.moved hW.alike hK, G.2.1⟩, G.2.2.F ht⟩) G.2.2.2.2 hdg hlocks
theorem m_calli {y : MethodName} {bytes : ByteArray} {maxL nL n : Nat} {ret : Option FieldType} {ws : List Cond} {rm : Room} {As : List Value} {post : Int32 → MS → Prop} (X : mX p s m args c cc Ts dC dI cI cJ) (hml : c.maxLocals = nL) (G : mH dC dI h ad cI cJ σ A H0 H locs) (hA : ∀ q : Nat, H0.size ≤ q → A q) (hM : Met l y ws rm (va_Pc (.ref h :: As) (mPre dC dI cI cJ h ad H.size σ)) (va_Qi post (mAt dC dI cI cJ h ad (mA h ad cI cJ σ H.size)) (mA h ad cI cJ σ H.size)) 0 0 (mA h ad cI cJ σ H.size)) (cw : CallW R s args RX5 RX5 index y bytes maxL ret ws rm 0 0 n) (hn : As.length = n) (hsize : ls.size = nL) (hst : st0 = As.reverse ++ .ref h :: rest) (hW : (rest.map fun v => v.category).sum ≤ 8) (hdg : decode cc pc = .ok (.invokevirtual index, 3)) (hf : cells ≤ R.cells ∧ slots ≤ R.slots) (kk : ∀ (r : Int32) (u : MS) (H1 : Heap) (locs1 : List Loc), post r u → mH dC dI h ad cI cJ u A H0 H1 locs1 → W p l e R s m args below meth c H1 locs1 cells slots Q (F0 m (pc + 3) ls (.int r :: rest))) : W p l e R s m args below meth c H locs cells slots Q (F0 m pc ls st0) := by
  obtain ⟨hx, hb, hts, hin, hown, hK⟩ := X
  obtain ⟨hP, hD, hS⟩ := G
  have hFc := va_free (wc := mW h ad cI cJ σ) hD hS hA [0, 1, 2, 3, 4, 5, 6, 7, 8, 9, 10] rfl
  refine va_calli (va_runV (As := As) (rest := rest) ⟨hx, hb, hml, hown, hts⟩ hM cw ⟨fun a U g mk q => by obtain ⟨q0, q1, qP, qK, qD⟩ := q; exact ⟨q0, q1, qP, va_K.moved (u := U) (U := U.calling g mk a) (Vm.Alike.refl U.vm) qK, qD⟩, va_recv hK hP (ci := 4) (q0 := 0) rfl rfl, fun U hU hW => ⟨rfl, by rw [hU], by rw [hU]; exact hP, va_K.moved hW.alike hK, hD.weaken (fun _ _ _ _ => trivial)⟩⟩ rfl hn hsize hst (lv_room hW) hdg hf) hS (fun q _ h => hFc q h) hFc (fun r u t H1 locs ht hvm hw hB hz1 hk1 hS => ?_)
  obtain ⟨hP1, hK1, hD1⟩ := hB
  rw [ht] at hP1
  obtain ⟨hP, hD⟩ := va_join (wr := []) (w1 := mW h ad cI cJ u) hP hD [0, 1, 2, 3, 4, 5, 6, 7, 8, 9, 10] [] rfl rfl (by decide) (by decide) hk1 hFc hP1 hD1
  exact kk r u H1 locs hw ⟨hP, hD, hS⟩
theorem m_calll {y : MethodName} {bytes : ByteArray} {maxL nL n : Nat} {ret : Option FieldType} {ws : List Cond} {rm : Room} {As : List Value} {post : Int64 → MS → Prop} (X : mX p s m args c cc Ts dC dI cI cJ) (hml : c.maxLocals = nL) (G : mH dC dI h ad cI cJ σ A H0 H locs) (hA : ∀ q : Nat, H0.size ≤ q → A q) (hM : Met l y ws rm (va_Pc (.ref h :: As) (mPre dC dI cI cJ h ad H.size σ)) (va_Ql post (mAt dC dI cI cJ h ad (mA h ad cI cJ σ H.size)) (mA h ad cI cJ σ H.size)) 0 0 (mA h ad cI cJ σ H.size)) (cw : CallW R s args RX5 RX5 index y bytes maxL ret ws rm 0 0 n) (hn : As.length = n) (hsize : ls.size = nL) (hst : st0 = As.reverse ++ .ref h :: rest) (hW : (rest.map fun v => v.category).sum ≤ 8) (hdg : decode cc pc = .ok (.invokevirtual index, 3)) (hf : cells ≤ R.cells ∧ slots ≤ R.slots) (kk : ∀ (r : Int64) (u : MS) (H1 : Heap) (locs1 : List Loc), post r u → mH dC dI h ad cI cJ u A H0 H1 locs1 → W p l e R s m args below meth c H1 locs1 cells slots Q (F0 m (pc + 3) ls (.long r :: rest))) : W p l e R s m args below meth c H locs cells slots Q (F0 m pc ls st0) := by
  obtain ⟨hx, hb, hts, hin, hown, hK⟩ := X
  obtain ⟨hP, hD, hS⟩ := G
  have hFc := va_free (wc := mW h ad cI cJ σ) hD hS hA [0, 1, 2, 3, 4, 5, 6, 7, 8, 9, 10] rfl
  refine va_calll (va_runV (As := As) (rest := rest) ⟨hx, hb, hml, hown, hts⟩ hM cw ⟨fun a U g mk q => by obtain ⟨q0, q1, qP, qK, qD⟩ := q; exact ⟨q0, q1, qP, va_K.moved (u := U) (U := U.calling g mk a) (Vm.Alike.refl U.vm) qK, qD⟩, va_recv hK hP (ci := 4) (q0 := 0) rfl rfl, fun U hU hW => ⟨rfl, by rw [hU], by rw [hU]; exact hP, va_K.moved hW.alike hK, hD.weaken (fun _ _ _ _ => trivial)⟩⟩ rfl hn hsize hst (lv_room hW) hdg hf) hS (fun q _ h => hFc q h) hFc (fun r u t H1 locs ht hvm hw hB hz1 hk1 hS => ?_)
  obtain ⟨hP1, hK1, hD1⟩ := hB
  rw [ht] at hP1
  obtain ⟨hP, hD⟩ := va_join (wr := []) (w1 := mW h ad cI cJ u) hP hD [0, 1, 2, 3, 4, 5, 6, 7, 8, 9, 10] [] rfl rfl (by decide) (by decide) hk1 hFc hP1 hD1
  exact kk r u H1 locs hw ⟨hP, hD, hS⟩
theorem m_callv {y : MethodName} {bytes : ByteArray} {maxL nL n : Nat} {ret : Option FieldType} {ws : List Cond} {rm : Room} {As : List Value} {post : MS → Prop} (X : mX p s m args c cc Ts dC dI cI cJ) (hml : c.maxLocals = nL) (G : mH dC dI h ad cI cJ σ A H0 H locs) (hA : ∀ q : Nat, H0.size ≤ q → A q) (hM : Met l y ws rm (va_Pc (.ref h :: As) (mPre dC dI cI cJ h ad H.size σ)) (va_Qv post (mAt dC dI cI cJ h ad (mA h ad cI cJ σ H.size)) (mA h ad cI cJ σ H.size)) 0 0 (mA h ad cI cJ σ H.size)) (cw : CallW R s args RX5 RX5 index y bytes maxL ret ws rm 0 0 n) (hn : As.length = n) (hsize : ls.size = nL) (hst : st0 = As.reverse ++ .ref h :: rest) (hW : (rest.map fun v => v.category).sum ≤ 8) (hdg : decode cc pc = .ok (.invokevirtual index, 3)) (hf : cells ≤ R.cells ∧ slots ≤ R.slots) (kk : ∀ (u : MS) (H1 : Heap) (locs1 : List Loc), post u → mH dC dI h ad cI cJ u A H0 H1 locs1 → W p l e R s m args below meth c H1 locs1 cells slots Q (F0 m (pc + 3) ls (rest))) : W p l e R s m args below meth c H locs cells slots Q (F0 m pc ls st0) := by
  obtain ⟨hx, hb, hts, hin, hown, hK⟩ := X
  obtain ⟨hP, hD, hS⟩ := G
  have hFc := va_free (wc := mW h ad cI cJ σ) hD hS hA [0, 1, 2, 3, 4, 5, 6, 7, 8, 9, 10] rfl
  refine va_callv (va_runV (As := As) (rest := rest) ⟨hx, hb, hml, hown, hts⟩ hM cw ⟨fun a U g mk q => by obtain ⟨q0, q1, qP, qK, qD⟩ := q; exact ⟨q0, q1, qP, va_K.moved (u := U) (U := U.calling g mk a) (Vm.Alike.refl U.vm) qK, qD⟩, va_recv hK hP (ci := 4) (q0 := 0) rfl rfl, fun U hU hW => ⟨rfl, by rw [hU], by rw [hU]; exact hP, va_K.moved hW.alike hK, hD.weaken (fun _ _ _ _ => trivial)⟩⟩ rfl hn hsize hst (lv_room hW) hdg hf) hS (fun q _ h => hFc q h) hFc (fun u t H1 locs ht hvm hw hB hz1 hk1 hS => ?_)
  obtain ⟨hP1, hK1, hD1⟩ := hB
  rw [ht] at hP1
  obtain ⟨hP, hD⟩ := va_join (wr := []) (w1 := mW h ad cI cJ u) hP hD [0, 1, 2, 3, 4, 5, 6, 7, 8, 9, 10] [] rfl rfl (by decide) (by decide) hk1 hFc hP1 hD1
  exact kk u H1 locs hw ⟨hP, hD, hS⟩
theorem m_ofW {y : MethodName} {ws ws' : List Cond} {rm : Room} {vs : List Value} {Qc : Array Value → State → Outcome → State → Prop} {mc ms maxL sz : Nat} {ret : Option FieldType} (hy : plainName y.cls = true) (hw : ws = Cond.code y cc maxL ret :: ws') (hin : ∀ w ∈ wsX50, w ∈ ws) (hcls : y.cls = RX5) (hvs : (lg_sl vs).length ≤ maxL)
    (body : ∀ (p : Program) (e : Env) (s : State) (m : MethodId) (below : List Frame) (meth : Method) (c : Code), mX p s m vs.toArray c cc ws dC dI cI cJ → mH dC dI h ad cI cJ σ (mA h ad cI cJ σ sz) s.heap s.heap [] → (∀ q : Nat, s.heap.size ≤ q → mA h ad cI cJ σ sz q) → meth.sig.returnType = ret → meth.locks = false → c.maxLocals = maxL → ∀ ls : Array Slot, lv_has ls maxL (lv_args 0 vs) → W p l e rm s m vs.toArray below meth c s.heap [] 0 0 (MQ below Qc vs.toArray s mc ms (mA h ad cI cJ σ sz)) (F0 m 0 ls [])) :
    Met l y ws rm (va_Pc vs (mPre dC dI cI cJ h ad sz σ)) Qc mc ms (mA h ad cI cJ σ sz) := by
  refine Met.ofW (cc := cc) (maxL := maxL) (ret := ret) hy hw ?_
  intro p e s m args below meth c s₁ B hml hv
  obtain ⟨rfl, hsz, hP, hK, hD0⟩ := hv
  subst hsz
  have hown : s.vm.findClass y.cls = some m.cls := findClass_of_methodNamed B.named
  rw [hcls] at hown
  rw [lg_entry_eq]
  exact body p e s m below meth c ⟨B.exec, B.bytes, atoms_spec (ws := ws) B.pre, hin, hown, hK⟩ ⟨hP, hD0.self, va_S.rf⟩ (fun q h => Or.inr h) B.returns B.notSynchronized hml _ (lv_entry vs hvs)
end MB
end
section
theorem dJ13_compare_74951_0 : decode cJ13_compare_74951 0 = .ok (.lload_n 0, 1) := by decide +kernel
theorem dJ13_compare_74951_1 : decode cJ13_compare_74951 1 = .ok (.lload_n 2, 1) := by decide +kernel
theorem dJ13_compare_74951_2 : decode cJ13_compare_74951 2 = .ok (.lcmp, 1) := by decide +kernel
theorem dJ13_compare_74951_3 : decode cJ13_compare_74951 3 = .ok (.ifCond .ge 7, 3) := by decide +kernel
theorem dJ13_compare_74951_6 : decode cJ13_compare_74951 6 = .ok (.iconst (-1), 1) := by decide +kernel
theorem dJ13_compare_74951_7 : decode cJ13_compare_74951 7 = .ok (.goto 14, 3) := by decide +kernel
theorem dJ13_compare_74951_10 : decode cJ13_compare_74951 10 = .ok (.lload_n 0, 1) := by decide +kernel
theorem dJ13_compare_74951_11 : decode cJ13_compare_74951 11 = .ok (.lload_n 2, 1) := by decide +kernel
theorem dJ13_compare_74951_12 : decode cJ13_compare_74951 12 = .ok (.lcmp, 1) := by decide +kernel
theorem dJ13_compare_74951_13 : decode cJ13_compare_74951 13 = .ok (.ifCond .ne 7, 3) := by decide +kernel
theorem dJ13_compare_74951_16 : decode cJ13_compare_74951 16 = .ok (.iconst 0, 1) := by decide +kernel
theorem dJ13_compare_74951_17 : decode cJ13_compare_74951 17 = .ok (.goto 4, 3) := by decide +kernel
theorem dJ13_compare_74951_20 : decode cJ13_compare_74951 20 = .ok (.iconst 1, 1) := by decide +kernel
theorem dJ13_compare_74951_21 : decode cJ13_compare_74951 21 = .ok (.ireturn, 1) := by decide +kernel
theorem dJ9_abs_067f4_0 : decode cJ9_abs_067f4 0 = .ok (.lload_n 0, 1) := by decide +kernel
theorem dJ9_abs_067f4_1 : decode cJ9_abs_067f4 1 = .ok (.lconst 0, 1) := by decide +kernel
theorem dJ9_abs_067f4_2 : decode cJ9_abs_067f4 2 = .ok (.lcmp, 1) := by decide +kernel
theorem dJ9_abs_067f4_3 : decode cJ9_abs_067f4 3 = .ok (.ifCond .ge 8, 3) := by decide +kernel
theorem dJ9_abs_067f4_6 : decode cJ9_abs_067f4 6 = .ok (.lload_n 0, 1) := by decide +kernel
theorem dJ9_abs_067f4_7 : decode cJ9_abs_067f4 7 = .ok (.lneg, 1) := by decide +kernel
theorem dJ9_abs_067f4_8 : decode cJ9_abs_067f4 8 = .ok (.goto 4, 3) := by decide +kernel
theorem dJ9_abs_067f4_11 : decode cJ9_abs_067f4 11 = .ok (.lload_n 0, 1) := by decide +kernel
theorem dJ9_abs_067f4_12 : decode cJ9_abs_067f4 12 = .ok (.lreturn, 1) := by decide +kernel
theorem dJ9_max_7cf53_0 : decode cJ9_max_7cf53 0 = .ok (.iload_n 0, 1) := by decide +kernel
theorem dJ9_max_7cf53_1 : decode cJ9_max_7cf53 1 = .ok (.iload_n 1, 1) := by decide +kernel
theorem dJ9_max_7cf53_2 : decode cJ9_max_7cf53 2 = .ok (.if_icmp .lt 7, 3) := by decide +kernel
theorem dJ9_max_7cf53_5 : decode cJ9_max_7cf53 5 = .ok (.iload_n 0, 1) := by decide +kernel
theorem dJ9_max_7cf53_6 : decode cJ9_max_7cf53 6 = .ok (.goto 4, 3) := by decide +kernel
theorem dJ9_max_7cf53_9 : decode cJ9_max_7cf53 9 = .ok (.iload_n 1, 1) := by decide +kernel
theorem dJ9_max_7cf53_10 : decode cJ9_max_7cf53 10 = .ok (.ireturn, 1) := by decide +kernel
theorem dJ9_min_7cf53_0 : decode cJ9_min_7cf53 0 = .ok (.iload_n 0, 1) := by decide +kernel
theorem dJ9_min_7cf53_1 : decode cJ9_min_7cf53 1 = .ok (.iload_n 1, 1) := by decide +kernel
theorem dJ9_min_7cf53_2 : decode cJ9_min_7cf53 2 = .ok (.if_icmp .gt 7, 3) := by decide +kernel
theorem dJ9_min_7cf53_5 : decode cJ9_min_7cf53 5 = .ok (.iload_n 0, 1) := by decide +kernel
theorem dJ9_min_7cf53_6 : decode cJ9_min_7cf53 6 = .ok (.goto 4, 3) := by decide +kernel
theorem dJ9_min_7cf53_9 : decode cJ9_min_7cf53 9 = .ok (.iload_n 1, 1) := by decide +kernel
theorem dJ9_min_7cf53_10 : decode cJ9_min_7cf53 10 = .ok (.ireturn, 1) := by decide +kernel
end
section
set_option maxRecDepth 20000 in
theorem ggX0_sum_X0_raise : GoodIn wsX0_sum wsX0_raise := goodIn_ca (goodIn_r _ [8, 9, 10, 7, 11, 12, 1, 2, 3, 4, 13, 14, 15, 16, 17, 18, 19, 20, 21, 22, 23, 24] (by decide +kernel) (by decide +kernel)) (goodIn_sub (fun _ h => List.mem_cons_of_mem _ (List.mem_append_right _ h)) (by decide +kernel))
set_option maxRecDepth 20000 in
theorem gX0_sum_X0_raise : GoodIn wsX0_sum (va_wsS RX0 15 yX0_raise wsX0_raise) := goodIn_app (goodIn_of _ (by decide +kernel)) ggX0_sum_X0_raise
set_option maxRecDepth 20000 in
theorem ggX0_sum_X0_fitting : GoodIn wsX0_sum wsX0_fitting := goodIn_ca (goodIn_r _ [27, 19, 20, 21, 22, 3, 23, 24] (by decide +kernel) (by decide +kernel)) (goodIn_sub (fun _ h => List.mem_cons_of_mem _ (List.mem_append_right _ h)) (by decide +kernel))
set_option maxRecDepth 20000 in
theorem gX0_sum_X0_fitting : GoodIn wsX0_sum (va_wsS RX0 21 yX0_fitting wsX0_fitting) := goodIn_app (goodIn_of _ (by decide +kernel)) ggX0_sum_X0_fitting
theorem dX0_sum_0 : decode cX0_sum 0 = .ok (.iload_n 2, 1) := by decide +kernel
theorem dX0_sum_1 : decode cX0_sum 1 = .ok (.iload 5, 2) := by decide +kernel
theorem dX0_sum_3 : decode cX0_sum 3 = .ok (.invokestatic 9, 3) := by decide +kernel
theorem dX0_sum_6 : decode cX0_sum 6 = .ok (.istore 6, 2) := by decide +kernel
theorem dX0_sum_8 : decode cX0_sum 8 = .ok (.lload_n 0, 1) := by decide +kernel
theorem dX0_sum_9 : decode cX0_sum 9 = .ok (.iload 6, 2) := by decide +kernel
theorem dX0_sum_11 : decode cX0_sum 11 = .ok (.iload_n 2, 1) := by decide +kernel
theorem dX0_sum_12 : decode cX0_sum 12 = .ok (.isub, 1) := by decide +kernel
theorem dX0_sum_13 : decode cX0_sum 13 = .ok (.invokestatic 15, 3) := by decide +kernel
theorem dX0_sum_16 : decode cX0_sum 16 = .ok (.lload_n 3, 1) := by decide +kernel
theorem dX0_sum_17 : decode cX0_sum 17 = .ok (.iload 6, 2) := by decide +kernel
theorem dX0_sum_19 : decode cX0_sum 19 = .ok (.iload 5, 2) := by decide +kernel
theorem dX0_sum_21 : decode cX0_sum 21 = .ok (.isub, 1) := by decide +kernel
theorem dX0_sum_22 : decode cX0_sum 22 = .ok (.invokestatic 15, 3) := by decide +kernel
theorem dX0_sum_25 : decode cX0_sum 25 = .ok (.ladd, 1) := by decide +kernel
theorem dX0_sum_26 : decode cX0_sum 26 = .ok (.invokestatic 21, 3) := by decide +kernel
theorem dX0_sum_29 : decode cX0_sum 29 = .ok (.lreturn, 1) := by decide +kernel
set_option maxRecDepth 20000 in
theorem ggX0_order_X0_raise : GoodIn wsX0_order wsX0_raise := goodIn_ca (goodIn_r _ [8, 9, 10, 7, 11, 12, 1, 2, 3, 4, 13, 14, 15, 16, 17, 18, 19, 20, 21, 22, 23, 24] (by decide +kernel) (by decide +kernel)) (goodIn_sub (fun _ h => List.mem_cons_of_mem _ (List.mem_append_right _ h)) (by decide +kernel))
set_option maxRecDepth 20000 in
theorem gX0_order_X0_raise : GoodIn wsX0_order (va_wsS RX0 15 yX0_raise wsX0_raise) := goodIn_app (goodIn_of _ (by decide +kernel)) ggX0_order_X0_raise
set_option maxRecDepth 20000 in
theorem ggX0_order_J13_compare_74951 : GoodIn wsX0_order wsJ13_compare_74951 := goodIn_r _ [28] (by decide +kernel) (by decide +kernel)
set_option maxRecDepth 20000 in
theorem gX0_order_J13_compare_74951 : GoodIn wsX0_order (va_wsS RX0 25 yJ13_compare_74951 wsJ13_compare_74951) := goodIn_app (goodIn_of _ (by decide +kernel)) ggX0_order_J13_compare_74951
theorem dX0_order_0 : decode cX0_order 0 = .ok (.iload_n 2, 1) := by decide +kernel
theorem dX0_order_1 : decode cX0_order 1 = .ok (.iload 5, 2) := by decide +kernel
theorem dX0_order_3 : decode cX0_order 3 = .ok (.invokestatic 9, 3) := by decide +kernel
theorem dX0_order_6 : decode cX0_order 6 = .ok (.istore 6, 2) := by decide +kernel
theorem dX0_order_8 : decode cX0_order 8 = .ok (.lload_n 0, 1) := by decide +kernel
theorem dX0_order_9 : decode cX0_order 9 = .ok (.iload 6, 2) := by decide +kernel
theorem dX0_order_11 : decode cX0_order 11 = .ok (.iload_n 2, 1) := by decide +kernel
theorem dX0_order_12 : decode cX0_order 12 = .ok (.isub, 1) := by decide +kernel
theorem dX0_order_13 : decode cX0_order 13 = .ok (.invokestatic 15, 3) := by decide +kernel
theorem dX0_order_16 : decode cX0_order 16 = .ok (.lload_n 3, 1) := by decide +kernel
theorem dX0_order_17 : decode cX0_order 17 = .ok (.iload 6, 2) := by decide +kernel
theorem dX0_order_19 : decode cX0_order 19 = .ok (.iload 5, 2) := by decide +kernel
theorem dX0_order_21 : decode cX0_order 21 = .ok (.isub, 1) := by decide +kernel
theorem dX0_order_22 : decode cX0_order 22 = .ok (.invokestatic 15, 3) := by decide +kernel
theorem dX0_order_25 : decode cX0_order 25 = .ok (.invokestatic 25, 3) := by decide +kernel
theorem dX0_order_28 : decode cX0_order 28 = .ok (.ireturn, 1) := by decide +kernel
theorem dX0_times_0 : decode cX0_times 0 = .ok (.lload_n 2, 1) := by decide +kernel
theorem dX0_times_1 : decode cX0_times 1 = .ok (.lconst 0, 1) := by decide +kernel
theorem dX0_times_2 : decode cX0_times 2 = .ok (.lcmp, 1) := by decide +kernel
theorem dX0_times_3 : decode cX0_times 3 = .ok (.ifCond .eq 29, 3) := by decide +kernel
theorem dX0_times_6 : decode cX0_times 6 = .ok (.lload_n 0, 1) := by decide +kernel
theorem dX0_times_7 : decode cX0_times 7 = .ok (.invokestatic 31, 3) := by decide +kernel
theorem dX0_times_10 : decode cX0_times 10 = .ok (.ldc2_w 34, 3) := by decide +kernel
theorem dX0_times_13 : decode cX0_times 13 = .ok (.lload_n 2, 1) := by decide +kernel
theorem dX0_times_14 : decode cX0_times 14 = .ok (.invokestatic 31, 3) := by decide +kernel
theorem dX0_times_17 : decode cX0_times 17 = .ok (.ldiv, 1) := by decide +kernel
theorem dX0_times_18 : decode cX0_times 18 = .ok (.lcmp, 1) := by decide +kernel
theorem dX0_times_19 : decode cX0_times 19 = .ok (.ifCond .le 13, 3) := by decide +kernel
theorem dX0_times_22 : decode cX0_times 22 = .ok (.new 36, 3) := by decide +kernel
theorem dX0_times_25 : decode cX0_times 25 = .ok (.dup, 1) := by decide +kernel
theorem dX0_times_26 : decode cX0_times 26 = .ok (.ldc 38, 2) := by decide +kernel
theorem dX0_times_28 : decode cX0_times 28 = .ok (.invokespecial 40, 3) := by decide +kernel
theorem dX0_times_31 : decode cX0_times 31 = .ok (.athrow, 1) := by decide +kernel
theorem dX0_times_32 : decode cX0_times 32 = .ok (.lload_n 0, 1) := by decide +kernel
theorem dX0_times_33 : decode cX0_times 33 = .ok (.lload_n 2, 1) := by decide +kernel
theorem dX0_times_34 : decode cX0_times 34 = .ok (.lmul, 1) := by decide +kernel
theorem dX0_times_35 : decode cX0_times 35 = .ok (.lreturn, 1) := by decide +kernel
set_option maxRecDepth 20000 in
theorem ggX0_quotient_X0_raise : GoodIn wsX0_quotient wsX0_raise := goodIn_ca (goodIn_r _ [6, 7, 8, 5, 9, 10, 11, 12, 13, 14, 15, 16, 17, 18, 19, 20, 21, 22, 23, 24, 25, 26] (by decide +kernel) (by decide +kernel)) (goodIn_sub (fun _ h => List.mem_cons_of_mem _ (List.mem_append_right _ h)) (by decide +kernel))
set_option maxRecDepth 20000 in
theorem gX0_quotient_X0_raise : GoodIn wsX0_quotient (va_wsS RX0 15 yX0_raise wsX0_raise) := goodIn_app (goodIn_of _ (by decide +kernel)) ggX0_quotient_X0_raise
set_option maxRecDepth 20000 in
theorem ggX0_quotient_X0_divide : GoodIn wsX0_quotient wsX0_divide := goodIn_r _ [29] (by decide +kernel) (by decide +kernel)
set_option maxRecDepth 20000 in
theorem gX0_quotient_X0_divide : GoodIn wsX0_quotient (va_wsS RX0 48 yX0_divide wsX0_divide) := goodIn_app (goodIn_of _ (by decide +kernel)) ggX0_quotient_X0_divide
theorem dX0_quotient_0 : decode cX0_quotient 0 = .ok (.lload_n 3, 1) := by decide +kernel
theorem dX0_quotient_1 : decode cX0_quotient 1 = .ok (.lconst 0, 1) := by decide +kernel
theorem dX0_quotient_2 : decode cX0_quotient 2 = .ok (.lcmp, 1) := by decide +kernel
theorem dX0_quotient_3 : decode cX0_quotient 3 = .ok (.ifCond .ne 13, 3) := by decide +kernel
theorem dX0_quotient_6 : decode cX0_quotient 6 = .ok (.new 43, 3) := by decide +kernel
theorem dX0_quotient_9 : decode cX0_quotient 9 = .ok (.dup, 1) := by decide +kernel
theorem dX0_quotient_10 : decode cX0_quotient 10 = .ok (.ldc 45, 2) := by decide +kernel
theorem dX0_quotient_12 : decode cX0_quotient 12 = .ok (.invokespecial 47, 3) := by decide +kernel
theorem dX0_quotient_15 : decode cX0_quotient 15 = .ok (.athrow, 1) := by decide +kernel
theorem dX0_quotient_16 : decode cX0_quotient 16 = .ok (.iload 6, 2) := by decide +kernel
theorem dX0_quotient_18 : decode cX0_quotient 18 = .ok (.iload 5, 2) := by decide +kernel
theorem dX0_quotient_20 : decode cX0_quotient 20 = .ok (.iadd, 1) := by decide +kernel
theorem dX0_quotient_21 : decode cX0_quotient 21 = .ok (.iload_n 2, 1) := by decide +kernel
theorem dX0_quotient_22 : decode cX0_quotient 22 = .ok (.isub, 1) := by decide +kernel
theorem dX0_quotient_23 : decode cX0_quotient 23 = .ok (.istore 7, 2) := by decide +kernel
theorem dX0_quotient_25 : decode cX0_quotient 25 = .ok (.iload 7, 2) := by decide +kernel
theorem dX0_quotient_27 : decode cX0_quotient 27 = .ok (.ifCond .le 16, 3) := by decide +kernel
theorem dX0_quotient_30 : decode cX0_quotient 30 = .ok (.lload_n 0, 1) := by decide +kernel
theorem dX0_quotient_31 : decode cX0_quotient 31 = .ok (.iload 7, 2) := by decide +kernel
theorem dX0_quotient_33 : decode cX0_quotient 33 = .ok (.invokestatic 15, 3) := by decide +kernel
theorem dX0_quotient_36 : decode cX0_quotient 36 = .ok (.lload_n 3, 1) := by decide +kernel
theorem dX0_quotient_37 : decode cX0_quotient 37 = .ok (.invokestatic 48, 3) := by decide +kernel
theorem dX0_quotient_40 : decode cX0_quotient 40 = .ok (.goto 14, 3) := by decide +kernel
theorem dX0_quotient_43 : decode cX0_quotient 43 = .ok (.lload_n 0, 1) := by decide +kernel
theorem dX0_quotient_44 : decode cX0_quotient 44 = .ok (.lload_n 3, 1) := by decide +kernel
theorem dX0_quotient_45 : decode cX0_quotient 45 = .ok (.iload 7, 2) := by decide +kernel
theorem dX0_quotient_47 : decode cX0_quotient 47 = .ok (.ineg, 1) := by decide +kernel
theorem dX0_quotient_48 : decode cX0_quotient 48 = .ok (.invokestatic 15, 3) := by decide +kernel
theorem dX0_quotient_51 : decode cX0_quotient 51 = .ok (.invokestatic 48, 3) := by decide +kernel
theorem dX0_quotient_54 : decode cX0_quotient 54 = .ok (.lreturn, 1) := by decide +kernel
set_option maxRecDepth 20000 in
theorem ggX0_remainder_X0_quotient : GoodIn wsX0_remainder wsX0_quotient := goodIn_ca (goodIn_ca (goodIn_r _ [10, 11, 12, 13, 14, 9, 15, 16, 17, 18, 19, 3, 4, 5, 6, 20, 21, 22, 23, 24, 25, 1, 2, 26, 27, 28, 29, 30, 31, 32] (by decide +kernel) (by decide +kernel)) (goodIn_sub (fun _ h => List.mem_cons_of_mem _ (List.mem_append_right _ h)) (by decide +kernel))) (goodIn_sub (fun _ h => List.mem_cons_of_mem _ (List.mem_append_left _ (List.mem_append_right _ h))) (by decide +kernel))
set_option maxRecDepth 20000 in
theorem gX0_remainder_X0_quotient : GoodIn wsX0_remainder (va_wsS RX0 52 yX0_quotient wsX0_quotient) := goodIn_app (goodIn_of _ (by decide +kernel)) ggX0_remainder_X0_quotient
set_option maxRecDepth 20000 in
theorem ggX0_remainder_X0_times : GoodIn wsX0_remainder wsX0_times := goodIn_ca (goodIn_r _ [25, 1, 2, 26, 27, 5, 28, 29] (by decide +kernel) (by decide +kernel)) (goodIn_sub (fun _ h => List.mem_cons_of_mem _ (List.mem_append_left _ (List.mem_append_right _ h))) (by decide +kernel))
set_option maxRecDepth 20000 in
theorem gX0_remainder_X0_times : GoodIn wsX0_remainder (va_wsS RX0 58 yX0_times wsX0_times) := goodIn_app (goodIn_of _ (by decide +kernel)) ggX0_remainder_X0_times
set_option maxRecDepth 20000 in
theorem ggX0_remainder_X0_raise : GoodIn wsX0_remainder wsX0_raise := goodIn_ca (goodIn_r _ [15, 16, 17, 9, 18, 19, 3, 4, 5, 6, 20, 21, 22, 23, 24, 25, 1, 2, 26, 27, 28, 29] (by decide +kernel) (by decide +kernel)) (goodIn_sub (fun _ h => List.mem_cons_of_mem _ (List.mem_append_left _ (List.mem_append_right _ h))) (by decide +kernel))
set_option maxRecDepth 20000 in
theorem gX0_remainder_X0_raise : GoodIn wsX0_remainder (va_wsS RX0 15 yX0_raise wsX0_raise) := goodIn_app (goodIn_of _ (by decide +kernel)) ggX0_remainder_X0_raise
set_option maxRecDepth 20000 in
theorem ggX0_remainder_X0_fitting : GoodIn wsX0_remainder wsX0_fitting := goodIn_ca (goodIn_r _ [35, 1, 2, 26, 27, 5, 28, 29] (by decide +kernel) (by decide +kernel)) (goodIn_sub (fun _ h => List.mem_cons_of_mem _ (List.mem_append_left _ (List.mem_append_right _ h))) (by decide +kernel))
set_option maxRecDepth 20000 in
theorem gX0_remainder_X0_fitting : GoodIn wsX0_remainder (va_wsS RX0 21 yX0_fitting wsX0_fitting) := goodIn_app (goodIn_of _ (by decide +kernel)) ggX0_remainder_X0_fitting
theorem dX0_remainder_0 : decode cX0_remainder 0 = .ok (.lload_n 0, 1) := by decide +kernel
theorem dX0_remainder_1 : decode cX0_remainder 1 = .ok (.iload_n 2, 1) := by decide +kernel
theorem dX0_remainder_2 : decode cX0_remainder 2 = .ok (.lload_n 3, 1) := by decide +kernel
theorem dX0_remainder_3 : decode cX0_remainder 3 = .ok (.iload 5, 2) := by decide +kernel
theorem dX0_remainder_5 : decode cX0_remainder 5 = .ok (.iload 6, 2) := by decide +kernel
theorem dX0_remainder_7 : decode cX0_remainder 7 = .ok (.invokestatic 52, 3) := by decide +kernel
theorem dX0_remainder_10 : decode cX0_remainder 10 = .ok (.lstore 7, 2) := by decide +kernel
theorem dX0_remainder_12 : decode cX0_remainder 12 = .ok (.iload 6, 2) := by decide +kernel
theorem dX0_remainder_14 : decode cX0_remainder 14 = .ok (.iload 5, 2) := by decide +kernel
theorem dX0_remainder_16 : decode cX0_remainder 16 = .ok (.iadd, 1) := by decide +kernel
theorem dX0_remainder_17 : decode cX0_remainder 17 = .ok (.istore 9, 2) := by decide +kernel
theorem dX0_remainder_19 : decode cX0_remainder 19 = .ok (.iload 9, 2) := by decide +kernel
theorem dX0_remainder_21 : decode cX0_remainder 21 = .ok (.iload_n 2, 1) := by decide +kernel
theorem dX0_remainder_22 : decode cX0_remainder 22 = .ok (.invokestatic 9, 3) := by decide +kernel
theorem dX0_remainder_25 : decode cX0_remainder 25 = .ok (.istore 10, 2) := by decide +kernel
theorem dX0_remainder_27 : decode cX0_remainder 27 = .ok (.iload 10, 2) := by decide +kernel
theorem dX0_remainder_29 : decode cX0_remainder 29 = .ok (.bipush 9, 2) := by decide +kernel
theorem dX0_remainder_31 : decode cX0_remainder 31 = .ok (.if_icmp .le 13, 3) := by decide +kernel
theorem dX0_remainder_34 : decode cX0_remainder 34 = .ok (.new 36, 3) := by decide +kernel
theorem dX0_remainder_37 : decode cX0_remainder 37 = .ok (.dup, 1) := by decide +kernel
theorem dX0_remainder_38 : decode cX0_remainder 38 = .ok (.ldc 56, 2) := by decide +kernel
theorem dX0_remainder_40 : decode cX0_remainder 40 = .ok (.invokespecial 40, 3) := by decide +kernel
theorem dX0_remainder_43 : decode cX0_remainder 43 = .ok (.athrow, 1) := by decide +kernel
theorem dX0_remainder_44 : decode cX0_remainder 44 = .ok (.lload 7, 2) := by decide +kernel
theorem dX0_remainder_46 : decode cX0_remainder 46 = .ok (.lload_n 3, 1) := by decide +kernel
theorem dX0_remainder_47 : decode cX0_remainder 47 = .ok (.invokestatic 58, 3) := by decide +kernel
theorem dX0_remainder_50 : decode cX0_remainder 50 = .ok (.iload 10, 2) := by decide +kernel
theorem dX0_remainder_52 : decode cX0_remainder 52 = .ok (.iload 9, 2) := by decide +kernel
theorem dX0_remainder_54 : decode cX0_remainder 54 = .ok (.isub, 1) := by decide +kernel
theorem dX0_remainder_55 : decode cX0_remainder 55 = .ok (.invokestatic 15, 3) := by decide +kernel
theorem dX0_remainder_58 : decode cX0_remainder 58 = .ok (.lstore 11, 2) := by decide +kernel
theorem dX0_remainder_60 : decode cX0_remainder 60 = .ok (.lload_n 0, 1) := by decide +kernel
theorem dX0_remainder_61 : decode cX0_remainder 61 = .ok (.iload 10, 2) := by decide +kernel
theorem dX0_remainder_63 : decode cX0_remainder 63 = .ok (.iload_n 2, 1) := by decide +kernel
theorem dX0_remainder_64 : decode cX0_remainder 64 = .ok (.isub, 1) := by decide +kernel
theorem dX0_remainder_65 : decode cX0_remainder 65 = .ok (.invokestatic 15, 3) := by decide +kernel
theorem dX0_remainder_68 : decode cX0_remainder 68 = .ok (.lload 11, 2) := by decide +kernel
theorem dX0_remainder_70 : decode cX0_remainder 70 = .ok (.lsub, 1) := by decide +kernel
theorem dX0_remainder_71 : decode cX0_remainder 71 = .ok (.invokestatic 21, 3) := by decide +kernel
theorem dX0_remainder_74 : decode cX0_remainder 74 = .ok (.lreturn, 1) := by decide +kernel
set_option maxRecDepth 20000 in
theorem ggX0_root_X0_raise : GoodIn wsX0_root wsX0_raise := goodIn_ca (goodIn_r _ [8, 9, 10, 7, 11, 12, 13, 14, 15, 16, 17, 18, 19, 20, 21, 22, 23, 24, 25, 26, 27, 28] (by decide +kernel) (by decide +kernel)) (goodIn_sub (fun _ h => List.mem_cons_of_mem _ (List.mem_append_right _ h)) (by decide +kernel))
set_option maxRecDepth 20000 in
theorem gX0_root_X0_raise : GoodIn wsX0_root (va_wsS RX0 15 yX0_raise wsX0_raise) := goodIn_app (goodIn_of _ (by decide +kernel)) ggX0_root_X0_raise
theorem dX0_root_0 : decode cX0_root 0 = .ok (.lload_n 0, 1) := by decide +kernel
theorem dX0_root_1 : decode cX0_root 1 = .ok (.lconst 0, 1) := by decide +kernel
theorem dX0_root_2 : decode cX0_root 2 = .ok (.lcmp, 1) := by decide +kernel
theorem dX0_root_3 : decode cX0_root 3 = .ok (.ifCond .ge 13, 3) := by decide +kernel
theorem dX0_root_6 : decode cX0_root 6 = .ok (.new 43, 3) := by decide +kernel
theorem dX0_root_9 : decode cX0_root 9 = .ok (.dup, 1) := by decide +kernel
theorem dX0_root_10 : decode cX0_root 10 = .ok (.ldc 61, 2) := by decide +kernel
theorem dX0_root_12 : decode cX0_root 12 = .ok (.invokespecial 47, 3) := by decide +kernel
theorem dX0_root_15 : decode cX0_root 15 = .ok (.athrow, 1) := by decide +kernel
theorem dX0_root_16 : decode cX0_root 16 = .ok (.lload_n 0, 1) := by decide +kernel
theorem dX0_root_17 : decode cX0_root 17 = .ok (.iconst 2, 1) := by decide +kernel
theorem dX0_root_18 : decode cX0_root 18 = .ok (.iload_n 3, 1) := by decide +kernel
theorem dX0_root_19 : decode cX0_root 19 = .ok (.imul, 1) := by decide +kernel
theorem dX0_root_20 : decode cX0_root 20 = .ok (.iload_n 2, 1) := by decide +kernel
theorem dX0_root_21 : decode cX0_root 21 = .ok (.isub, 1) := by decide +kernel
theorem dX0_root_22 : decode cX0_root 22 = .ok (.invokestatic 15, 3) := by decide +kernel
theorem dX0_root_25 : decode cX0_root 25 = .ok (.lstore 4, 2) := by decide +kernel
theorem dX0_root_27 : decode cX0_root 27 = .ok (.lconst 0, 1) := by decide +kernel
theorem dX0_root_28 : decode cX0_root 28 = .ok (.lstore 6, 2) := by decide +kernel
theorem dX0_root_30 : decode cX0_root 30 = .ok (.ldc2_w 63, 3) := by decide +kernel
theorem dX0_root_33 : decode cX0_root 33 = .ok (.lstore 8, 2) := by decide +kernel
theorem dX0_root_35 : decode cX0_root 35 = .ok (.iconst 0, 1) := by decide +kernel
theorem dX0_root_36 : decode cX0_root 36 = .ok (.istore 10, 2) := by decide +kernel
theorem dX0_root_38 : decode cX0_root 38 = .ok (.iload 10, 2) := by decide +kernel
theorem dX0_root_40 : decode cX0_root 40 = .ok (.bipush 31, 2) := by decide +kernel
theorem dX0_root_42 : decode cX0_root 42 = .ok (.if_icmp .ge 54, 3) := by decide +kernel
theorem dX0_root_45 : decode cX0_root 45 = .ok (.lload 6, 2) := by decide +kernel
theorem dX0_root_47 : decode cX0_root 47 = .ok (.lload 8, 2) := by decide +kernel
theorem dX0_root_49 : decode cX0_root 49 = .ok (.lcmp, 1) := by decide +kernel
theorem dX0_root_50 : decode cX0_root 50 = .ok (.ifCond .ge 46, 3) := by decide +kernel
theorem dX0_root_53 : decode cX0_root 53 = .ok (.lload 6, 2) := by decide +kernel
theorem dX0_root_55 : decode cX0_root 55 = .ok (.lload 8, 2) := by decide +kernel
theorem dX0_root_57 : decode cX0_root 57 = .ok (.ladd, 1) := by decide +kernel
theorem dX0_root_58 : decode cX0_root 58 = .ok (.lconst 1, 1) := by decide +kernel
theorem dX0_root_59 : decode cX0_root 59 = .ok (.ladd, 1) := by decide +kernel
theorem dX0_root_60 : decode cX0_root 60 = .ok (.ldc2_w 65, 3) := by decide +kernel
theorem dX0_root_63 : decode cX0_root 63 = .ok (.ldiv, 1) := by decide +kernel
theorem dX0_root_64 : decode cX0_root 64 = .ok (.lstore 11, 2) := by decide +kernel
theorem dX0_root_66 : decode cX0_root 66 = .ok (.lload 11, 2) := by decide +kernel
theorem dX0_root_68 : decode cX0_root 68 = .ok (.lload 11, 2) := by decide +kernel
theorem dX0_root_70 : decode cX0_root 70 = .ok (.lmul, 1) := by decide +kernel
theorem dX0_root_71 : decode cX0_root 71 = .ok (.lload 4, 2) := by decide +kernel
theorem dX0_root_73 : decode cX0_root 73 = .ok (.lcmp, 1) := by decide +kernel
theorem dX0_root_74 : decode cX0_root 74 = .ok (.ifCond .gt 10, 3) := by decide +kernel
theorem dX0_root_77 : decode cX0_root 77 = .ok (.lload 11, 2) := by decide +kernel
theorem dX0_root_79 : decode cX0_root 79 = .ok (.lstore 6, 2) := by decide +kernel
theorem dX0_root_81 : decode cX0_root 81 = .ok (.goto 9, 3) := by decide +kernel
theorem dX0_root_84 : decode cX0_root 84 = .ok (.lload 11, 2) := by decide +kernel
theorem dX0_root_86 : decode cX0_root 86 = .ok (.lconst 1, 1) := by decide +kernel
theorem dX0_root_87 : decode cX0_root 87 = .ok (.lsub, 1) := by decide +kernel
theorem dX0_root_88 : decode cX0_root 88 = .ok (.lstore 8, 2) := by decide +kernel
theorem dX0_root_90 : decode cX0_root 90 = .ok (.iinc 10 1, 3) := by decide +kernel
theorem dX0_root_93 : decode cX0_root 93 = .ok (.goto (-55), 3) := by decide +kernel
theorem dX0_root_96 : decode cX0_root 96 = .ok (.lload 6, 2) := by decide +kernel
theorem dX0_root_98 : decode cX0_root 98 = .ok (.lreturn, 1) := by decide +kernel
set_option maxRecDepth 20000 in
theorem ggX0_asPlaces_X0_cutOff : GoodIn wsX0_asPlaces wsX0_cutOff := goodIn_r _ [7, 8, 9, 6, 10, 11, 12, 13, 14, 15, 16, 17, 18, 19, 20, 21] (by decide +kernel) (by decide +kernel)
set_option maxRecDepth 20000 in
theorem gX0_asPlaces_X0_cutOff : GoodIn wsX0_asPlaces (va_wsS RX0 67 yX0_cutOff wsX0_cutOff) := goodIn_app (goodIn_of _ (by decide +kernel)) ggX0_asPlaces_X0_cutOff
set_option maxRecDepth 20000 in
theorem ggX0_asPlaces_X0_raise : GoodIn wsX0_asPlaces wsX0_raise := goodIn_ca (goodIn_r _ [24, 8, 9, 6, 10, 11, 12, 13, 14, 15, 16, 17, 18, 25, 26, 27, 28, 29, 30, 31, 32, 33] (by decide +kernel) (by decide +kernel)) (goodIn_sub (fun _ h => List.mem_cons_of_mem _ (List.mem_append_right _ h)) (by decide +kernel))
set_option maxRecDepth 20000 in
theorem gX0_asPlaces_X0_raise : GoodIn wsX0_asPlaces (va_wsS RX0 15 yX0_raise wsX0_raise) := goodIn_app (goodIn_of _ (by decide +kernel)) ggX0_asPlaces_X0_raise
theorem dX0_asPlaces_0 : decode cX0_asPlaces 0 = .ok (.lload_n 0, 1) := by decide +kernel
theorem dX0_asPlaces_1 : decode cX0_asPlaces 1 = .ok (.iload_n 2, 1) := by decide +kernel
theorem dX0_asPlaces_2 : decode cX0_asPlaces 2 = .ok (.invokestatic 67, 3) := by decide +kernel
theorem dX0_asPlaces_5 : decode cX0_asPlaces 5 = .ok (.lstore_n 3, 1) := by decide +kernel
theorem dX0_asPlaces_6 : decode cX0_asPlaces 6 = .ok (.lload_n 3, 1) := by decide +kernel
theorem dX0_asPlaces_7 : decode cX0_asPlaces 7 = .ok (.lconst 0, 1) := by decide +kernel
theorem dX0_asPlaces_8 : decode cX0_asPlaces 8 = .ok (.lcmp, 1) := by decide +kernel
theorem dX0_asPlaces_9 : decode cX0_asPlaces 9 = .ok (.ifCond .lt 21, 3) := by decide +kernel
theorem dX0_asPlaces_12 : decode cX0_asPlaces 12 = .ok (.lload_n 3, 1) := by decide +kernel
theorem dX0_asPlaces_13 : decode cX0_asPlaces 13 = .ok (.ldc2_w 70, 3) := by decide +kernel
theorem dX0_asPlaces_16 : decode cX0_asPlaces 16 = .ok (.lcmp, 1) := by decide +kernel
theorem dX0_asPlaces_17 : decode cX0_asPlaces 17 = .ok (.ifCond .gt 13, 3) := by decide +kernel
theorem dX0_asPlaces_20 : decode cX0_asPlaces 20 = .ok (.lload_n 3, 1) := by decide +kernel
theorem dX0_asPlaces_21 : decode cX0_asPlaces 21 = .ok (.iload_n 2, 1) := by decide +kernel
theorem dX0_asPlaces_22 : decode cX0_asPlaces 22 = .ok (.invokestatic 15, 3) := by decide +kernel
theorem dX0_asPlaces_25 : decode cX0_asPlaces 25 = .ok (.lload_n 0, 1) := by decide +kernel
theorem dX0_asPlaces_26 : decode cX0_asPlaces 26 = .ok (.lcmp, 1) := by decide +kernel
theorem dX0_asPlaces_27 : decode cX0_asPlaces 27 = .ok (.ifCond .eq 13, 3) := by decide +kernel
theorem dX0_asPlaces_30 : decode cX0_asPlaces 30 = .ok (.new 43, 3) := by decide +kernel
theorem dX0_asPlaces_33 : decode cX0_asPlaces 33 = .ok (.dup, 1) := by decide +kernel
theorem dX0_asPlaces_34 : decode cX0_asPlaces 34 = .ok (.ldc 72, 2) := by decide +kernel
theorem dX0_asPlaces_36 : decode cX0_asPlaces 36 = .ok (.invokespecial 47, 3) := by decide +kernel
theorem dX0_asPlaces_39 : decode cX0_asPlaces 39 = .ok (.athrow, 1) := by decide +kernel
theorem dX0_asPlaces_40 : decode cX0_asPlaces 40 = .ok (.lload_n 3, 1) := by decide +kernel
theorem dX0_asPlaces_41 : decode cX0_asPlaces 41 = .ok (.l2i, 1) := by decide +kernel
theorem dX0_asPlaces_42 : decode cX0_asPlaces 42 = .ok (.ireturn, 1) := by decide +kernel
set_option maxRecDepth 20000 in
theorem ggX0_cutOff_X0_powerOfTen : GoodIn wsX0_cutOff wsX0_powerOfTen := goodIn_r _ [4, 5, 6, 7, 8, 9, 10, 11, 12] (by decide +kernel) (by decide +kernel)
set_option maxRecDepth 20000 in
theorem gX0_cutOff_X0_powerOfTen : GoodIn wsX0_cutOff (va_wsS RX0 74 yX0_powerOfTen wsX0_powerOfTen) := goodIn_app (goodIn_of _ (by decide +kernel)) ggX0_cutOff_X0_powerOfTen
set_option maxRecDepth 20000 in
theorem ggX0_cutOff_X0_divide : GoodIn wsX0_cutOff wsX0_divide := goodIn_r _ [15] (by decide +kernel) (by decide +kernel)
set_option maxRecDepth 20000 in
theorem gX0_cutOff_X0_divide : GoodIn wsX0_cutOff (va_wsS RX0 48 yX0_divide wsX0_divide) := goodIn_app (goodIn_of _ (by decide +kernel)) ggX0_cutOff_X0_divide
theorem dX0_cutOff_0 : decode cX0_cutOff 0 = .ok (.lload_n 0, 1) := by decide +kernel
theorem dX0_cutOff_1 : decode cX0_cutOff 1 = .ok (.iload_n 2, 1) := by decide +kernel
theorem dX0_cutOff_2 : decode cX0_cutOff 2 = .ok (.invokestatic 74, 3) := by decide +kernel
theorem dX0_cutOff_5 : decode cX0_cutOff 5 = .ok (.invokestatic 48, 3) := by decide +kernel
theorem dX0_cutOff_8 : decode cX0_cutOff 8 = .ok (.lreturn, 1) := by decide +kernel
set_option maxRecDepth 20000 in
theorem ggX0_raise_X0_powerOfTen : GoodIn wsX0_raise wsX0_powerOfTen := goodIn_r _ [4, 5, 6, 7, 8, 9, 10, 11, 12] (by decide +kernel) (by decide +kernel)
set_option maxRecDepth 20000 in
theorem gX0_raise_X0_powerOfTen : GoodIn wsX0_raise (va_wsS RX0 74 yX0_powerOfTen wsX0_powerOfTen) := goodIn_app (goodIn_of _ (by decide +kernel)) ggX0_raise_X0_powerOfTen
set_option maxRecDepth 20000 in
theorem ggX0_raise_X0_times : GoodIn wsX0_raise wsX0_times := goodIn_ca (goodIn_r _ [15, 16, 17, 18, 19, 8, 20, 21] (by decide +kernel) (by decide +kernel)) (goodIn_sub (fun _ h => List.mem_cons_of_mem _ (List.mem_append_right _ h)) (by decide +kernel))
set_option maxRecDepth 20000 in
theorem gX0_raise_X0_times : GoodIn wsX0_raise (va_wsS RX0 58 yX0_times wsX0_times) := goodIn_app (goodIn_of _ (by decide +kernel)) ggX0_raise_X0_times
theorem dX0_raise_0 : decode cX0_raise 0 = .ok (.lload_n 0, 1) := by decide +kernel
theorem dX0_raise_1 : decode cX0_raise 1 = .ok (.iload_n 2, 1) := by decide +kernel
theorem dX0_raise_2 : decode cX0_raise 2 = .ok (.invokestatic 74, 3) := by decide +kernel
theorem dX0_raise_5 : decode cX0_raise 5 = .ok (.invokestatic 58, 3) := by decide +kernel
theorem dX0_raise_8 : decode cX0_raise 8 = .ok (.lreturn, 1) := by decide +kernel
theorem dX0_powerOfTen_0 : decode cX0_powerOfTen 0 = .ok (.getstatic 78, 3) := by decide +kernel
theorem dX0_powerOfTen_3 : decode cX0_powerOfTen 3 = .ok (.iload_n 0, 1) := by decide +kernel
theorem dX0_powerOfTen_4 : decode cX0_powerOfTen 4 = .ok (.iconst 0, 1) := by decide +kernel
theorem dX0_powerOfTen_5 : decode cX0_powerOfTen 5 = .ok (.invokestatic 9, 3) := by decide +kernel
theorem dX0_powerOfTen_8 : decode cX0_powerOfTen 8 = .ok (.getstatic 78, 3) := by decide +kernel
theorem dX0_powerOfTen_11 : decode cX0_powerOfTen 11 = .ok (.arraylength, 1) := by decide +kernel
theorem dX0_powerOfTen_12 : decode cX0_powerOfTen 12 = .ok (.iconst 1, 1) := by decide +kernel
theorem dX0_powerOfTen_13 : decode cX0_powerOfTen 13 = .ok (.isub, 1) := by decide +kernel
theorem dX0_powerOfTen_14 : decode cX0_powerOfTen 14 = .ok (.invokestatic 82, 3) := by decide +kernel
theorem dX0_powerOfTen_17 : decode cX0_powerOfTen 17 = .ok (.laload, 1) := by decide +kernel
theorem dX0_powerOfTen_18 : decode cX0_powerOfTen 18 = .ok (.lreturn, 1) := by decide +kernel
theorem dX0_divide_0 : decode cX0_divide 0 = .ok (.lload_n 2, 1) := by decide +kernel
theorem dX0_divide_1 : decode cX0_divide 1 = .ok (.lconst 0, 1) := by decide +kernel
theorem dX0_divide_2 : decode cX0_divide 2 = .ok (.lcmp, 1) := by decide +kernel
theorem dX0_divide_3 : decode cX0_divide 3 = .ok (.ifCond .ne 7, 3) := by decide +kernel
theorem dX0_divide_6 : decode cX0_divide 6 = .ok (.lconst 0, 1) := by decide +kernel
theorem dX0_divide_7 : decode cX0_divide 7 = .ok (.goto 6, 3) := by decide +kernel
theorem dX0_divide_10 : decode cX0_divide 10 = .ok (.lload_n 0, 1) := by decide +kernel
theorem dX0_divide_11 : decode cX0_divide 11 = .ok (.lload_n 2, 1) := by decide +kernel
theorem dX0_divide_12 : decode cX0_divide 12 = .ok (.ldiv, 1) := by decide +kernel
theorem dX0_divide_13 : decode cX0_divide 13 = .ok (.lreturn, 1) := by decide +kernel
theorem dX0_fitting_0 : decode cX0_fitting 0 = .ok (.lload_n 0, 1) := by decide +kernel
theorem dX0_fitting_1 : decode cX0_fitting 1 = .ok (.invokestatic 31, 3) := by decide +kernel
theorem dX0_fitting_4 : decode cX0_fitting 4 = .ok (.ldc2_w 34, 3) := by decide +kernel
theorem dX0_fitting_7 : decode cX0_fitting 7 = .ok (.lcmp, 1) := by decide +kernel
theorem dX0_fitting_8 : decode cX0_fitting 8 = .ok (.ifCond .le 13, 3) := by decide +kernel
theorem dX0_fitting_11 : decode cX0_fitting 11 = .ok (.new 36, 3) := by decide +kernel
theorem dX0_fitting_14 : decode cX0_fitting 14 = .ok (.dup, 1) := by decide +kernel
theorem dX0_fitting_15 : decode cX0_fitting 15 = .ok (.ldc 38, 2) := by decide +kernel
theorem dX0_fitting_17 : decode cX0_fitting 17 = .ok (.invokespecial 40, 3) := by decide +kernel
theorem dX0_fitting_20 : decode cX0_fitting 20 = .ok (.athrow, 1) := by decide +kernel
theorem dX0_fitting_21 : decode cX0_fitting 21 = .ok (.lload_n 0, 1) := by decide +kernel
theorem dX0_fitting_22 : decode cX0_fitting 22 = .ok (.lreturn, 1) := by decide +kernel
end
section
theorem dX1_init_0 : decode cX1_init 0 = .ok (.aload_n 0, 1) := by decide +kernel
theorem dX1_init_1 : decode cX1_init 1 = .ok (.invokespecial 3, 3) := by decide +kernel
theorem dX1_init_4 : decode cX1_init 4 = .ok (.aload_n 0, 1) := by decide +kernel
theorem dX1_init_5 : decode cX1_init 5 = .ok (.bipush 12, 2) := by decide +kernel
theorem dX1_init_7 : decode cX1_init 7 = .ok (.anewarray 9, 3) := by decide +kernel
theorem dX1_init_10 : decode cX1_init 10 = .ok (.putfield 11, 3) := by decide +kernel
theorem dX1_init_13 : decode cX1_init 13 = .ok (.aload_n 0, 1) := by decide +kernel
theorem dX1_init_14 : decode cX1_init 14 = .ok (.bipush 12, 2) := by decide +kernel
theorem dX1_init_16 : decode cX1_init 16 = .ok (.newarray .int, 2) := by decide +kernel
theorem dX1_init_18 : decode cX1_init 18 = .ok (.putfield 17, 3) := by decide +kernel
theorem dX1_init_21 : decode cX1_init 21 = .ok (.aload_n 0, 1) := by decide +kernel
theorem dX1_init_22 : decode cX1_init 22 = .ok (.bipush 12, 2) := by decide +kernel
theorem dX1_init_24 : decode cX1_init 24 = .ok (.newarray .int, 2) := by decide +kernel
theorem dX1_init_26 : decode cX1_init 26 = .ok (.putfield 21, 3) := by decide +kernel
theorem dX1_init_29 : decode cX1_init 29 = .ok (.aload_n 0, 1) := by decide +kernel
theorem dX1_init_30 : decode cX1_init 30 = .ok (.iconst 0, 1) := by decide +kernel
theorem dX1_init_31 : decode cX1_init 31 = .ok (.putfield 24, 3) := by decide +kernel
theorem dX1_init_34 : decode cX1_init 34 = .ok (.return_, 1) := by decide +kernel
theorem dX1_isUnderWay_0 : decode cX1_isUnderWay 0 = .ok (.aload_n 0, 1) := by decide +kernel
theorem dX1_isUnderWay_1 : decode cX1_isUnderWay 1 = .ok (.getfield 24, 3) := by decide +kernel
theorem dX1_isUnderWay_4 : decode cX1_isUnderWay 4 = .ok (.ifCond .le 19, 3) := by decide +kernel
theorem dX1_isUnderWay_7 : decode cX1_isUnderWay 7 = .ok (.aload_n 0, 1) := by decide +kernel
theorem dX1_isUnderWay_8 : decode cX1_isUnderWay 8 = .ok (.getfield 24, 3) := by decide +kernel
theorem dX1_isUnderWay_11 : decode cX1_isUnderWay 11 = .ok (.aload_n 0, 1) := by decide +kernel
theorem dX1_isUnderWay_12 : decode cX1_isUnderWay 12 = .ok (.getfield 11, 3) := by decide +kernel
theorem dX1_isUnderWay_15 : decode cX1_isUnderWay 15 = .ok (.arraylength, 1) := by decide +kernel
theorem dX1_isUnderWay_16 : decode cX1_isUnderWay 16 = .ok (.if_icmp .gt 7, 3) := by decide +kernel
theorem dX1_isUnderWay_19 : decode cX1_isUnderWay 19 = .ok (.iconst 1, 1) := by decide +kernel
theorem dX1_isUnderWay_20 : decode cX1_isUnderWay 20 = .ok (.goto 4, 3) := by decide +kernel
theorem dX1_isUnderWay_23 : decode cX1_isUnderWay 23 = .ok (.iconst 0, 1) := by decide +kernel
theorem dX1_isUnderWay_24 : decode cX1_isUnderWay 24 = .ok (.ireturn, 1) := by decide +kernel
theorem dX1_enter_0 : decode cX1_enter 0 = .ok (.aload_n 0, 1) := by decide +kernel
theorem dX1_enter_1 : decode cX1_enter 1 = .ok (.getfield 24, 3) := by decide +kernel
theorem dX1_enter_4 : decode cX1_enter 4 = .ok (.ifCond .lt 15, 3) := by decide +kernel
theorem dX1_enter_7 : decode cX1_enter 7 = .ok (.aload_n 0, 1) := by decide +kernel
theorem dX1_enter_8 : decode cX1_enter 8 = .ok (.getfield 24, 3) := by decide +kernel
theorem dX1_enter_11 : decode cX1_enter 11 = .ok (.aload_n 0, 1) := by decide +kernel
theorem dX1_enter_12 : decode cX1_enter 12 = .ok (.getfield 11, 3) := by decide +kernel
theorem dX1_enter_15 : decode cX1_enter 15 = .ok (.arraylength, 1) := by decide +kernel
theorem dX1_enter_16 : decode cX1_enter 16 = .ok (.if_icmp .lt 13, 3) := by decide +kernel
theorem dX1_enter_19 : decode cX1_enter 19 = .ok (.new 28, 3) := by decide +kernel
theorem dX1_enter_22 : decode cX1_enter 22 = .ok (.dup, 1) := by decide +kernel
theorem dX1_enter_23 : decode cX1_enter 23 = .ok (.ldc 30, 2) := by decide +kernel
theorem dX1_enter_25 : decode cX1_enter 25 = .ok (.invokespecial 32, 3) := by decide +kernel
theorem dX1_enter_28 : decode cX1_enter 28 = .ok (.athrow, 1) := by decide +kernel
theorem dX1_enter_29 : decode cX1_enter 29 = .ok (.aload_n 0, 1) := by decide +kernel
theorem dX1_enter_30 : decode cX1_enter 30 = .ok (.getfield 11, 3) := by decide +kernel
theorem dX1_enter_33 : decode cX1_enter 33 = .ok (.aload_n 0, 1) := by decide +kernel
theorem dX1_enter_34 : decode cX1_enter 34 = .ok (.getfield 24, 3) := by decide +kernel
theorem dX1_enter_37 : decode cX1_enter 37 = .ok (.aload_n 1, 1) := by decide +kernel
theorem dX1_enter_38 : decode cX1_enter 38 = .ok (.aastore, 1) := by decide +kernel
theorem dX1_enter_39 : decode cX1_enter 39 = .ok (.aload_n 0, 1) := by decide +kernel
theorem dX1_enter_40 : decode cX1_enter 40 = .ok (.getfield 17, 3) := by decide +kernel
theorem dX1_enter_43 : decode cX1_enter 43 = .ok (.aload_n 0, 1) := by decide +kernel
theorem dX1_enter_44 : decode cX1_enter 44 = .ok (.getfield 24, 3) := by decide +kernel
theorem dX1_enter_47 : decode cX1_enter 47 = .ok (.iload_n 2, 1) := by decide +kernel
theorem dX1_enter_48 : decode cX1_enter 48 = .ok (.iastore, 1) := by decide +kernel
theorem dX1_enter_49 : decode cX1_enter 49 = .ok (.aload_n 0, 1) := by decide +kernel
theorem dX1_enter_50 : decode cX1_enter 50 = .ok (.getfield 21, 3) := by decide +kernel
theorem dX1_enter_53 : decode cX1_enter 53 = .ok (.aload_n 0, 1) := by decide +kernel
theorem dX1_enter_54 : decode cX1_enter 54 = .ok (.getfield 24, 3) := by decide +kernel
theorem dX1_enter_57 : decode cX1_enter 57 = .ok (.iload_n 2, 1) := by decide +kernel
theorem dX1_enter_58 : decode cX1_enter 58 = .ok (.iload_n 3, 1) := by decide +kernel
theorem dX1_enter_59 : decode cX1_enter 59 = .ok (.iadd, 1) := by decide +kernel
theorem dX1_enter_60 : decode cX1_enter 60 = .ok (.iastore, 1) := by decide +kernel
theorem dX1_enter_61 : decode cX1_enter 61 = .ok (.aload_n 0, 1) := by decide +kernel
theorem dX1_enter_62 : decode cX1_enter 62 = .ok (.dup, 1) := by decide +kernel
theorem dX1_enter_63 : decode cX1_enter 63 = .ok (.getfield 24, 3) := by decide +kernel
theorem dX1_enter_66 : decode cX1_enter 66 = .ok (.iconst 1, 1) := by decide +kernel
theorem dX1_enter_67 : decode cX1_enter 67 = .ok (.iadd, 1) := by decide +kernel
theorem dX1_enter_68 : decode cX1_enter 68 = .ok (.putfield 24, 3) := by decide +kernel
theorem dX1_enter_71 : decode cX1_enter 71 = .ok (.return_, 1) := by decide +kernel
set_option maxRecDepth 20000 in
theorem ggX1_enterMacro_X1_skipBlanks : GoodIn wsX1_enterMacro wsX1_skipBlanks := goodIn_r _ [5, 6, 7, 8, 4, 9, 10, 11, 12, 13, 14, 15, 16, 17, 18, 19, 20, 21, 22, 23, 24, 25, 26, 27, 28, 43, 44, 45, 46, 47, 48] (by decide +kernel) (by decide +kernel)
set_option maxRecDepth 20000 in
theorem gX1_enterMacro_X1_skipBlanks : GoodIn wsX1_enterMacro (wsV RX1 35 RX1 yX1_skipBlanks wsX1_skipBlanks) := goodIn_app (goodIn_of _ (by decide +kernel)) ggX1_enterMacro_X1_skipBlanks
set_option maxRecDepth 20000 in
theorem ggX1_enterMacro_X1_look : GoodIn wsX1_enterMacro wsX1_look := goodIn_r _ [9, 10, 11, 12, 13, 14, 15, 16, 4, 17, 18, 19, 20, 21, 22, 23, 24, 43, 44, 45, 46, 47, 48] (by decide +kernel) (by decide +kernel)
set_option maxRecDepth 20000 in
theorem gX1_enterMacro_X1_look : GoodIn wsX1_enterMacro (wsV RX1 38 RX1 yX1_look wsX1_look) := goodIn_app (goodIn_of _ (by decide +kernel)) ggX1_enterMacro_X1_look
set_option maxRecDepth 20000 in
theorem ggX1_enterMacro_X1_leave : GoodIn wsX1_enterMacro wsX1_leave := goodIn_r _ [32, 11, 33, 34, 35, 36, 43, 44, 45, 46] (by decide +kernel) (by decide +kernel)
set_option maxRecDepth 20000 in
theorem gX1_enterMacro_X1_leave : GoodIn wsX1_enterMacro (wsV RX1 42 RX1 yX1_leave wsX1_leave) := goodIn_app (goodIn_of _ (by decide +kernel)) ggX1_enterMacro_X1_leave
set_option maxRecDepth 20000 in
theorem ggX1_enterMacro_X1_enter : GoodIn wsX1_enterMacro wsX1_enter := goodIn_ca (goodIn_r _ [40, 41, 42, 11, 13, 10, 12, 43, 44, 45, 46] (by decide +kernel) (by decide +kernel)) (goodIn_sub (fun _ h => List.mem_cons_of_mem _ (List.mem_append_right _ h)) (by decide +kernel))
set_option maxRecDepth 20000 in
theorem gX1_enterMacro_X1_enter : GoodIn wsX1_enterMacro (wsV RX1 45 RX1 yX1_enter wsX1_enter) := goodIn_app (goodIn_of _ (by decide +kernel)) ggX1_enterMacro_X1_enter
theorem dX1_enterMacro_0 : decode cX1_enterMacro 0 = .ok (.aload_n 0, 1) := by decide +kernel
theorem dX1_enterMacro_1 : decode cX1_enterMacro 1 = .ok (.invokevirtual 35, 3) := by decide +kernel
theorem dX1_enterMacro_4 : decode cX1_enterMacro 4 = .ok (.aload_n 0, 1) := by decide +kernel
theorem dX1_enterMacro_5 : decode cX1_enterMacro 5 = .ok (.invokevirtual 38, 3) := by decide +kernel
theorem dX1_enterMacro_8 : decode cX1_enterMacro 8 = .ok (.ifCond .ne 7, 3) := by decide +kernel
theorem dX1_enterMacro_11 : decode cX1_enterMacro 11 = .ok (.aload_n 0, 1) := by decide +kernel
theorem dX1_enterMacro_12 : decode cX1_enterMacro 12 = .ok (.invokevirtual 42, 3) := by decide +kernel
theorem dX1_enterMacro_15 : decode cX1_enterMacro 15 = .ok (.aload_n 0, 1) := by decide +kernel
theorem dX1_enterMacro_16 : decode cX1_enterMacro 16 = .ok (.aload_n 1, 1) := by decide +kernel
theorem dX1_enterMacro_17 : decode cX1_enterMacro 17 = .ok (.iload_n 2, 1) := by decide +kernel
theorem dX1_enterMacro_18 : decode cX1_enterMacro 18 = .ok (.iload_n 3, 1) := by decide +kernel
theorem dX1_enterMacro_19 : decode cX1_enterMacro 19 = .ok (.invokevirtual 45, 3) := by decide +kernel
theorem dX1_enterMacro_22 : decode cX1_enterMacro 22 = .ok (.return_, 1) := by decide +kernel
theorem dX1_leave_0 : decode cX1_leave 0 = .ok (.aload_n 0, 1) := by decide +kernel
theorem dX1_leave_1 : decode cX1_leave 1 = .ok (.iconst 0, 1) := by decide +kernel
theorem dX1_leave_2 : decode cX1_leave 2 = .ok (.aload_n 0, 1) := by decide +kernel
theorem dX1_leave_3 : decode cX1_leave 3 = .ok (.getfield 24, 3) := by decide +kernel
theorem dX1_leave_6 : decode cX1_leave 6 = .ok (.iconst 1, 1) := by decide +kernel
theorem dX1_leave_7 : decode cX1_leave 7 = .ok (.isub, 1) := by decide +kernel
theorem dX1_leave_8 : decode cX1_leave 8 = .ok (.invokestatic 49, 3) := by decide +kernel
theorem dX1_leave_11 : decode cX1_leave 11 = .ok (.putfield 24, 3) := by decide +kernel
theorem dX1_leave_14 : decode cX1_leave 14 = .ok (.return_, 1) := by decide +kernel
theorem dX1_leaveAll_0 : decode cX1_leaveAll 0 = .ok (.aload_n 0, 1) := by decide +kernel
theorem dX1_leaveAll_1 : decode cX1_leaveAll 1 = .ok (.iconst 0, 1) := by decide +kernel
theorem dX1_leaveAll_2 : decode cX1_leaveAll 2 = .ok (.putfield 24, 3) := by decide +kernel
theorem dX1_leaveAll_5 : decode cX1_leaveAll 5 = .ok (.return_, 1) := by decide +kernel
set_option maxRecDepth 20000 in
theorem ggX1_innermostRow_X1_isUnderWay : GoodIn wsX1_innermostRow wsX1_isUnderWay := goodIn_r _ [7, 2, 1, 8, 9, 10, 11] (by decide +kernel) (by decide +kernel)
set_option maxRecDepth 20000 in
theorem gX1_innermostRow_X1_isUnderWay : GoodIn wsX1_innermostRow (wsV RX1 55 RX1 yX1_isUnderWay wsX1_isUnderWay) := goodIn_app (goodIn_of _ (by decide +kernel)) ggX1_innermostRow_X1_isUnderWay
theorem dX1_innermostRow_0 : decode cX1_innermostRow 0 = .ok (.aload_n 0, 1) := by decide +kernel
theorem dX1_innermostRow_1 : decode cX1_innermostRow 1 = .ok (.invokevirtual 55, 3) := by decide +kernel
theorem dX1_innermostRow_4 : decode cX1_innermostRow 4 = .ok (.ifCond .eq 17, 3) := by decide +kernel
theorem dX1_innermostRow_7 : decode cX1_innermostRow 7 = .ok (.aload_n 0, 1) := by decide +kernel
theorem dX1_innermostRow_8 : decode cX1_innermostRow 8 = .ok (.getfield 11, 3) := by decide +kernel
theorem dX1_innermostRow_11 : decode cX1_innermostRow 11 = .ok (.aload_n 0, 1) := by decide +kernel
theorem dX1_innermostRow_12 : decode cX1_innermostRow 12 = .ok (.getfield 24, 3) := by decide +kernel
theorem dX1_innermostRow_15 : decode cX1_innermostRow 15 = .ok (.iconst 1, 1) := by decide +kernel
theorem dX1_innermostRow_16 : decode cX1_innermostRow 16 = .ok (.isub, 1) := by decide +kernel
theorem dX1_innermostRow_17 : decode cX1_innermostRow 17 = .ok (.aaload, 1) := by decide +kernel
theorem dX1_innermostRow_18 : decode cX1_innermostRow 18 = .ok (.goto 4, 3) := by decide +kernel
theorem dX1_innermostRow_21 : decode cX1_innermostRow 21 = .ok (.aconst_null, 1) := by decide +kernel
theorem dX1_innermostRow_22 : decode cX1_innermostRow 22 = .ok (.areturn, 1) := by decide +kernel
set_option maxRecDepth 20000 in
theorem ggX1_position_X1_isUnderWay : GoodIn wsX1_position wsX1_isUnderWay := goodIn_r _ [7, 2, 8, 9, 10, 11, 12] (by decide +kernel) (by decide +kernel)
set_option maxRecDepth 20000 in
theorem gX1_position_X1_isUnderWay : GoodIn wsX1_position (wsV RX1 55 RX1 yX1_isUnderWay wsX1_isUnderWay) := goodIn_app (goodIn_of _ (by decide +kernel)) ggX1_position_X1_isUnderWay
theorem dX1_position_0 : decode cX1_position 0 = .ok (.aload_n 0, 1) := by decide +kernel
theorem dX1_position_1 : decode cX1_position 1 = .ok (.invokevirtual 55, 3) := by decide +kernel
theorem dX1_position_4 : decode cX1_position 4 = .ok (.ifCond .eq 17, 3) := by decide +kernel
theorem dX1_position_7 : decode cX1_position 7 = .ok (.aload_n 0, 1) := by decide +kernel
theorem dX1_position_8 : decode cX1_position 8 = .ok (.getfield 17, 3) := by decide +kernel
theorem dX1_position_11 : decode cX1_position 11 = .ok (.aload_n 0, 1) := by decide +kernel
theorem dX1_position_12 : decode cX1_position 12 = .ok (.getfield 24, 3) := by decide +kernel
theorem dX1_position_15 : decode cX1_position 15 = .ok (.iconst 1, 1) := by decide +kernel
theorem dX1_position_16 : decode cX1_position 16 = .ok (.isub, 1) := by decide +kernel
theorem dX1_position_17 : decode cX1_position 17 = .ok (.iaload, 1) := by decide +kernel
theorem dX1_position_18 : decode cX1_position 18 = .ok (.goto 4, 3) := by decide +kernel
theorem dX1_position_21 : decode cX1_position 21 = .ok (.iconst 0, 1) := by decide +kernel
theorem dX1_position_22 : decode cX1_position 22 = .ok (.ireturn, 1) := by decide +kernel
set_option maxRecDepth 20000 in
theorem ggX1_look_X1_isUnderWay : GoodIn wsX1_look wsX1_isUnderWay := goodIn_r _ [9, 2, 4, 17, 18, 19, 20] (by decide +kernel) (by decide +kernel)
set_option maxRecDepth 20000 in
theorem gX1_look_X1_isUnderWay : GoodIn wsX1_look (wsV RX1 55 RX1 yX1_isUnderWay wsX1_isUnderWay) := goodIn_app (goodIn_of _ (by decide +kernel)) ggX1_look_X1_isUnderWay
set_option maxRecDepth 20000 in
theorem ggX1_look_X2_charAt : GoodIn wsX1_look wsX2_charAt := goodIn_r _ [14, 15, 16, 21, 22] (by decide +kernel) (by decide +kernel)
set_option maxRecDepth 20000 in
theorem gX1_look_X2_charAt : GoodIn wsX1_look (wsV RX1 59 RX2 yX2_charAt wsX2_charAt) := goodIn_app (goodIn_of _ (by decide +kernel)) ggX1_look_X2_charAt
theorem dX1_look_0 : decode cX1_look 0 = .ok (.aload_n 0, 1) := by decide +kernel
theorem dX1_look_1 : decode cX1_look 1 = .ok (.invokevirtual 55, 3) := by decide +kernel
theorem dX1_look_4 : decode cX1_look 4 = .ok (.ifCond .eq 28, 3) := by decide +kernel
theorem dX1_look_7 : decode cX1_look 7 = .ok (.aload_n 0, 1) := by decide +kernel
theorem dX1_look_8 : decode cX1_look 8 = .ok (.getfield 17, 3) := by decide +kernel
theorem dX1_look_11 : decode cX1_look 11 = .ok (.aload_n 0, 1) := by decide +kernel
theorem dX1_look_12 : decode cX1_look 12 = .ok (.getfield 24, 3) := by decide +kernel
theorem dX1_look_15 : decode cX1_look 15 = .ok (.iconst 1, 1) := by decide +kernel
theorem dX1_look_16 : decode cX1_look 16 = .ok (.isub, 1) := by decide +kernel
theorem dX1_look_17 : decode cX1_look 17 = .ok (.iaload, 1) := by decide +kernel
theorem dX1_look_18 : decode cX1_look 18 = .ok (.aload_n 0, 1) := by decide +kernel
theorem dX1_look_19 : decode cX1_look 19 = .ok (.getfield 21, 3) := by decide +kernel
theorem dX1_look_22 : decode cX1_look 22 = .ok (.aload_n 0, 1) := by decide +kernel
theorem dX1_look_23 : decode cX1_look 23 = .ok (.getfield 24, 3) := by decide +kernel
theorem dX1_look_26 : decode cX1_look 26 = .ok (.iconst 1, 1) := by decide +kernel
theorem dX1_look_27 : decode cX1_look 27 = .ok (.isub, 1) := by decide +kernel
theorem dX1_look_28 : decode cX1_look 28 = .ok (.iaload, 1) := by decide +kernel
theorem dX1_look_29 : decode cX1_look 29 = .ok (.if_icmp .lt 5, 3) := by decide +kernel
theorem dX1_look_32 : decode cX1_look 32 = .ok (.iconst 0, 1) := by decide +kernel
theorem dX1_look_33 : decode cX1_look 33 = .ok (.ireturn, 1) := by decide +kernel
theorem dX1_look_34 : decode cX1_look 34 = .ok (.aload_n 0, 1) := by decide +kernel
theorem dX1_look_35 : decode cX1_look 35 = .ok (.getfield 11, 3) := by decide +kernel
theorem dX1_look_38 : decode cX1_look 38 = .ok (.aload_n 0, 1) := by decide +kernel
theorem dX1_look_39 : decode cX1_look 39 = .ok (.getfield 24, 3) := by decide +kernel
theorem dX1_look_42 : decode cX1_look 42 = .ok (.iconst 1, 1) := by decide +kernel
theorem dX1_look_43 : decode cX1_look 43 = .ok (.isub, 1) := by decide +kernel
theorem dX1_look_44 : decode cX1_look 44 = .ok (.aaload, 1) := by decide +kernel
theorem dX1_look_45 : decode cX1_look 45 = .ok (.astore_n 1, 1) := by decide +kernel
theorem dX1_look_46 : decode cX1_look 46 = .ok (.aload_n 1, 1) := by decide +kernel
theorem dX1_look_47 : decode cX1_look 47 = .ok (.ifnonnull 7, 3) := by decide +kernel
theorem dX1_look_50 : decode cX1_look 50 = .ok (.iconst 0, 1) := by decide +kernel
theorem dX1_look_51 : decode cX1_look 51 = .ok (.goto 18, 3) := by decide +kernel
theorem dX1_look_54 : decode cX1_look 54 = .ok (.aload_n 1, 1) := by decide +kernel
theorem dX1_look_55 : decode cX1_look 55 = .ok (.aload_n 0, 1) := by decide +kernel
theorem dX1_look_56 : decode cX1_look 56 = .ok (.getfield 17, 3) := by decide +kernel
theorem dX1_look_59 : decode cX1_look 59 = .ok (.aload_n 0, 1) := by decide +kernel
theorem dX1_look_60 : decode cX1_look 60 = .ok (.getfield 24, 3) := by decide +kernel
theorem dX1_look_63 : decode cX1_look 63 = .ok (.iconst 1, 1) := by decide +kernel
theorem dX1_look_64 : decode cX1_look 64 = .ok (.isub, 1) := by decide +kernel
theorem dX1_look_65 : decode cX1_look 65 = .ok (.iaload, 1) := by decide +kernel
theorem dX1_look_66 : decode cX1_look 66 = .ok (.invokevirtual 59, 3) := by decide +kernel
theorem dX1_look_69 : decode cX1_look 69 = .ok (.ireturn, 1) := by decide +kernel
set_option maxRecDepth 20000 in
theorem ggX1_pass_X1_isUnderWay : GoodIn wsX1_pass wsX1_isUnderWay := goodIn_r _ [7, 2, 8, 9, 10, 11, 12] (by decide +kernel) (by decide +kernel)
set_option maxRecDepth 20000 in
theorem gX1_pass_X1_isUnderWay : GoodIn wsX1_pass (wsV RX1 55 RX1 yX1_isUnderWay wsX1_isUnderWay) := goodIn_app (goodIn_of _ (by decide +kernel)) ggX1_pass_X1_isUnderWay
theorem dX1_pass_0 : decode cX1_pass 0 = .ok (.aload_n 0, 1) := by decide +kernel
theorem dX1_pass_1 : decode cX1_pass 1 = .ok (.invokevirtual 55, 3) := by decide +kernel
theorem dX1_pass_4 : decode cX1_pass 4 = .ok (.ifCond .eq 18, 3) := by decide +kernel
theorem dX1_pass_7 : decode cX1_pass 7 = .ok (.aload_n 0, 1) := by decide +kernel
theorem dX1_pass_8 : decode cX1_pass 8 = .ok (.getfield 17, 3) := by decide +kernel
theorem dX1_pass_11 : decode cX1_pass 11 = .ok (.aload_n 0, 1) := by decide +kernel
theorem dX1_pass_12 : decode cX1_pass 12 = .ok (.getfield 24, 3) := by decide +kernel
theorem dX1_pass_15 : decode cX1_pass 15 = .ok (.iconst 1, 1) := by decide +kernel
theorem dX1_pass_16 : decode cX1_pass 16 = .ok (.isub, 1) := by decide +kernel
theorem dX1_pass_17 : decode cX1_pass 17 = .ok (.dup2, 1) := by decide +kernel
theorem dX1_pass_18 : decode cX1_pass 18 = .ok (.iaload, 1) := by decide +kernel
theorem dX1_pass_19 : decode cX1_pass 19 = .ok (.iconst 1, 1) := by decide +kernel
theorem dX1_pass_20 : decode cX1_pass 20 = .ok (.iadd, 1) := by decide +kernel
theorem dX1_pass_21 : decode cX1_pass 21 = .ok (.iastore, 1) := by decide +kernel
theorem dX1_pass_22 : decode cX1_pass 22 = .ok (.return_, 1) := by decide +kernel
set_option maxRecDepth 20000 in
theorem ggX1_skipBlanks_X1_look : GoodIn wsX1_skipBlanks wsX1_look := goodIn_r _ [5, 6, 7, 8, 9, 10, 11, 12, 4, 13, 14, 15, 16, 17, 18, 19, 20, 25, 26, 27, 28, 29, 30] (by decide +kernel) (by decide +kernel)
set_option maxRecDepth 20000 in
theorem gX1_skipBlanks_X1_look : GoodIn wsX1_skipBlanks (wsV RX1 38 RX1 yX1_look wsX1_look) := goodIn_app (goodIn_of _ (by decide +kernel)) ggX1_skipBlanks_X1_look
set_option maxRecDepth 20000 in
theorem ggX1_skipBlanks_X1_pass : GoodIn wsX1_skipBlanks wsX1_pass := goodIn_r _ [24, 6, 7, 10, 11, 12, 4, 13, 9, 25, 26, 27, 28] (by decide +kernel) (by decide +kernel)
set_option maxRecDepth 20000 in
theorem gX1_skipBlanks_X1_pass : GoodIn wsX1_skipBlanks (wsV RX1 63 RX1 yX1_pass wsX1_pass) := goodIn_app (goodIn_of _ (by decide +kernel)) ggX1_skipBlanks_X1_pass
theorem dX1_skipBlanks_0 : decode cX1_skipBlanks 0 = .ok (.iconst 0, 1) := by decide +kernel
theorem dX1_skipBlanks_1 : decode cX1_skipBlanks 1 = .ok (.istore_n 1, 1) := by decide +kernel
theorem dX1_skipBlanks_2 : decode cX1_skipBlanks 2 = .ok (.iload_n 1, 1) := by decide +kernel
theorem dX1_skipBlanks_3 : decode cX1_skipBlanks 3 = .ok (.sipush 160, 3) := by decide +kernel
theorem dX1_skipBlanks_6 : decode cX1_skipBlanks 6 = .ok (.if_icmp .ge 31, 3) := by decide +kernel
theorem dX1_skipBlanks_9 : decode cX1_skipBlanks 9 = .ok (.aload_n 0, 1) := by decide +kernel
theorem dX1_skipBlanks_10 : decode cX1_skipBlanks 10 = .ok (.invokevirtual 38, 3) := by decide +kernel
theorem dX1_skipBlanks_13 : decode cX1_skipBlanks 13 = .ok (.bipush 32, 2) := by decide +kernel
theorem dX1_skipBlanks_15 : decode cX1_skipBlanks 15 = .ok (.if_icmp .eq 12, 3) := by decide +kernel
theorem dX1_skipBlanks_18 : decode cX1_skipBlanks 18 = .ok (.aload_n 0, 1) := by decide +kernel
theorem dX1_skipBlanks_19 : decode cX1_skipBlanks 19 = .ok (.invokevirtual 38, 3) := by decide +kernel
theorem dX1_skipBlanks_22 : decode cX1_skipBlanks 22 = .ok (.bipush 10, 2) := by decide +kernel
theorem dX1_skipBlanks_24 : decode cX1_skipBlanks 24 = .ok (.if_icmp .ne 13, 3) := by decide +kernel
theorem dX1_skipBlanks_27 : decode cX1_skipBlanks 27 = .ok (.aload_n 0, 1) := by decide +kernel
theorem dX1_skipBlanks_28 : decode cX1_skipBlanks 28 = .ok (.invokevirtual 63, 3) := by decide +kernel
theorem dX1_skipBlanks_31 : decode cX1_skipBlanks 31 = .ok (.iinc 1 1, 3) := by decide +kernel
theorem dX1_skipBlanks_34 : decode cX1_skipBlanks 34 = .ok (.goto (-32), 3) := by decide +kernel
theorem dX1_skipBlanks_37 : decode cX1_skipBlanks 37 = .ok (.return_, 1) := by decide +kernel
end
section
theorem dX2_init_0 : decode cX2_init 0 = .ok (.aload_n 0, 1) := by decide +kernel
theorem dX2_init_1 : decode cX2_init 1 = .ok (.invokespecial 3, 3) := by decide +kernel
theorem dX2_init_4 : decode cX2_init 4 = .ok (.aload_n 0, 1) := by decide +kernel
theorem dX2_init_5 : decode cX2_init 5 = .ok (.sipush 160, 3) := by decide +kernel
theorem dX2_init_8 : decode cX2_init 8 = .ok (.newarray .byte, 2) := by decide +kernel
theorem dX2_init_10 : decode cX2_init 10 = .ok (.putfield 9, 3) := by decide +kernel
theorem dX2_init_13 : decode cX2_init 13 = .ok (.aload_n 0, 1) := by decide +kernel
theorem dX2_init_14 : decode cX2_init 14 = .ok (.iconst 0, 1) := by decide +kernel
theorem dX2_init_15 : decode cX2_init 15 = .ok (.putfield 15, 3) := by decide +kernel
theorem dX2_init_18 : decode cX2_init 18 = .ok (.return_, 1) := by decide +kernel
theorem dX2_append_0 : decode cX2_append 0 = .ok (.aload_n 0, 1) := by decide +kernel
theorem dX2_append_1 : decode cX2_append 1 = .ok (.getfield 15, 3) := by decide +kernel
theorem dX2_append_4 : decode cX2_append 4 = .ok (.aload_n 0, 1) := by decide +kernel
theorem dX2_append_5 : decode cX2_append 5 = .ok (.getfield 9, 3) := by decide +kernel
theorem dX2_append_8 : decode cX2_append 8 = .ok (.arraylength, 1) := by decide +kernel
theorem dX2_append_9 : decode cX2_append 9 = .ok (.if_icmp .ge 24, 3) := by decide +kernel
theorem dX2_append_12 : decode cX2_append 12 = .ok (.aload_n 0, 1) := by decide +kernel
theorem dX2_append_13 : decode cX2_append 13 = .ok (.getfield 9, 3) := by decide +kernel
theorem dX2_append_16 : decode cX2_append 16 = .ok (.aload_n 0, 1) := by decide +kernel
theorem dX2_append_17 : decode cX2_append 17 = .ok (.getfield 15, 3) := by decide +kernel
theorem dX2_append_20 : decode cX2_append 20 = .ok (.iload_n 1, 1) := by decide +kernel
theorem dX2_append_21 : decode cX2_append 21 = .ok (.i2b, 1) := by decide +kernel
theorem dX2_append_22 : decode cX2_append 22 = .ok (.bastore, 1) := by decide +kernel
theorem dX2_append_23 : decode cX2_append 23 = .ok (.aload_n 0, 1) := by decide +kernel
theorem dX2_append_24 : decode cX2_append 24 = .ok (.dup, 1) := by decide +kernel
theorem dX2_append_25 : decode cX2_append 25 = .ok (.getfield 15, 3) := by decide +kernel
theorem dX2_append_28 : decode cX2_append 28 = .ok (.iconst 1, 1) := by decide +kernel
theorem dX2_append_29 : decode cX2_append 29 = .ok (.iadd, 1) := by decide +kernel
theorem dX2_append_30 : decode cX2_append 30 = .ok (.putfield 15, 3) := by decide +kernel
theorem dX2_append_33 : decode cX2_append 33 = .ok (.return_, 1) := by decide +kernel
theorem dX2_charAt_0 : decode cX2_charAt 0 = .ok (.iload_n 1, 1) := by decide +kernel
theorem dX2_charAt_1 : decode cX2_charAt 1 = .ok (.ifCond .lt 20, 3) := by decide +kernel
theorem dX2_charAt_4 : decode cX2_charAt 4 = .ok (.iload_n 1, 1) := by decide +kernel
theorem dX2_charAt_5 : decode cX2_charAt 5 = .ok (.aload_n 0, 1) := by decide +kernel
theorem dX2_charAt_6 : decode cX2_charAt 6 = .ok (.getfield 15, 3) := by decide +kernel
theorem dX2_charAt_9 : decode cX2_charAt 9 = .ok (.if_icmp .ge 12, 3) := by decide +kernel
theorem dX2_charAt_12 : decode cX2_charAt 12 = .ok (.iload_n 1, 1) := by decide +kernel
theorem dX2_charAt_13 : decode cX2_charAt 13 = .ok (.aload_n 0, 1) := by decide +kernel
theorem dX2_charAt_14 : decode cX2_charAt 14 = .ok (.getfield 9, 3) := by decide +kernel
theorem dX2_charAt_17 : decode cX2_charAt 17 = .ok (.arraylength, 1) := by decide +kernel
theorem dX2_charAt_18 : decode cX2_charAt 18 = .ok (.if_icmp .lt 7, 3) := by decide +kernel
theorem dX2_charAt_21 : decode cX2_charAt 21 = .ok (.iconst 0, 1) := by decide +kernel
theorem dX2_charAt_22 : decode cX2_charAt 22 = .ok (.goto 9, 3) := by decide +kernel
theorem dX2_charAt_25 : decode cX2_charAt 25 = .ok (.aload_n 0, 1) := by decide +kernel
theorem dX2_charAt_26 : decode cX2_charAt 26 = .ok (.getfield 9, 3) := by decide +kernel
theorem dX2_charAt_29 : decode cX2_charAt 29 = .ok (.iload_n 1, 1) := by decide +kernel
theorem dX2_charAt_30 : decode cX2_charAt 30 = .ok (.baload, 1) := by decide +kernel
theorem dX2_charAt_31 : decode cX2_charAt 31 = .ok (.ireturn, 1) := by decide +kernel
end
section
theorem dX3_init_0 : decode cX3_init 0 = .ok (.aload_n 0, 1) := by decide +kernel
theorem dX3_init_1 : decode cX3_init 1 = .ok (.invokespecial 3, 3) := by decide +kernel
theorem dX3_init_4 : decode cX3_init 4 = .ok (.iload_n 1, 1) := by decide +kernel
theorem dX3_init_5 : decode cX3_init 5 = .ok (.ifCond .ge 7, 3) := by decide +kernel
theorem dX3_init_8 : decode cX3_init 8 = .ok (.iconst 0, 1) := by decide +kernel
theorem dX3_init_9 : decode cX3_init 9 = .ok (.goto 4, 3) := by decide +kernel
theorem dX3_init_12 : decode cX3_init 12 = .ok (.iload_n 1, 1) := by decide +kernel
theorem dX3_init_13 : decode cX3_init 13 = .ok (.istore_n 2, 1) := by decide +kernel
theorem dX3_init_14 : decode cX3_init 14 = .ok (.aload_n 0, 1) := by decide +kernel
theorem dX3_init_15 : decode cX3_init 15 = .ok (.iload_n 2, 1) := by decide +kernel
theorem dX3_init_16 : decode cX3_init 16 = .ok (.newarray .long, 2) := by decide +kernel
theorem dX3_init_18 : decode cX3_init 18 = .ok (.putfield 9, 3) := by decide +kernel
theorem dX3_init_21 : decode cX3_init 21 = .ok (.aload_n 0, 1) := by decide +kernel
theorem dX3_init_22 : decode cX3_init 22 = .ok (.iload_n 2, 1) := by decide +kernel
theorem dX3_init_23 : decode cX3_init 23 = .ok (.newarray .int, 2) := by decide +kernel
theorem dX3_init_25 : decode cX3_init 25 = .ok (.putfield 15, 3) := by decide +kernel
theorem dX3_init_28 : decode cX3_init 28 = .ok (.aload_n 0, 1) := by decide +kernel
theorem dX3_init_29 : decode cX3_init 29 = .ok (.iload_n 2, 1) := by decide +kernel
theorem dX3_init_30 : decode cX3_init 30 = .ok (.anewarray 19, 3) := by decide +kernel
theorem dX3_init_33 : decode cX3_init 33 = .ok (.putfield 21, 3) := by decide +kernel
theorem dX3_init_36 : decode cX3_init 36 = .ok (.aload_n 0, 1) := by decide +kernel
theorem dX3_init_37 : decode cX3_init 37 = .ok (.iload_n 2, 1) := by decide +kernel
theorem dX3_init_38 : decode cX3_init 38 = .ok (.newarray .int, 2) := by decide +kernel
theorem dX3_init_40 : decode cX3_init 40 = .ok (.putfield 25, 3) := by decide +kernel
theorem dX3_init_43 : decode cX3_init 43 = .ok (.aload_n 0, 1) := by decide +kernel
theorem dX3_init_44 : decode cX3_init 44 = .ok (.iconst 0, 1) := by decide +kernel
theorem dX3_init_45 : decode cX3_init 45 = .ok (.putfield 28, 3) := by decide +kernel
theorem dX3_init_48 : decode cX3_init 48 = .ok (.return_, 1) := by decide +kernel
theorem dX3_isFull_0 : decode cX3_isFull 0 = .ok (.aload_n 0, 1) := by decide +kernel
theorem dX3_isFull_1 : decode cX3_isFull 1 = .ok (.getfield 28, 3) := by decide +kernel
theorem dX3_isFull_4 : decode cX3_isFull 4 = .ok (.aload_n 0, 1) := by decide +kernel
theorem dX3_isFull_5 : decode cX3_isFull 5 = .ok (.getfield 9, 3) := by decide +kernel
theorem dX3_isFull_8 : decode cX3_isFull 8 = .ok (.arraylength, 1) := by decide +kernel
theorem dX3_isFull_9 : decode cX3_isFull 9 = .ok (.if_icmp .lt 7, 3) := by decide +kernel
theorem dX3_isFull_12 : decode cX3_isFull 12 = .ok (.iconst 1, 1) := by decide +kernel
theorem dX3_isFull_13 : decode cX3_isFull 13 = .ok (.goto 4, 3) := by decide +kernel
theorem dX3_isFull_16 : decode cX3_isFull 16 = .ok (.iconst 0, 1) := by decide +kernel
theorem dX3_isFull_17 : decode cX3_isFull 17 = .ok (.ireturn, 1) := by decide +kernel
theorem dX3_has_0 : decode cX3_has 0 = .ok (.iload_n 1, 1) := by decide +kernel
theorem dX3_has_1 : decode cX3_has 1 = .ok (.ifCond .lt 24, 3) := by decide +kernel
theorem dX3_has_4 : decode cX3_has 4 = .ok (.iload_n 1, 1) := by decide +kernel
theorem dX3_has_5 : decode cX3_has 5 = .ok (.aload_n 0, 1) := by decide +kernel
theorem dX3_has_6 : decode cX3_has 6 = .ok (.getfield 28, 3) := by decide +kernel
theorem dX3_has_9 : decode cX3_has 9 = .ok (.if_icmp .ge 16, 3) := by decide +kernel
theorem dX3_has_12 : decode cX3_has 12 = .ok (.iload_n 1, 1) := by decide +kernel
theorem dX3_has_13 : decode cX3_has 13 = .ok (.aload_n 0, 1) := by decide +kernel
theorem dX3_has_14 : decode cX3_has 14 = .ok (.getfield 9, 3) := by decide +kernel
theorem dX3_has_17 : decode cX3_has 17 = .ok (.arraylength, 1) := by decide +kernel
theorem dX3_has_18 : decode cX3_has 18 = .ok (.if_icmp .ge 7, 3) := by decide +kernel
theorem dX3_has_21 : decode cX3_has 21 = .ok (.iconst 1, 1) := by decide +kernel
theorem dX3_has_22 : decode cX3_has 22 = .ok (.goto 4, 3) := by decide +kernel
theorem dX3_has_25 : decode cX3_has 25 = .ok (.iconst 0, 1) := by decide +kernel
theorem dX3_has_26 : decode cX3_has 26 = .ok (.ireturn, 1) := by decide +kernel
theorem dX3_slotBelowTop_0 : decode cX3_slotBelowTop 0 = .ok (.iload_n 1, 1) := by decide +kernel
theorem dX3_slotBelowTop_1 : decode cX3_slotBelowTop 1 = .ok (.ifCond .lt 11, 3) := by decide +kernel
theorem dX3_slotBelowTop_4 : decode cX3_slotBelowTop 4 = .ok (.iload_n 1, 1) := by decide +kernel
theorem dX3_slotBelowTop_5 : decode cX3_slotBelowTop 5 = .ok (.aload_n 0, 1) := by decide +kernel
theorem dX3_slotBelowTop_6 : decode cX3_slotBelowTop 6 = .ok (.getfield 28, 3) := by decide +kernel
theorem dX3_slotBelowTop_9 : decode cX3_slotBelowTop 9 = .ok (.if_icmp .lt 7, 3) := by decide +kernel
theorem dX3_slotBelowTop_12 : decode cX3_slotBelowTop 12 = .ok (.iconst (-1), 1) := by decide +kernel
theorem dX3_slotBelowTop_13 : decode cX3_slotBelowTop 13 = .ok (.goto 11, 3) := by decide +kernel
theorem dX3_slotBelowTop_16 : decode cX3_slotBelowTop 16 = .ok (.aload_n 0, 1) := by decide +kernel
theorem dX3_slotBelowTop_17 : decode cX3_slotBelowTop 17 = .ok (.getfield 28, 3) := by decide +kernel
theorem dX3_slotBelowTop_20 : decode cX3_slotBelowTop 20 = .ok (.iconst 1, 1) := by decide +kernel
theorem dX3_slotBelowTop_21 : decode cX3_slotBelowTop 21 = .ok (.isub, 1) := by decide +kernel
theorem dX3_slotBelowTop_22 : decode cX3_slotBelowTop 22 = .ok (.iload_n 1, 1) := by decide +kernel
theorem dX3_slotBelowTop_23 : decode cX3_slotBelowTop 23 = .ok (.isub, 1) := by decide +kernel
theorem dX3_slotBelowTop_24 : decode cX3_slotBelowTop 24 = .ok (.ireturn, 1) := by decide +kernel
set_option maxRecDepth 20000 in
theorem ggX3_valueAt_X3_has : GoodIn wsX3_valueAt wsX3_has := goodIn_r _ [6, 7, 1, 8, 9, 10, 11, 12] (by decide +kernel) (by decide +kernel)
set_option maxRecDepth 20000 in
theorem gX3_valueAt_X3_has : GoodIn wsX3_valueAt (wsV RX3 32 RX3 yX3_has wsX3_has) := goodIn_app (goodIn_of _ (by decide +kernel)) ggX3_valueAt_X3_has
theorem dX3_valueAt_0 : decode cX3_valueAt 0 = .ok (.aload_n 0, 1) := by decide +kernel
theorem dX3_valueAt_1 : decode cX3_valueAt 1 = .ok (.iload_n 1, 1) := by decide +kernel
theorem dX3_valueAt_2 : decode cX3_valueAt 2 = .ok (.invokevirtual 32, 3) := by decide +kernel
theorem dX3_valueAt_5 : decode cX3_valueAt 5 = .ok (.ifCond .eq 12, 3) := by decide +kernel
theorem dX3_valueAt_8 : decode cX3_valueAt 8 = .ok (.aload_n 0, 1) := by decide +kernel
theorem dX3_valueAt_9 : decode cX3_valueAt 9 = .ok (.getfield 9, 3) := by decide +kernel
theorem dX3_valueAt_12 : decode cX3_valueAt 12 = .ok (.iload_n 1, 1) := by decide +kernel
theorem dX3_valueAt_13 : decode cX3_valueAt 13 = .ok (.laload, 1) := by decide +kernel
theorem dX3_valueAt_14 : decode cX3_valueAt 14 = .ok (.goto 4, 3) := by decide +kernel
theorem dX3_valueAt_17 : decode cX3_valueAt 17 = .ok (.lconst 0, 1) := by decide +kernel
theorem dX3_valueAt_18 : decode cX3_valueAt 18 = .ok (.lreturn, 1) := by decide +kernel
set_option maxRecDepth 20000 in
theorem ggX3_placesAt_X3_has : GoodIn wsX3_placesAt wsX3_has := goodIn_r _ [6, 7, 8, 9, 10, 11, 12, 13] (by decide +kernel) (by decide +kernel)
set_option maxRecDepth 20000 in
theorem gX3_placesAt_X3_has : GoodIn wsX3_placesAt (wsV RX3 32 RX3 yX3_has wsX3_has) := goodIn_app (goodIn_of _ (by decide +kernel)) ggX3_placesAt_X3_has
theorem dX3_placesAt_0 : decode cX3_placesAt 0 = .ok (.aload_n 0, 1) := by decide +kernel
theorem dX3_placesAt_1 : decode cX3_placesAt 1 = .ok (.iload_n 1, 1) := by decide +kernel
theorem dX3_placesAt_2 : decode cX3_placesAt 2 = .ok (.invokevirtual 32, 3) := by decide +kernel
theorem dX3_placesAt_5 : decode cX3_placesAt 5 = .ok (.ifCond .eq 12, 3) := by decide +kernel
theorem dX3_placesAt_8 : decode cX3_placesAt 8 = .ok (.aload_n 0, 1) := by decide +kernel
theorem dX3_placesAt_9 : decode cX3_placesAt 9 = .ok (.getfield 15, 3) := by decide +kernel
theorem dX3_placesAt_12 : decode cX3_placesAt 12 = .ok (.iload_n 1, 1) := by decide +kernel
theorem dX3_placesAt_13 : decode cX3_placesAt 13 = .ok (.iaload, 1) := by decide +kernel
theorem dX3_placesAt_14 : decode cX3_placesAt 14 = .ok (.goto 5, 3) := by decide +kernel
theorem dX3_placesAt_17 : decode cX3_placesAt 17 = .ok (.bipush (-2), 2) := by decide +kernel
theorem dX3_placesAt_19 : decode cX3_placesAt 19 = .ok (.ireturn, 1) := by decide +kernel
set_option maxRecDepth 20000 in
theorem ggX3_rowAt_X3_has : GoodIn wsX3_rowAt wsX3_has := goodIn_r _ [6, 7, 8, 9, 10, 11, 12, 13] (by decide +kernel) (by decide +kernel)
set_option maxRecDepth 20000 in
theorem gX3_rowAt_X3_has : GoodIn wsX3_rowAt (wsV RX3 32 RX3 yX3_has wsX3_has) := goodIn_app (goodIn_of _ (by decide +kernel)) ggX3_rowAt_X3_has
theorem dX3_rowAt_0 : decode cX3_rowAt 0 = .ok (.aload_n 0, 1) := by decide +kernel
theorem dX3_rowAt_1 : decode cX3_rowAt 1 = .ok (.iload_n 1, 1) := by decide +kernel
theorem dX3_rowAt_2 : decode cX3_rowAt 2 = .ok (.invokevirtual 32, 3) := by decide +kernel
theorem dX3_rowAt_5 : decode cX3_rowAt 5 = .ok (.ifCond .eq 12, 3) := by decide +kernel
theorem dX3_rowAt_8 : decode cX3_rowAt 8 = .ok (.aload_n 0, 1) := by decide +kernel
theorem dX3_rowAt_9 : decode cX3_rowAt 9 = .ok (.getfield 21, 3) := by decide +kernel
theorem dX3_rowAt_12 : decode cX3_rowAt 12 = .ok (.iload_n 1, 1) := by decide +kernel
theorem dX3_rowAt_13 : decode cX3_rowAt 13 = .ok (.aaload, 1) := by decide +kernel
theorem dX3_rowAt_14 : decode cX3_rowAt 14 = .ok (.goto 4, 3) := by decide +kernel
theorem dX3_rowAt_17 : decode cX3_rowAt 17 = .ok (.aconst_null, 1) := by decide +kernel
theorem dX3_rowAt_18 : decode cX3_rowAt 18 = .ok (.areturn, 1) := by decide +kernel
set_option maxRecDepth 20000 in
theorem ggX3_startAt_X3_has : GoodIn wsX3_startAt wsX3_has := goodIn_r _ [6, 7, 8, 9, 10, 11, 12, 13] (by decide +kernel) (by decide +kernel)
set_option maxRecDepth 20000 in
theorem gX3_startAt_X3_has : GoodIn wsX3_startAt (wsV RX3 32 RX3 yX3_has wsX3_has) := goodIn_app (goodIn_of _ (by decide +kernel)) ggX3_startAt_X3_has
theorem dX3_startAt_0 : decode cX3_startAt 0 = .ok (.aload_n 0, 1) := by decide +kernel
theorem dX3_startAt_1 : decode cX3_startAt 1 = .ok (.iload_n 1, 1) := by decide +kernel
theorem dX3_startAt_2 : decode cX3_startAt 2 = .ok (.invokevirtual 32, 3) := by decide +kernel
theorem dX3_startAt_5 : decode cX3_startAt 5 = .ok (.ifCond .eq 12, 3) := by decide +kernel
theorem dX3_startAt_8 : decode cX3_startAt 8 = .ok (.aload_n 0, 1) := by decide +kernel
theorem dX3_startAt_9 : decode cX3_startAt 9 = .ok (.getfield 25, 3) := by decide +kernel
theorem dX3_startAt_12 : decode cX3_startAt 12 = .ok (.iload_n 1, 1) := by decide +kernel
theorem dX3_startAt_13 : decode cX3_startAt 13 = .ok (.iaload, 1) := by decide +kernel
theorem dX3_startAt_14 : decode cX3_startAt 14 = .ok (.goto 4, 3) := by decide +kernel
theorem dX3_startAt_17 : decode cX3_startAt 17 = .ok (.iconst 0, 1) := by decide +kernel
theorem dX3_startAt_18 : decode cX3_startAt 18 = .ok (.ireturn, 1) := by decide +kernel
set_option maxRecDepth 20000 in
theorem ggX3_putNumber_X3_put : GoodIn wsX3_putNumber wsX3_put := goodIn_ca (goodIn_r _ [5, 6, 7, 8, 9, 10, 11, 4, 12, 13, 14, 15, 16, 17, 18, 19, 20, 21, 22, 23, 24, 25, 26, 27, 28, 29] (by decide +kernel) (by decide +kernel)) (goodIn_sub (fun _ h => List.mem_cons_of_mem _ (List.mem_append_right _ h)) (by decide +kernel))
set_option maxRecDepth 20000 in
theorem gX3_putNumber_X3_put : GoodIn wsX3_putNumber (wsV RX3 36 RX3 yX3_put wsX3_put) := goodIn_app (goodIn_of _ (by decide +kernel)) ggX3_putNumber_X3_put
theorem dX3_putNumber_0 : decode cX3_putNumber 0 = .ok (.aload_n 0, 1) := by decide +kernel
theorem dX3_putNumber_1 : decode cX3_putNumber 1 = .ok (.lload_n 1, 1) := by decide +kernel
theorem dX3_putNumber_2 : decode cX3_putNumber 2 = .ok (.iload_n 3, 1) := by decide +kernel
theorem dX3_putNumber_3 : decode cX3_putNumber 3 = .ok (.aconst_null, 1) := by decide +kernel
theorem dX3_putNumber_4 : decode cX3_putNumber 4 = .ok (.iconst 0, 1) := by decide +kernel
theorem dX3_putNumber_5 : decode cX3_putNumber 5 = .ok (.invokevirtual 36, 3) := by decide +kernel
theorem dX3_putNumber_8 : decode cX3_putNumber 8 = .ok (.return_, 1) := by decide +kernel
set_option maxRecDepth 20000 in
theorem ggX3_putText_X3_put : GoodIn wsX3_putText wsX3_put := goodIn_ca (goodIn_r _ [5, 6, 7, 8, 9, 10, 11, 4, 12, 13, 14, 15, 16, 17, 18, 19, 20, 21, 22, 23, 24, 25, 26, 27, 28, 29] (by decide +kernel) (by decide +kernel)) (goodIn_sub (fun _ h => List.mem_cons_of_mem _ (List.mem_append_right _ h)) (by decide +kernel))
set_option maxRecDepth 20000 in
theorem gX3_putText_X3_put : GoodIn wsX3_putText (wsV RX3 36 RX3 yX3_put wsX3_put) := goodIn_app (goodIn_of _ (by decide +kernel)) ggX3_putText_X3_put
theorem dX3_putText_0 : decode cX3_putText 0 = .ok (.aload_n 0, 1) := by decide +kernel
theorem dX3_putText_1 : decode cX3_putText 1 = .ok (.iload_n 3, 1) := by decide +kernel
theorem dX3_putText_2 : decode cX3_putText 2 = .ok (.i2l, 1) := by decide +kernel
theorem dX3_putText_3 : decode cX3_putText 3 = .ok (.iconst (-1), 1) := by decide +kernel
theorem dX3_putText_4 : decode cX3_putText 4 = .ok (.aload_n 1, 1) := by decide +kernel
theorem dX3_putText_5 : decode cX3_putText 5 = .ok (.iload_n 2, 1) := by decide +kernel
theorem dX3_putText_6 : decode cX3_putText 6 = .ok (.invokevirtual 36, 3) := by decide +kernel
theorem dX3_putText_9 : decode cX3_putText 9 = .ok (.return_, 1) := by decide +kernel
set_option maxRecDepth 20000 in
theorem ggX3_putTopOf_X3_slotBelowTop : GoodIn wsX3_putTopOf wsX3_slotBelowTop := goodIn_r _ [5, 6, 45, 46, 47, 48, 49] (by decide +kernel) (by decide +kernel)
set_option maxRecDepth 20000 in
theorem gX3_putTopOf_X3_slotBelowTop : GoodIn wsX3_putTopOf (wsV RX3 40 RX3 yX3_slotBelowTop wsX3_slotBelowTop) := goodIn_app (goodIn_of _ (by decide +kernel)) ggX3_putTopOf_X3_slotBelowTop
set_option maxRecDepth 20000 in
theorem ggX3_putTopOf_X3_valueAt : GoodIn wsX3_putTopOf wsX3_valueAt := goodIn_r _ [10, 11, 12, 13, 14, 4, 15, 6, 45, 46, 47, 48, 49] (by decide +kernel) (by decide +kernel)
set_option maxRecDepth 20000 in
theorem gX3_putTopOf_X3_valueAt : GoodIn wsX3_putTopOf (wsV RX3 44 RX3 yX3_valueAt wsX3_valueAt) := goodIn_app (goodIn_of _ (by decide +kernel)) ggX3_putTopOf_X3_valueAt
set_option maxRecDepth 20000 in
theorem ggX3_putTopOf_X3_placesAt : GoodIn wsX3_putTopOf wsX3_placesAt := goodIn_r _ [19, 20, 12, 13, 14, 4, 15, 6, 11, 45, 46, 47, 48, 49] (by decide +kernel) (by decide +kernel)
set_option maxRecDepth 20000 in
theorem gX3_putTopOf_X3_placesAt : GoodIn wsX3_putTopOf (wsV RX3 48 RX3 yX3_placesAt wsX3_placesAt) := goodIn_app (goodIn_of _ (by decide +kernel)) ggX3_putTopOf_X3_placesAt
set_option maxRecDepth 20000 in
theorem ggX3_putTopOf_X3_rowAt : GoodIn wsX3_putTopOf wsX3_rowAt := goodIn_r _ [24, 25, 12, 13, 14, 4, 15, 6, 11, 45, 46, 47, 48, 49] (by decide +kernel) (by decide +kernel)
set_option maxRecDepth 20000 in
theorem gX3_putTopOf_X3_rowAt : GoodIn wsX3_putTopOf (wsV RX3 51 RX3 yX3_rowAt wsX3_rowAt) := goodIn_app (goodIn_of _ (by decide +kernel)) ggX3_putTopOf_X3_rowAt
set_option maxRecDepth 20000 in
theorem ggX3_putTopOf_X3_startAt : GoodIn wsX3_putTopOf wsX3_startAt := goodIn_r _ [29, 30, 12, 13, 14, 4, 15, 6, 11, 45, 46, 47, 48, 49] (by decide +kernel) (by decide +kernel)
set_option maxRecDepth 20000 in
theorem gX3_putTopOf_X3_startAt : GoodIn wsX3_putTopOf (wsV RX3 55 RX3 yX3_startAt wsX3_startAt) := goodIn_app (goodIn_of _ (by decide +kernel)) ggX3_putTopOf_X3_startAt
set_option maxRecDepth 20000 in
theorem ggX3_putTopOf_X3_put : GoodIn wsX3_putTopOf wsX3_put := goodIn_ca (goodIn_r _ [34, 35, 36, 6, 37, 38, 39, 4, 40, 11, 41, 42, 43, 44, 20, 25, 30, 12, 13, 14, 15, 45, 46, 47, 48, 49] (by decide +kernel) (by decide +kernel)) (goodIn_sub (fun _ h => List.mem_cons_of_mem _ (List.mem_append_right _ h)) (by decide +kernel))
set_option maxRecDepth 20000 in
theorem gX3_putTopOf_X3_put : GoodIn wsX3_putTopOf (wsV RX3 36 RX3 yX3_put wsX3_put) := goodIn_app (goodIn_of _ (by decide +kernel)) ggX3_putTopOf_X3_put
theorem dX3_putTopOf_0 : decode cX3_putTopOf 0 = .ok (.aload_n 1, 1) := by decide +kernel
theorem dX3_putTopOf_1 : decode cX3_putTopOf 1 = .ok (.iconst 0, 1) := by decide +kernel
theorem dX3_putTopOf_2 : decode cX3_putTopOf 2 = .ok (.invokevirtual 40, 3) := by decide +kernel
theorem dX3_putTopOf_5 : decode cX3_putTopOf 5 = .ok (.istore_n 2, 1) := by decide +kernel
theorem dX3_putTopOf_6 : decode cX3_putTopOf 6 = .ok (.aload_n 0, 1) := by decide +kernel
theorem dX3_putTopOf_7 : decode cX3_putTopOf 7 = .ok (.aload_n 1, 1) := by decide +kernel
theorem dX3_putTopOf_8 : decode cX3_putTopOf 8 = .ok (.iload_n 2, 1) := by decide +kernel
theorem dX3_putTopOf_9 : decode cX3_putTopOf 9 = .ok (.invokevirtual 44, 3) := by decide +kernel
theorem dX3_putTopOf_12 : decode cX3_putTopOf 12 = .ok (.aload_n 1, 1) := by decide +kernel
theorem dX3_putTopOf_13 : decode cX3_putTopOf 13 = .ok (.iload_n 2, 1) := by decide +kernel
theorem dX3_putTopOf_14 : decode cX3_putTopOf 14 = .ok (.invokevirtual 48, 3) := by decide +kernel
theorem dX3_putTopOf_17 : decode cX3_putTopOf 17 = .ok (.aload_n 1, 1) := by decide +kernel
theorem dX3_putTopOf_18 : decode cX3_putTopOf 18 = .ok (.iload_n 2, 1) := by decide +kernel
theorem dX3_putTopOf_19 : decode cX3_putTopOf 19 = .ok (.invokevirtual 51, 3) := by decide +kernel
theorem dX3_putTopOf_22 : decode cX3_putTopOf 22 = .ok (.aload_n 1, 1) := by decide +kernel
theorem dX3_putTopOf_23 : decode cX3_putTopOf 23 = .ok (.iload_n 2, 1) := by decide +kernel
theorem dX3_putTopOf_24 : decode cX3_putTopOf 24 = .ok (.invokevirtual 55, 3) := by decide +kernel
theorem dX3_putTopOf_27 : decode cX3_putTopOf 27 = .ok (.invokevirtual 36, 3) := by decide +kernel
theorem dX3_putTopOf_30 : decode cX3_putTopOf 30 = .ok (.return_, 1) := by decide +kernel
set_option maxRecDepth 20000 in
theorem ggX3_put_X3_isFull : GoodIn wsX3_put wsX3_isFull := goodIn_r _ [8, 3, 9, 21, 22, 23, 24, 25] (by decide +kernel) (by decide +kernel)
set_option maxRecDepth 20000 in
theorem gX3_put_X3_isFull : GoodIn wsX3_put (wsV RX3 58 RX3 yX3_isFull wsX3_isFull) := goodIn_app (goodIn_of _ (by decide +kernel)) ggX3_put_X3_isFull
set_option maxRecDepth 20000 in
theorem ggX3_put_X3_set : GoodIn wsX3_put wsX3_set := goodIn_r _ [13, 9, 14, 15, 16, 17, 18, 19, 7, 20, 3, 21, 22, 23, 24, 25] (by decide +kernel) (by decide +kernel)
set_option maxRecDepth 20000 in
theorem gX3_put_X3_set : GoodIn wsX3_put (wsV RX3 69 RX3 yX3_set wsX3_set) := goodIn_app (goodIn_of _ (by decide +kernel)) ggX3_put_X3_set
theorem dX3_put_0 : decode cX3_put 0 = .ok (.aload_n 0, 1) := by decide +kernel
theorem dX3_put_1 : decode cX3_put 1 = .ok (.invokevirtual 58, 3) := by decide +kernel
theorem dX3_put_4 : decode cX3_put 4 = .ok (.ifCond .eq 13, 3) := by decide +kernel
theorem dX3_put_7 : decode cX3_put 7 = .ok (.new 62, 3) := by decide +kernel
theorem dX3_put_10 : decode cX3_put 10 = .ok (.dup, 1) := by decide +kernel
theorem dX3_put_11 : decode cX3_put 11 = .ok (.ldc 64, 2) := by decide +kernel
theorem dX3_put_13 : decode cX3_put 13 = .ok (.invokespecial 66, 3) := by decide +kernel
theorem dX3_put_16 : decode cX3_put 16 = .ok (.athrow, 1) := by decide +kernel
theorem dX3_put_17 : decode cX3_put 17 = .ok (.aload_n 0, 1) := by decide +kernel
theorem dX3_put_18 : decode cX3_put 18 = .ok (.dup, 1) := by decide +kernel
theorem dX3_put_19 : decode cX3_put 19 = .ok (.getfield 28, 3) := by decide +kernel
theorem dX3_put_22 : decode cX3_put 22 = .ok (.iconst 1, 1) := by decide +kernel
theorem dX3_put_23 : decode cX3_put 23 = .ok (.iadd, 1) := by decide +kernel
theorem dX3_put_24 : decode cX3_put 24 = .ok (.putfield 28, 3) := by decide +kernel
theorem dX3_put_27 : decode cX3_put 27 = .ok (.aload_n 0, 1) := by decide +kernel
theorem dX3_put_28 : decode cX3_put 28 = .ok (.aload_n 0, 1) := by decide +kernel
theorem dX3_put_29 : decode cX3_put 29 = .ok (.getfield 28, 3) := by decide +kernel
theorem dX3_put_32 : decode cX3_put 32 = .ok (.iconst 1, 1) := by decide +kernel
theorem dX3_put_33 : decode cX3_put 33 = .ok (.isub, 1) := by decide +kernel
theorem dX3_put_34 : decode cX3_put 34 = .ok (.lload_n 1, 1) := by decide +kernel
theorem dX3_put_35 : decode cX3_put 35 = .ok (.iload_n 3, 1) := by decide +kernel
theorem dX3_put_36 : decode cX3_put 36 = .ok (.aload 4, 2) := by decide +kernel
theorem dX3_put_38 : decode cX3_put 38 = .ok (.iload 5, 2) := by decide +kernel
theorem dX3_put_40 : decode cX3_put 40 = .ok (.invokevirtual 69, 3) := by decide +kernel
theorem dX3_put_43 : decode cX3_put 43 = .ok (.return_, 1) := by decide +kernel
set_option maxRecDepth 20000 in
theorem ggX3_set_X3_has : GoodIn wsX3_set wsX3_has := goodIn_r _ [9, 10, 1, 11, 12, 13, 14, 15] (by decide +kernel) (by decide +kernel)
set_option maxRecDepth 20000 in
theorem gX3_set_X3_has : GoodIn wsX3_set (wsV RX3 32 RX3 yX3_has wsX3_has) := goodIn_app (goodIn_of _ (by decide +kernel)) ggX3_set_X3_has
theorem dX3_set_0 : decode cX3_set 0 = .ok (.aload_n 0, 1) := by decide +kernel
theorem dX3_set_1 : decode cX3_set 1 = .ok (.iload_n 1, 1) := by decide +kernel
theorem dX3_set_2 : decode cX3_set 2 = .ok (.invokevirtual 32, 3) := by decide +kernel
theorem dX3_set_5 : decode cX3_set 5 = .ok (.ifCond .eq 34, 3) := by decide +kernel
theorem dX3_set_8 : decode cX3_set 8 = .ok (.aload_n 0, 1) := by decide +kernel
theorem dX3_set_9 : decode cX3_set 9 = .ok (.getfield 9, 3) := by decide +kernel
theorem dX3_set_12 : decode cX3_set 12 = .ok (.iload_n 1, 1) := by decide +kernel
theorem dX3_set_13 : decode cX3_set 13 = .ok (.lload_n 2, 1) := by decide +kernel
theorem dX3_set_14 : decode cX3_set 14 = .ok (.lastore, 1) := by decide +kernel
theorem dX3_set_15 : decode cX3_set 15 = .ok (.aload_n 0, 1) := by decide +kernel
theorem dX3_set_16 : decode cX3_set 16 = .ok (.getfield 15, 3) := by decide +kernel
theorem dX3_set_19 : decode cX3_set 19 = .ok (.iload_n 1, 1) := by decide +kernel
theorem dX3_set_20 : decode cX3_set 20 = .ok (.iload 4, 2) := by decide +kernel
theorem dX3_set_22 : decode cX3_set 22 = .ok (.iastore, 1) := by decide +kernel
theorem dX3_set_23 : decode cX3_set 23 = .ok (.aload_n 0, 1) := by decide +kernel
theorem dX3_set_24 : decode cX3_set 24 = .ok (.getfield 21, 3) := by decide +kernel
theorem dX3_set_27 : decode cX3_set 27 = .ok (.iload_n 1, 1) := by decide +kernel
theorem dX3_set_28 : decode cX3_set 28 = .ok (.aload 5, 2) := by decide +kernel
theorem dX3_set_30 : decode cX3_set 30 = .ok (.aastore, 1) := by decide +kernel
theorem dX3_set_31 : decode cX3_set 31 = .ok (.aload_n 0, 1) := by decide +kernel
theorem dX3_set_32 : decode cX3_set 32 = .ok (.getfield 25, 3) := by decide +kernel
theorem dX3_set_35 : decode cX3_set 35 = .ok (.iload_n 1, 1) := by decide +kernel
theorem dX3_set_36 : decode cX3_set 36 = .ok (.iload 6, 2) := by decide +kernel
theorem dX3_set_38 : decode cX3_set 38 = .ok (.iastore, 1) := by decide +kernel
theorem dX3_set_39 : decode cX3_set 39 = .ok (.return_, 1) := by decide +kernel
set_option maxRecDepth 20000 in
theorem ggX3_swapTopTwo_X3_slotBelowTop : GoodIn wsX3_swapTopTwo wsX3_slotBelowTop := goodIn_r _ [5, 6, 35, 36, 37, 38, 39] (by decide +kernel) (by decide +kernel)
set_option maxRecDepth 20000 in
theorem gX3_swapTopTwo_X3_slotBelowTop : GoodIn wsX3_swapTopTwo (wsV RX3 40 RX3 yX3_slotBelowTop wsX3_slotBelowTop) := goodIn_app (goodIn_of _ (by decide +kernel)) ggX3_swapTopTwo_X3_slotBelowTop
set_option maxRecDepth 20000 in
theorem ggX3_swapTopTwo_X3_valueAt : GoodIn wsX3_swapTopTwo wsX3_valueAt := goodIn_r _ [10, 11, 12, 13, 14, 4, 15, 6, 35, 36, 37, 38, 39] (by decide +kernel) (by decide +kernel)
set_option maxRecDepth 20000 in
theorem gX3_swapTopTwo_X3_valueAt : GoodIn wsX3_swapTopTwo (wsV RX3 44 RX3 yX3_valueAt wsX3_valueAt) := goodIn_app (goodIn_of _ (by decide +kernel)) ggX3_swapTopTwo_X3_valueAt
set_option maxRecDepth 20000 in
theorem ggX3_swapTopTwo_X3_placesAt : GoodIn wsX3_swapTopTwo wsX3_placesAt := goodIn_r _ [19, 20, 12, 13, 14, 4, 15, 6, 11, 35, 36, 37, 38, 39] (by decide +kernel) (by decide +kernel)
set_option maxRecDepth 20000 in
theorem gX3_swapTopTwo_X3_placesAt : GoodIn wsX3_swapTopTwo (wsV RX3 48 RX3 yX3_placesAt wsX3_placesAt) := goodIn_app (goodIn_of _ (by decide +kernel)) ggX3_swapTopTwo_X3_placesAt
set_option maxRecDepth 20000 in
theorem ggX3_swapTopTwo_X3_rowAt : GoodIn wsX3_swapTopTwo wsX3_rowAt := goodIn_r _ [24, 25, 12, 13, 14, 4, 15, 6, 11, 35, 36, 37, 38, 39] (by decide +kernel) (by decide +kernel)
set_option maxRecDepth 20000 in
theorem gX3_swapTopTwo_X3_rowAt : GoodIn wsX3_swapTopTwo (wsV RX3 51 RX3 yX3_rowAt wsX3_rowAt) := goodIn_app (goodIn_of _ (by decide +kernel)) ggX3_swapTopTwo_X3_rowAt
set_option maxRecDepth 20000 in
theorem ggX3_swapTopTwo_X3_startAt : GoodIn wsX3_swapTopTwo wsX3_startAt := goodIn_r _ [29, 30, 12, 13, 14, 4, 15, 6, 11, 35, 36, 37, 38, 39] (by decide +kernel) (by decide +kernel)
set_option maxRecDepth 20000 in
theorem gX3_swapTopTwo_X3_startAt : GoodIn wsX3_swapTopTwo (wsV RX3 55 RX3 yX3_startAt wsX3_startAt) := goodIn_app (goodIn_of _ (by decide +kernel)) ggX3_swapTopTwo_X3_startAt
set_option maxRecDepth 20000 in
theorem ggX3_swapTopTwo_X3_set : GoodIn wsX3_swapTopTwo wsX3_set := goodIn_r _ [34, 11, 20, 25, 30, 12, 13, 14, 4, 15, 6, 35, 36, 37, 38, 39] (by decide +kernel) (by decide +kernel)
set_option maxRecDepth 20000 in
theorem gX3_swapTopTwo_X3_set : GoodIn wsX3_swapTopTwo (wsV RX3 69 RX3 yX3_set wsX3_set) := goodIn_app (goodIn_of _ (by decide +kernel)) ggX3_swapTopTwo_X3_set
theorem dX3_swapTopTwo_0 : decode cX3_swapTopTwo 0 = .ok (.aload_n 0, 1) := by decide +kernel
theorem dX3_swapTopTwo_1 : decode cX3_swapTopTwo 1 = .ok (.iconst 0, 1) := by decide +kernel
theorem dX3_swapTopTwo_2 : decode cX3_swapTopTwo 2 = .ok (.invokevirtual 40, 3) := by decide +kernel
theorem dX3_swapTopTwo_5 : decode cX3_swapTopTwo 5 = .ok (.istore_n 1, 1) := by decide +kernel
theorem dX3_swapTopTwo_6 : decode cX3_swapTopTwo 6 = .ok (.aload_n 0, 1) := by decide +kernel
theorem dX3_swapTopTwo_7 : decode cX3_swapTopTwo 7 = .ok (.iconst 1, 1) := by decide +kernel
theorem dX3_swapTopTwo_8 : decode cX3_swapTopTwo 8 = .ok (.invokevirtual 40, 3) := by decide +kernel
theorem dX3_swapTopTwo_11 : decode cX3_swapTopTwo 11 = .ok (.istore_n 2, 1) := by decide +kernel
theorem dX3_swapTopTwo_12 : decode cX3_swapTopTwo 12 = .ok (.aload_n 0, 1) := by decide +kernel
theorem dX3_swapTopTwo_13 : decode cX3_swapTopTwo 13 = .ok (.iload_n 1, 1) := by decide +kernel
theorem dX3_swapTopTwo_14 : decode cX3_swapTopTwo 14 = .ok (.invokevirtual 44, 3) := by decide +kernel
theorem dX3_swapTopTwo_17 : decode cX3_swapTopTwo 17 = .ok (.lstore_n 3, 1) := by decide +kernel
theorem dX3_swapTopTwo_18 : decode cX3_swapTopTwo 18 = .ok (.aload_n 0, 1) := by decide +kernel
theorem dX3_swapTopTwo_19 : decode cX3_swapTopTwo 19 = .ok (.iload_n 1, 1) := by decide +kernel
theorem dX3_swapTopTwo_20 : decode cX3_swapTopTwo 20 = .ok (.invokevirtual 48, 3) := by decide +kernel
theorem dX3_swapTopTwo_23 : decode cX3_swapTopTwo 23 = .ok (.istore 5, 2) := by decide +kernel
theorem dX3_swapTopTwo_25 : decode cX3_swapTopTwo 25 = .ok (.aload_n 0, 1) := by decide +kernel
theorem dX3_swapTopTwo_26 : decode cX3_swapTopTwo 26 = .ok (.iload_n 1, 1) := by decide +kernel
theorem dX3_swapTopTwo_27 : decode cX3_swapTopTwo 27 = .ok (.invokevirtual 51, 3) := by decide +kernel
theorem dX3_swapTopTwo_30 : decode cX3_swapTopTwo 30 = .ok (.astore 6, 2) := by decide +kernel
theorem dX3_swapTopTwo_32 : decode cX3_swapTopTwo 32 = .ok (.aload_n 0, 1) := by decide +kernel
theorem dX3_swapTopTwo_33 : decode cX3_swapTopTwo 33 = .ok (.iload_n 1, 1) := by decide +kernel
theorem dX3_swapTopTwo_34 : decode cX3_swapTopTwo 34 = .ok (.invokevirtual 55, 3) := by decide +kernel
theorem dX3_swapTopTwo_37 : decode cX3_swapTopTwo 37 = .ok (.istore 7, 2) := by decide +kernel
theorem dX3_swapTopTwo_39 : decode cX3_swapTopTwo 39 = .ok (.aload_n 0, 1) := by decide +kernel
theorem dX3_swapTopTwo_40 : decode cX3_swapTopTwo 40 = .ok (.iload_n 1, 1) := by decide +kernel
theorem dX3_swapTopTwo_41 : decode cX3_swapTopTwo 41 = .ok (.aload_n 0, 1) := by decide +kernel
theorem dX3_swapTopTwo_42 : decode cX3_swapTopTwo 42 = .ok (.iload_n 2, 1) := by decide +kernel
theorem dX3_swapTopTwo_43 : decode cX3_swapTopTwo 43 = .ok (.invokevirtual 44, 3) := by decide +kernel
theorem dX3_swapTopTwo_46 : decode cX3_swapTopTwo 46 = .ok (.aload_n 0, 1) := by decide +kernel
theorem dX3_swapTopTwo_47 : decode cX3_swapTopTwo 47 = .ok (.iload_n 2, 1) := by decide +kernel
theorem dX3_swapTopTwo_48 : decode cX3_swapTopTwo 48 = .ok (.invokevirtual 48, 3) := by decide +kernel
theorem dX3_swapTopTwo_51 : decode cX3_swapTopTwo 51 = .ok (.aload_n 0, 1) := by decide +kernel
theorem dX3_swapTopTwo_52 : decode cX3_swapTopTwo 52 = .ok (.iload_n 2, 1) := by decide +kernel
theorem dX3_swapTopTwo_53 : decode cX3_swapTopTwo 53 = .ok (.invokevirtual 51, 3) := by decide +kernel
theorem dX3_swapTopTwo_56 : decode cX3_swapTopTwo 56 = .ok (.aload_n 0, 1) := by decide +kernel
theorem dX3_swapTopTwo_57 : decode cX3_swapTopTwo 57 = .ok (.iload_n 2, 1) := by decide +kernel
theorem dX3_swapTopTwo_58 : decode cX3_swapTopTwo 58 = .ok (.invokevirtual 55, 3) := by decide +kernel
theorem dX3_swapTopTwo_61 : decode cX3_swapTopTwo 61 = .ok (.invokevirtual 69, 3) := by decide +kernel
theorem dX3_swapTopTwo_64 : decode cX3_swapTopTwo 64 = .ok (.aload_n 0, 1) := by decide +kernel
theorem dX3_swapTopTwo_65 : decode cX3_swapTopTwo 65 = .ok (.iload_n 2, 1) := by decide +kernel
theorem dX3_swapTopTwo_66 : decode cX3_swapTopTwo 66 = .ok (.lload_n 3, 1) := by decide +kernel
theorem dX3_swapTopTwo_67 : decode cX3_swapTopTwo 67 = .ok (.iload 5, 2) := by decide +kernel
theorem dX3_swapTopTwo_69 : decode cX3_swapTopTwo 69 = .ok (.aload 6, 2) := by decide +kernel
theorem dX3_swapTopTwo_71 : decode cX3_swapTopTwo 71 = .ok (.iload 7, 2) := by decide +kernel
theorem dX3_swapTopTwo_73 : decode cX3_swapTopTwo 73 = .ok (.invokevirtual 69, 3) := by decide +kernel
theorem dX3_swapTopTwo_76 : decode cX3_swapTopTwo 76 = .ok (.return_, 1) := by decide +kernel
theorem dX3_drop_0 : decode cX3_drop 0 = .ok (.aload_n 0, 1) := by decide +kernel
theorem dX3_drop_1 : decode cX3_drop 1 = .ok (.iconst 0, 1) := by decide +kernel
theorem dX3_drop_2 : decode cX3_drop 2 = .ok (.aload_n 0, 1) := by decide +kernel
theorem dX3_drop_3 : decode cX3_drop 3 = .ok (.getfield 28, 3) := by decide +kernel
theorem dX3_drop_6 : decode cX3_drop 6 = .ok (.iload_n 1, 1) := by decide +kernel
theorem dX3_drop_7 : decode cX3_drop 7 = .ok (.isub, 1) := by decide +kernel
theorem dX3_drop_8 : decode cX3_drop 8 = .ok (.invokestatic 73, 3) := by decide +kernel
theorem dX3_drop_11 : decode cX3_drop 11 = .ok (.putfield 28, 3) := by decide +kernel
theorem dX3_drop_14 : decode cX3_drop 14 = .ok (.return_, 1) := by decide +kernel
theorem dX3_clear_0 : decode cX3_clear 0 = .ok (.aload_n 0, 1) := by decide +kernel
theorem dX3_clear_1 : decode cX3_clear 1 = .ok (.iconst 0, 1) := by decide +kernel
theorem dX3_clear_2 : decode cX3_clear 2 = .ok (.putfield 28, 3) := by decide +kernel
theorem dX3_clear_5 : decode cX3_clear 5 = .ok (.return_, 1) := by decide +kernel
end
section
section XQA
def xq_Q (Qc : Array Value → State → Outcome → State → Prop) (XC : String → State → State → Prop) (mc ms mx sx : Nat) (free : Addr → Prop) : Array Value → State → Outcome → State → Prop := fun a st o t =>
  (Qc a st o t ∧ ∃ L, FrameEnd st o t L mc ms ∧ ∀ q ∈ L, free q.base) ∨ ∃ q, o = .threw q ∧ vx_T XC st q t mx sx free
def xq_Met (l : Launch) (y : MethodName) (ws : List Cond) (rm : Room) (Pc : Array Value → State → Prop) (Qc : Array Value → State → Outcome → State → Prop) (XC : String → State → State → Prop) (mc ms mx sx : Nat) (free : Addr → Prop) : Prop :=
  MetFree l y (headSpec ws rm) Pc (fun _ _ _ _ _ => True) (xq_Q Qc XC mc ms mx sx free)
section Payer
variable {l : Launch} {R : Room} {p : Program} {e : Env} {below : List Frame} {s : State} {sargs : Array Value} {y : MethodName} {len W9 : Nat}
theorem xq_back {ws : List Cond} {rm : Room} {Pc : Array Value → State → Prop} {Qc : Array Value → State → Outcome → State → Prop} {XC : String → State → State → Prop} {mc ms mx sx : Nat} {free : Addr → Prop} {bytes : ByteArray} {maxL : Nat} {ret : Option FieldType}
    (hM : xq_Met l y ws rm Pc Qc XC mc ms mx sx free) (hblind : FrameBlind Pc) (hrc : rm.cells = mx) (hrs : rm.slots = sx)
    (hframes : rm.frames + 1 ≤ R.frames) (hlocals : W9 + (maxL + 11) + rm.locals ≤ R.locals)
    (hws : ∀ w ∈ ws, ∀ a' U, s.WarmedH U.vm → w.before a' U = true) (hcode : Cond.code y bytes maxL ret ∈ ws) (hinit : ∀ a' U, s.WarmedH U.vm → (Cond.initialized y.cls).before a' U = true) :
    vx_Back l R p e below s sargs y len W9 (PreOf R mx sx Pc) (PostOf Qc mc ms free) (vx_Post XC mx sx free) := by
  intro m meth c A g ig mk a X hg hsize hdg hW hn hp
  have h1 : (headSpec ws rm).pre.before a A.U = true := atoms_intro fun w hw => hws w hw _ _ X.warmed
  have h2 : (Cond.code y bytes maxL ret).before a A.U = true := hws _ hcode _ _ X.warmed
  have h3 : (Cond.initialized y.cls).before a A.U = true := hinit _ _ X.warmed
  have h4 : A.cells + (headSpec ws rm).room.cells ≤ R.cells := by rw [show (headSpec ws rm).room.cells = mx from hrc]; exact hp.1
  have h5 : A.slots + (headSpec ws rm).room.slots ≤ R.slots := by rw [show (headSpec ws rm).room.slots = sx from hrs]; exact hp.2.1
  have hPc : Pc a (A.U.calling g mk a) := hblind _ _ _ _ hp.2.2
  obtain ⟨U, Ls, c0, s0⟩ := A
  dsimp only [Pt.U, Pt.locs, Pt.cells, Pt.slots] at h1 h2 h3 h4 h5 X hn hPc ⊢
  obtain ⟨methY, cY, hmY, hcY, -, hlY, -, -, -, -⟩ := Cond.code_spec hn h2
  obtain ⟨kY, hkY, -⟩ := className_of_methodNamed hn
  have hinitY : kY.init = .initialized := Cond.initialized_spec (findClass_of_methodNamed hn) hkY h3
  have h : At U g.method c below := by rw [hg]; exact X.here
  have hlocals9 : W9 + (maxL + 11) + (headSpec ws rm).room.locals ≤ R.locals := hlocals
  have happ : (headSpec ws rm).appliesLoose y e.platform (U.calling g mk a) = true :=
    Spec.appliesLoose_calling (g := g) h hdg hn hkY hinitY
      (X.room_calling (g := g) (R' := (headSpec ws rm).room) hsize hmY hcY hframes (by rw [hlY]; omega) h4 h5) h1
  obtain ⟨mid, hmid⟩ := h.above
  have hfr : (U.setTop g).frames = (.java g :: mid) ++ below := by rw [State.frames_setTop' g h.top, hmid]; rfl
  obtain ⟨o, s₂, hsteps, -, hend, hq⟩ := Steps.callFree hM p X.admits X.cas X.clock (acts := []) hfr happ hPc trivial
  have hq' : xq_Q Qc XC mc ms mx sx free a (U.calling g mk a) o s₂ := hq
  rw [State.frames_setTop' g h.top] at hend
  obtain ⟨g₀, hg0⟩ := Option.isSome_iff_exists.mp h.top
  obtain ⟨r, hr⟩ := State.topJava?_eq_some.mp hg0
  have hr' : (({ U with heap := s₂.heap, slotsUsed := s₂.slotsUsed } : State).setVm s₂.vm).frames = .java g₀ :: r := hr
  rcases hq' with ⟨hqc, L, hfe, hL⟩ | ⟨q, rfl, E, ce, L, hx, hce, hcv, hcl, hW₂, hsm, hL⟩
  · obtain ⟨⟨v, rfl⟩, hW₂, e2, q2, q3, q4, q5, q6⟩ := id hfe
    have e3 : s₂ = ({ (U.calling g mk a).setFrames s₂.frames with heap := s₂.heap, slotsUsed := s₂.slotsUsed } : State).setVm s₂.vm := by
      have : s₂ = ({ s₂ with vm := (U.calling g mk a).vm } : State).setVm s₂.vm := rfl
      rw [e2] at this
      exact this
    obtain ⟨c₂, i₂, len₂, hc₂, hd₂, hf₂⟩ := hend
    have hW' : U.WarmedH s₂.vm := hW₂
    have hcc : c₂ = c := by
      have h1 : s₂.code? g.method = U.code? g.method := by
        rw [State.code?_eq, State.code?_eq, hW'.alike.method?]
      exact Option.some.inj (hc₂.symm.trans (h1.trans h.code))
    subst hcc
    have hlen : len₂ = len := by rw [hdg] at hd₂; cases hd₂; rfl
    subst hlen
    have hs₂ : s₂ = (({ U with heap := s₂.heap, slotsUsed := s₂.slotsUsed } : State).setVm s₂.vm).setTop { g with pc := g.pc + len₂, stack := v.toList ++ g.stack } := by
      refine e3.trans ?_
      rw [hf₂, State.calling_eq h.top, State.setFrames_setFrames, State.setTop_of_frames _ hr', hr]
      rfl
    have hsame : U.sameButNew ({ U with heap := s₂.heap, slotsUsed := s₂.slotsUsed } : State) L mc ms := by
      refine ⟨?_, q2, q3, q4, q5, q6⟩
      obtain ⟨t, ht, -⟩ := State.frames_cons hr
      show ({ U with heap := s₂.heap, slotsUsed := s₂.slotsUsed } : State) = { U.setFrames U.frames with heap := s₂.heap, slotsUsed := s₂.slotsUsed }
      rw [State.setFrames_self ht]
    subst hg
    refine Or.inl ⟨v, ⟨(({ U with heap := s₂.heap, slotsUsed := s₂.slotsUsed } : State).setVm s₂.vm), Ls ++ L, c0 + mc, s0 + ms⟩,
      ⟨X.admits, X.cas, X.clock, X.frames, X.room, X.hears, X.method, X.code, (X.here.setHeapUsed s₂.heap s₂.slotsUsed).setVm hW'.alike, X.tail, State.WarmedH.trans X.warmed hW', X.limits, X.bytes, X.same.trans (hsame.setVm s.vm)⟩,
      ⟨g, mk, s₂, L, rfl, rfl, hqc, rfl, hL, rfl, rfl⟩, ?_⟩
    show Steps p.tables e below _ ((({ U with heap := s₂.heap, slotsUsed := s₂.slotsUsed } : State).setVm s₂.vm).setTop { g with pc := g.pc + len₂, stack := v.toList ++ g.stack })
    rw [← hs₂]
    exact hsteps
  · obtain ⟨e2, q2, q3, q4, q5, q6⟩ := id hsm
    have e3 : s₂ = ({ (U.calling g mk a).setFrames s₂.frames with heap := s₂.heap, slotsUsed := s₂.slotsUsed } : State).setVm s₂.vm := by
      have : s₂ = ({ s₂ with vm := (U.calling g mk a).vm } : State).setVm s₂.vm := rfl
      rw [e2] at this
      exact this
    have hf₂ : s₂.frames = .throwing q :: .java g :: U.frames.tail := hend
    have hW' : U.WarmedH s₂.vm := hW₂
    have hs₂ : s₂ = ((({ U with heap := s₂.heap, slotsUsed := s₂.slotsUsed } : State).setVm s₂.vm).setTop g).pushFrame (.throwing q) := by
      refine e3.trans ?_
      rw [hf₂, State.calling_eq h.top, State.setFrames_setFrames, State.pushFrame, State.frames_setTop _ hr', State.setTop_of_frames _ hr', State.setFrames_setFrames, hr]
      rfl
    have hsame : U.sameButNew ({ U with heap := s₂.heap, slotsUsed := s₂.slotsUsed } : State) L mx sx := by
      refine ⟨?_, q2, q3, q4, q5, q6⟩
      obtain ⟨t, ht, -⟩ := State.frames_cons hr
      show ({ U with heap := s₂.heap, slotsUsed := s₂.slotsUsed } : State) = { U.setFrames U.frames with heap := s₂.heap, slotsUsed := s₂.slotsUsed }
      rw [State.setFrames_self ht]
    subst hg
    refine Or.inr ⟨q, ⟨(({ U with heap := s₂.heap, slotsUsed := s₂.slotsUsed } : State).setVm s₂.vm), Ls ++ L, c0 + mx, s0 + sx⟩,
      ⟨X.admits, X.cas, X.clock, X.frames, X.room, X.hears, X.method, X.code, (X.here.setHeapUsed s₂.heap s₂.slotsUsed).setVm hW'.alike, X.tail, State.WarmedH.trans X.warmed hW', X.limits, X.bytes, X.same.trans (hsame.setVm s.vm)⟩,
      ⟨g, mk, s₂, L, E, ce, rfl, rfl, hx, hce, hcv, hcl, rfl, hL, rfl, rfl⟩, ?_⟩
    show Steps p.tables e below _ (((({ U with heap := s₂.heap, slotsUsed := s₂.slotsUsed } : State).setVm s₂.vm).setTop g).pushFrame (.throwing q))
    rw [← hs₂]
    exact hsteps
end Payer
def xq_Run (p : Program) (l : Launch) (e : Env) (R : Room) (s : State) (m : MethodId) (args : Array Value) (below : List Frame) (meth : Method) (c : Code) (H : Heap) (locs : List Loc) (cells slots mc ms mx sx : Nat) (g : JFrame) (rest : List Value) (Qa : State → Outcome → State → Prop) (XC : String → State → State → Prop) (free : Addr → Prop) : Prop :=
  ∀ T : State, T.heap = H → Stand p l e R s m args below meth c T locs cells slots →
    (∃ (v : Option Value) (st₀ t T' : State) (L : List Loc), st₀.heap = H ∧ Stand p l e R s m args below meth c T' (locs ++ L) (cells + mc) (slots + ms) ∧ (∀ q ∈ L, free q.base) ∧ T'.heap = t.heap ∧ T'.vm = t.vm ∧ Qa st₀ (.returned v) t ∧
      Goes p e below T g T' { g with pc := g.pc + 3, stack := v.toList ++ rest }) ∨
    (∃ (q : Addr) (st₀ t T' : State) (L : List Loc) (E : String) (ce : Cell), st₀.heap = H ∧ Stand p l e R s m args below meth c T' (locs ++ L) (cells + mx) (slots + sx) ∧ (∀ z ∈ L, free z.base) ∧ T'.heap = t.heap ∧ T'.vm = t.vm ∧ XC E st₀ t ∧ t.heap[q]? = some ce ∧ ce.vm = .none ∧ s.vm.findClass E = some ce.cls ∧
      Steps p.tables e below (T.setTop g) ((T'.setTop { g with stack := rest }).pushFrame (.throwing q)))
section Runs
variable {p : Program} {l : Launch} {e : Env} {R : Room} {s : State} {m : MethodId} {args : Array Value} {below : List Frame} {meth : Method} {c : Code} {H : Heap} {locs : List Loc} {cells slots : Nat}
variable {y : MethodName} {bytes cc : ByteArray} {maxL nL mc ms mx sx n index : Nat} {ret : Option FieldType} {ws : List Cond} {rm : Room} {Pc : Array Value → State → Prop} {Qc : Array Value → State → Outcome → State → Prop} {XC : String → State → State → Prop} {free : Addr → Prop} {Ts : List Cond} {own C : String} {b : Addr} {As rest : List Value} {g : JFrame}
theorem xq_callBack (cb : CallB R s args own index y bytes maxL ret ws rm mx sx n) (hM : xq_Met l y ws rm Pc Qc XC mc ms mx sx free) (hbl : FrameBlind Pc) : vx_Back l R p e below s args y 3 8 (PreOf R mx sx Pc) (PostOf Qc mc ms free) (vx_Post XC mx sx free) := by
  obtain ⟨hrc, hrs, hfr, hlo, hws, hcw, -, hini, -⟩ := cb
  exact xq_back (bytes := bytes) (maxL := maxL) (ret := ret) hM hbl hrc hrs hfr hlo hws hcw (fun a' U hW => word_at hW (Or.inl (by first | rfl | simp [Cond.onTables, Cond.keeps, Cond.steady])) hini)
theorem xq_runV (S : CallFix p m c cc nL s args Ts own) (hM : xq_Met l y ws rm Pc Qc XC mc ms mx sx free) (cw : CallW R s args own C index y bytes maxL ret ws rm mx sx n) (hp : PreV s H C b Pc As)
    (hg : g.method = m) (hn : As.length = n) (hsize : g.locals.size = nL) (hstack : g.stack = As.reverse ++ .ref b :: rest) (hW : 2 * g.monitorRoom + (rest.map fun v => v.category).sum ≤ 8) (hdg : decode cc g.pc = .ok (.invokevirtual index, 3)) (hf : cells + mx ≤ R.cells ∧ slots + sx ≤ R.slots) :
    xq_Run p l e R s m args below meth c H locs cells slots mc ms mx sx g rest (Qc (Value.ref b :: As).toArray) XC free := by
  have hK : vx_Back l R p e below s args y 3 8 (PreOf R mx sx Pc) (PostOf Qc mc ms free) (vx_Post XC mx sx free) := xq_callBack cw.1 hM hp.1
  obtain ⟨⟨-, -, -, -, -, -, hcode, -, hy, hlen, hl⟩, hin, hse⟩ := cw
  obtain ⟨hx, hb, hml, ho, -⟩ := S
  obtain ⟨-, ⟨cellB, hcB, hoB, hclB⟩, hPc⟩ := hp
  intro T hT X
  rcases vx_callV X hx (C := C) (bytes := bytes) (maxL := maxL) (ret := ret) ho hl hin hse hcode hy hK (by rw [hT]; exact hcB) hoB hclB hg (hsize.trans hml.symm) (argsL := As) (rest := rest) (fun sig h => hn.trans (hlen sig h)) hstack hW (by rw [hb]; exact hdg)
    (fun vm₁ hW₁ => ⟨hf.1, hf.2, hPc (T.setVm vm₁) hT hW₁⟩) with ⟨v, vm₁, ⟨U', l2, c2, s2⟩, hW₁, X', ⟨g', mk, t, L, e1, e2, hq, h1, hL, h2, h3⟩, st⟩ | ⟨q, vm₁, ⟨U', l2, c2, s2⟩, hW₁, X', ⟨g', mk, t, L, E, ce, e1, e2, hq, hce, hcv, hcl, h1, hL, h2, h3⟩, st⟩
  · dsimp only [Pt.U, Pt.locs, Pt.cells, Pt.slots] at X' e1 e2 h1 h2 h3 st
    subst h1; subst h2; subst h3
    exact Or.inl ⟨v, (T.setVm vm₁).calling g' mk (Value.ref b :: As).toArray, t, U', L, hT, X', hL, e1, e2, hq, st⟩
  · dsimp only [Pt.U, Pt.locs, Pt.cells, Pt.slots] at X' e1 e2 h1 h2 h3 st hcl
    subst h1; subst h2; subst h3
    exact Or.inr ⟨q, (T.setVm vm₁).calling g' mk (Value.ref b :: As).toArray, t, U', L, E, ce, hT, X', hL, e1, e2, hq, hce, hcv, vx_cls hW₁ hcl, st⟩
theorem xq_runS (S : CallFix p m c cc nL s args Ts own) (hM : xq_Met l y ws rm Pc Qc XC mc ms mx sx free) (cw : CallB R s args own index y bytes maxL ret ws rm mx sx n ∧ (Cond.static y).before args s = true) (hp : PreS s H Pc As)
    (hg : g.method = m) (hn : As.length = n) (hsize : g.locals.size = nL) (hstack : g.stack = As.reverse ++ rest) (hW : 2 * g.monitorRoom + (rest.map fun v => v.category).sum ≤ 8) (hdg : decode cc g.pc = .ok (.invokestatic index, 3)) (hf : cells + mx ≤ R.cells ∧ slots + sx ≤ R.slots) :
    xq_Run p l e R s m args below meth c H locs cells slots mc ms mx sx g rest (Qc As.toArray) XC free := by
  have hK : vx_Back l R p e below s args y 3 8 (PreOf R mx sx Pc) (PostOf Qc mc ms free) (vx_Post XC mx sx free) := xq_callBack cw.1 hM hp.1
  obtain ⟨⟨-, -, -, -, -, -, hcode, hini, hy, hlen, hl⟩, hstt⟩ := cw
  obtain ⟨hx, hb, hml, ho, -⟩ := S
  intro T hT X
  rcases vx_callS X hx (bytes := bytes) (maxL := maxL) (ret := ret) ho hl hstt hini hcode hy hK hg (hsize.trans hml.symm) (argsL := As) (rest := rest) (fun sig h => hn.trans (hlen sig h)) hstack hW (by rw [hb]; exact hdg)
    (fun vm₁ hW₁ => ⟨hf.1, hf.2, hp.2 (T.setVm vm₁) hT hW₁⟩) with ⟨v, vm₁, ⟨U', l2, c2, s2⟩, hW₁, X', ⟨g', mk, t, L, e1, e2, hq, h1, hL, h2, h3⟩, st⟩ | ⟨q, vm₁, ⟨U', l2, c2, s2⟩, hW₁, X', ⟨g', mk, t, L, E, ce, e1, e2, hq, hce, hcv, hcl, h1, hL, h2, h3⟩, st⟩
  · dsimp only [Pt.U, Pt.locs, Pt.cells, Pt.slots] at X' e1 e2 h1 h2 h3 st
    subst h1; subst h2; subst h3
    exact Or.inl ⟨v, (T.setVm vm₁).calling g' mk As.toArray, t, U', L, hT, X', hL, e1, e2, hq, st⟩
  · dsimp only [Pt.U, Pt.locs, Pt.cells, Pt.slots] at X' e1 e2 h1 h2 h3 st hcl
    subst h1; subst h2; subst h3
    exact Or.inr ⟨q, (T.setVm vm₁).calling g' mk As.toArray, t, U', L, E, ce, hT, X', hL, e1, e2, hq, hce, hcv, vx_cls hW₁ hcl, st⟩
end Runs
section Rows
variable {p : Program} {l : Launch} {e : Env} {R : Room} {s : State} {m : MethodId} {args : Array Value} {below : List Frame} {meth : Method} {c : Code} {H : Heap} {locs : List Loc} {cells slots : Nat} {Q : State → Prop}
variable {mc ms mx sx : Nat} {free : Addr → Prop} {A0 A1 : Nat → Prop} {H0 : Heap} {a : Array Value} {pc : Nat} {ls : Array Slot} {st0 rest : List Value}
theorem xq_calli {S SX : Type} {post : Int32 → S → Prop} {px : SX → Prop} {B : S → State → Prop} {BX : String → SX → State → Prop} {AX : Nat → Prop} (hr : xq_Run p l e R s m args below meth c H locs cells slots mc ms mx sx (F0 m pc ls st0) rest (va_Qi post B A1 a) (vx_X px BX AX) free) (hS : va_S A0 H0 H locs) (hA : ∀ q, q < H.size → A1 q → A0 q) (hf : ∀ q, free q → A0 q) (hAX : ∀ q, q < H.size → AX q → A0 q)
    (kx : ∀ (E : String) (ce : Cell) (q9 : Addr) (u : SX) (t : State) (H1 : Heap) (locs1 : List Loc), t.heap = H1 → s.vm.Alike t.vm → px u → BX E u t → H.size ≤ H1.size → (∀ q : Nat, q < H.size → ¬ AX q → H1[q]? = H[q]?) → va_S A0 H0 H1 locs1 → H1[q9]? = some ce → ce.vm = .none → s.vm.findClass E = some ce.cls → vx_W p l e R s m args below meth c H1 locs1 (cells + mx) (slots + sx) Q (F0 m pc ls rest) q9)
    (kk : ∀ (r : Int32) (u : S) (t : State) (H1 : Heap) (locs1 : List Loc), t.heap = H1 → s.vm.Alike t.vm → post r u → B u t → H.size ≤ H1.size → (∀ q : Nat, q < H.size → ¬ A1 q → H1[q]? = H[q]?) → va_S A0 H0 H1 locs1 → W p l e R s m args below meth c H1 locs1 (cells + mc) (slots + ms) Q (F0 m (pc + 3) ls (.int r :: rest))) : W p l e R s m args below meth c H locs cells slots Q (F0 m pc ls st0) := by
  intro T hT X
  rcases hr T hT X with ⟨v, st₀, t, T', L, h0, X', hL, e1, e2, ⟨⟨r, u, hv, hp, hb⟩, hF⟩, st⟩ | ⟨q, st₀, t, T', L, E, ce, h0, X', hL, e1, e2, ⟨u, hp, hb, hF⟩, hce, hcv, hcl, st⟩
  · cases hv
    obtain ⟨k1, k2, k3⟩ := vx_keep h0 e1 hS hA hf hL hF
    obtain ⟨t2, a1, b1⟩ := kk r u t T'.heap (locs ++ L) e1.symm (by rw [← e2]; exact X'.warmed.alike) hp hb k1 k2 k3 T' rfl X'
    exact ⟨t2, st t2 a1, b1⟩
  · obtain ⟨k1, k2, k3⟩ := vx_keep h0 e1 hS hAX hf hL hF
    obtain ⟨t2, a1, b1⟩ := kx E ce q u t T'.heap (locs ++ L) e1.symm (by rw [← e2]; exact X'.warmed.alike) hp hb k1 k2 k3 (by rw [e1]; exact hce) hcv hcl T' rfl X'
    exact ⟨t2, st.trans a1, b1⟩
theorem xq_calll {S SX : Type} {post : Int64 → S → Prop} {px : SX → Prop} {B : S → State → Prop} {BX : String → SX → State → Prop} {AX : Nat → Prop} (hr : xq_Run p l e R s m args below meth c H locs cells slots mc ms mx sx (F0 m pc ls st0) rest (va_Ql post B A1 a) (vx_X px BX AX) free) (hS : va_S A0 H0 H locs) (hA : ∀ q, q < H.size → A1 q → A0 q) (hf : ∀ q, free q → A0 q) (hAX : ∀ q, q < H.size → AX q → A0 q)
    (kx : ∀ (E : String) (ce : Cell) (q9 : Addr) (u : SX) (t : State) (H1 : Heap) (locs1 : List Loc), t.heap = H1 → s.vm.Alike t.vm → px u → BX E u t → H.size ≤ H1.size → (∀ q : Nat, q < H.size → ¬ AX q → H1[q]? = H[q]?) → va_S A0 H0 H1 locs1 → H1[q9]? = some ce → ce.vm = .none → s.vm.findClass E = some ce.cls → vx_W p l e R s m args below meth c H1 locs1 (cells + mx) (slots + sx) Q (F0 m pc ls rest) q9)
    (kk : ∀ (r : Int64) (u : S) (t : State) (H1 : Heap) (locs1 : List Loc), t.heap = H1 → s.vm.Alike t.vm → post r u → B u t → H.size ≤ H1.size → (∀ q : Nat, q < H.size → ¬ A1 q → H1[q]? = H[q]?) → va_S A0 H0 H1 locs1 → W p l e R s m args below meth c H1 locs1 (cells + mc) (slots + ms) Q (F0 m (pc + 3) ls (.long r :: rest))) : W p l e R s m args below meth c H locs cells slots Q (F0 m pc ls st0) := by
  intro T hT X
  rcases hr T hT X with ⟨v, st₀, t, T', L, h0, X', hL, e1, e2, ⟨⟨r, u, hv, hp, hb⟩, hF⟩, st⟩ | ⟨q, st₀, t, T', L, E, ce, h0, X', hL, e1, e2, ⟨u, hp, hb, hF⟩, hce, hcv, hcl, st⟩
  · cases hv
    obtain ⟨k1, k2, k3⟩ := vx_keep h0 e1 hS hA hf hL hF
    obtain ⟨t2, a1, b1⟩ := kk r u t T'.heap (locs ++ L) e1.symm (by rw [← e2]; exact X'.warmed.alike) hp hb k1 k2 k3 T' rfl X'
    exact ⟨t2, st t2 a1, b1⟩
  · obtain ⟨k1, k2, k3⟩ := vx_keep h0 e1 hS hAX hf hL hF
    obtain ⟨t2, a1, b1⟩ := kx E ce q u t T'.heap (locs ++ L) e1.symm (by rw [← e2]; exact X'.warmed.alike) hp hb k1 k2 k3 (by rw [e1]; exact hce) hcv hcl T' rfl X'
    exact ⟨t2, st.trans a1, b1⟩
theorem xq_callv {S SX : Type} {post : S → Prop} {px : SX → Prop} {B : S → State → Prop} {BX : String → SX → State → Prop} {AX : Nat → Prop} (hr : xq_Run p l e R s m args below meth c H locs cells slots mc ms mx sx (F0 m pc ls st0) rest (va_Qv post B A1 a) (vx_X px BX AX) free) (hS : va_S A0 H0 H locs) (hA : ∀ q, q < H.size → A1 q → A0 q) (hf : ∀ q, free q → A0 q) (hAX : ∀ q, q < H.size → AX q → A0 q)
    (kx : ∀ (E : String) (ce : Cell) (q9 : Addr) (u : SX) (t : State) (H1 : Heap) (locs1 : List Loc), t.heap = H1 → s.vm.Alike t.vm → px u → BX E u t → H.size ≤ H1.size → (∀ q : Nat, q < H.size → ¬ AX q → H1[q]? = H[q]?) → va_S A0 H0 H1 locs1 → H1[q9]? = some ce → ce.vm = .none → s.vm.findClass E = some ce.cls → vx_W p l e R s m args below meth c H1 locs1 (cells + mx) (slots + sx) Q (F0 m pc ls rest) q9)
    (kk : ∀ (u : S) (t : State) (H1 : Heap) (locs1 : List Loc), t.heap = H1 → s.vm.Alike t.vm → post u → B u t → H.size ≤ H1.size → (∀ q : Nat, q < H.size → ¬ A1 q → H1[q]? = H[q]?) → va_S A0 H0 H1 locs1 → W p l e R s m args below meth c H1 locs1 (cells + mc) (slots + ms) Q (F0 m (pc + 3) ls (rest))) : W p l e R s m args below meth c H locs cells slots Q (F0 m pc ls st0) := by
  intro T hT X
  rcases hr T hT X with ⟨v, st₀, t, T', L, h0, X', hL, e1, e2, ⟨⟨u, hv, hp, hb⟩, hF⟩, st⟩ | ⟨q, st₀, t, T', L, E, ce, h0, X', hL, e1, e2, ⟨u, hp, hb, hF⟩, hce, hcv, hcl, st⟩
  · cases hv
    obtain ⟨k1, k2, k3⟩ := vx_keep h0 e1 hS hA hf hL hF
    obtain ⟨t2, a1, b1⟩ := kk u t T'.heap (locs ++ L) e1.symm (by rw [← e2]; exact X'.warmed.alike) hp hb k1 k2 k3 T' rfl X'
    exact ⟨t2, st t2 a1, b1⟩
  · obtain ⟨k1, k2, k3⟩ := vx_keep h0 e1 hS hAX hf hL hF
    obtain ⟨t2, a1, b1⟩ := kx E ce q u t T'.heap (locs ++ L) e1.symm (by rw [← e2]; exact X'.warmed.alike) hp hb k1 k2 k3 (by rw [e1]; exact hce) hcv hcl T' rfl X'
    exact ⟨t2, st.trans a1, b1⟩
theorem xq_callq {S SX : Type} {post : Option Nat → S → Prop} {px : SX → Prop} {B : S → State → Prop} {BX : String → SX → State → Prop} {AX : Nat → Prop} (hr : xq_Run p l e R s m args below meth c H locs cells slots mc ms mx sx (F0 m pc ls st0) rest (va_Qq post B A1 a) (vx_X px BX AX) free) (hS : va_S A0 H0 H locs) (hA : ∀ q, q < H.size → A1 q → A0 q) (hf : ∀ q, free q → A0 q) (hAX : ∀ q, q < H.size → AX q → A0 q)
    (kx : ∀ (E : String) (ce : Cell) (q9 : Addr) (u : SX) (t : State) (H1 : Heap) (locs1 : List Loc), t.heap = H1 → s.vm.Alike t.vm → px u → BX E u t → H.size ≤ H1.size → (∀ q : Nat, q < H.size → ¬ AX q → H1[q]? = H[q]?) → va_S A0 H0 H1 locs1 → H1[q9]? = some ce → ce.vm = .none → s.vm.findClass E = some ce.cls → vx_W p l e R s m args below meth c H1 locs1 (cells + mx) (slots + sx) Q (F0 m pc ls rest) q9)
    (kk : ∀ (r : Option Nat) (u : S) (t : State) (H1 : Heap) (locs1 : List Loc), t.heap = H1 → s.vm.Alike t.vm → post r u → B u t → H.size ≤ H1.size → (∀ q : Nat, q < H.size → ¬ A1 q → H1[q]? = H[q]?) → va_S A0 H0 H1 locs1 → W p l e R s m args below meth c H1 locs1 (cells + mc) (slots + ms) Q (F0 m (pc + 3) ls (va_rf r :: rest))) : W p l e R s m args below meth c H locs cells slots Q (F0 m pc ls st0) := by
  intro T hT X
  rcases hr T hT X with ⟨v, st₀, t, T', L, h0, X', hL, e1, e2, ⟨⟨r, u, hv, hp, hb⟩, hF⟩, st⟩ | ⟨q, st₀, t, T', L, E, ce, h0, X', hL, e1, e2, ⟨u, hp, hb, hF⟩, hce, hcv, hcl, st⟩
  · cases hv
    obtain ⟨k1, k2, k3⟩ := vx_keep h0 e1 hS hA hf hL hF
    obtain ⟨t2, a1, b1⟩ := kk r u t T'.heap (locs ++ L) e1.symm (by rw [← e2]; exact X'.warmed.alike) hp hb k1 k2 k3 T' rfl X'
    exact ⟨t2, st t2 a1, b1⟩
  · obtain ⟨k1, k2, k3⟩ := vx_keep h0 e1 hS hAX hf hL hF
    obtain ⟨t2, a1, b1⟩ := kx E ce q u t T'.heap (locs ++ L) e1.symm (by rw [← e2]; exact X'.warmed.alike) hp hb k1 k2 k3 (by rw [e1]; exact hce) hcv hcl T' rfl X'
    exact ⟨t2, st.trans a1, b1⟩
end Rows
section Ends
variable {p : Program} {l : Launch} {e : Env} {R : Room} {s : State} {m : MethodId} {args : Array Value} {below : List Frame} {meth : Method} {c : Code} {H : Heap} {locs : List Loc} {cells slots : Nat}
variable {mc ms mx sx : Nat} {free : Addr → Prop} {Qc : Array Value → State → Outcome → State → Prop} {XC : String → State → State → Prop}
def xq_MQ (below : List Frame) (Qc : Array Value → State → Outcome → State → Prop) (XC : String → State → State → Prop) (a : Array Value) (s : State) (mc ms mx sx : Nat) (free : Addr → Prop) : State → Prop := fun t =>
  ∃ o, t.status = .running ∧ Ended t below o ∧ xq_Q Qc XC mc ms mx sx free a s o t
theorem xq_ret {g : JFrame} (k : W p l e R s m args below meth c H locs cells slots (MQ below Qc args s mc ms free) g) : W p l e R s m args below meth c H locs cells slots (xq_MQ below Qc XC args s mc ms mx sx free) g := by
  intro T hT X
  obtain ⟨t, a1, o, b1, b2, b3, b4⟩ := k T hT X
  exact ⟨t, a1, o, b1, b2, Or.inl ⟨b3, b4⟩⟩
theorem xq_thr {g : JFrame} (k : W p l e R s m args below meth c H locs cells slots (vx_MQ below (fun _ _ _ _ => False) XC args s mx sx free) g) : W p l e R s m args below meth c H locs cells slots (xq_MQ below Qc XC args s mc ms mx sx free) g := by
  intro T hT X
  obtain ⟨t, a1, o, b1, b2, b3⟩ := k T hT X
  exact ⟨t, a1, o, b1, b2, b3.elim (fun h => h.1.elim) Or.inr⟩
theorem xq_thrW {g : JFrame} {q : Addr} (k : vx_W p l e R s m args below meth c H locs cells slots (vx_MQ below (fun _ _ _ _ => False) XC args s mx sx free) g q) : vx_W p l e R s m args below meth c H locs cells slots (xq_MQ below Qc XC args s mc ms mx sx free) g q := by
  intro T hT X
  obtain ⟨t, a1, o, b1, b2, b3⟩ := k T hT X
  exact ⟨t, a1, o, b1, b2, b3.elim (fun h => h.1.elim) Or.inr⟩
end Ends
section Bodies
variable {l : Launch}
theorem xq_ofW {y : MethodName} {ws ws' : List Cond} {rm : Room} {Pc : Array Value → State → Prop} {Qc : Array Value → State → Outcome → State → Prop} {XC : String → State → State → Prop} {mc ms mx sx : Nat} {free : Addr → Prop} {cc : ByteArray} {maxL : Nat} {ret : Option FieldType}
    (hy : plainName y.cls = true) (hw : ws = Cond.code y cc maxL ret :: ws')
    (body : ∀ p e s m args below meth c s₁, BodyLoose p l y (headSpec ws rm) cc maxL ret e s m args below meth c s₁ → c.maxLocals = maxL → (∀ x ∈ c.exceptionTable.toList, False) → Pc args s →
      W p l e (headSpec ws rm).room s m args below meth c s.heap [] 0 0 (xq_MQ below Qc XC args s mc ms mx sx free) (entryFrame m args maxL)) : xq_Met l y ws rm Pc Qc XC mc ms mx sx free := by
  refine MetFree.of_bodyS (code := cc) (maxLocals := maxL) (ret := ret) hy ?_ ?_
  · intro args s m h hn
    obtain ⟨meth, c, h1, h2, h3, h4, h5, h6, -, -⟩ := Cond.code_spec hn (atoms_spec (ws := ws) h _ (by rw [hw]; exact List.mem_cons_self))
    exact ⟨meth, c, h1, h2, h3, h4, h5, h6⟩
  · intro p e s m args below meth c s₁ B hml hP _
    have hh0 : s₁.heap = s.heap := by rw [B.state]; rfl
    have ht : ∀ x ∈ c.exceptionTable.toList, False := by
      obtain ⟨meth9, c9, h1, h2, -, -, -, -, h7, -⟩ := Cond.code_spec B.named (atoms_spec (ws := ws) B.pre _ (by rw [hw]; exact List.mem_cons_self))
      cases Option.some.inj (h1.symm.trans B.method)
      cases Option.some.inj (h2.symm.trans (Stand.of_body B).code)
      intro x hx
      rw [Array.isEmpty_iff.mp h7] at hx
      cases hx
    obtain ⟨t, a1, o, b1, b2, b3⟩ := body p e s m args below meth c s₁ B hml ht hP s₁ hh0 (Stand.of_body B)
    exact ⟨t, o, a1, b1, b2, b3⟩
end Bodies
end XQA
end
section
def zE : List String := ["java/lang/IllegalArgumentException", "java/lang/IllegalStateException", "java/lang/IndexOutOfBoundsException", "java/lang/ArithmeticException", "java/lang/UnsupportedOperationException"]
def zY : List String := ["java/lang/RuntimeException", "java/lang/Exception", "java/lang/Throwable"]
def zStr : List (String × Nat × String) := [("DeskStack", 147, "a number without a digit or with too many"), ("DeskStack", 160, "a text in brackets does not end"), ("DeskStack", 167, "the stack has too few items"), ("DeskStack", 179, "a number is wanted and the item is a text"), ("DeskStack", 236, "no command begins with this character"), ("DeskStack", 238, "a letter a to d is wanted and is not there"), ("DeskStack", 240, "the register has no item"), ("DeskStack", 259, "a text is wanted and the item is a number"), ("DeskStack", 58, "the fuel is not 0 .. 500"), ("DeskStack", 89, "the fuel is used up"), ("DeskStack$Decimal", 38, "more than 18 digits"), ("DeskStack$Decimal", 45, "y is 0"), ("DeskStack$Decimal", 56, "more than 9 places"), ("DeskStack$Decimal", 61, "y is below 0"), ("DeskStack$Decimal", 72, "y is no whole number 0 .. 9"), ("DeskStack$Nest", 30, "too many texts under way"), ("DeskStack$Shelf", 64, "too many items")]
def zN (U : State) : Prop := (∀ E ∈ zE, va_Nw (.castable E E) U) ∧ (∀ Y ∈ zY, va_Nw (.declares ⟨Y, "<init>", "(Ljava/lang/String;)V"⟩) U) ∧ ∀ q ∈ zStr, ∃ sa, vk_R q.1 q.2.1 q.2.2 sa U
theorem zN.warm {s U : State} (hW : s.WarmedH U.vm) (h : zN s) : zN U :=
  ⟨fun E hE => va_Nw.warmC hW (h.1 E hE), fun Y hY => va_Nw.warmD hW (h.2.1 Y hY), fun q hq => (h.2.2 q hq).elim fun sa hs => ⟨sa, vk_R.warm hW hs⟩⟩
def p10 (j : Nat) : Int64 := Int64.ofNat (10 ^ j)
def pw (j : Nat) : Value := .long (p10 j)
def zS (A : Nat → Prop) (U : State) (H : Heap) : Prop := vx_Zq Bundle.tN "UNASSIGNED_STACK" Bundle.steD A U H ∧ vx_Zq Bundle.tN "SUPPRESSED_SENTINEL" Bundle.listD A U H ∧ ∃ t, va_Z "DeskStack$Decimal" "POWERS" "[J" (.ref t) A U H ∧ va_T .long t 19 pw A U H
theorem zS.moved {A : Nat → Prop} {u U : State} {H : Heap} (hvm : u.vm.Alike U.vm) (h : zS A u H) : zS A U H := by
  obtain ⟨h1, h2, t, h3, h4⟩ := h
  exact ⟨h1.moved hvm, h2.moved hvm, t, va_Z.moved hvm h3, va_T.moved hvm h4⟩
theorem zS.kept {A : Nat → Prop} {U : State} {H H1 : Heap} (h : zS A U H) (hq : ∀ a : Nat, a < H.size → ¬ A a → H1[a]? = H[a]?) : zS A U H1 := by
  obtain ⟨h1, h2, t, h3, h4⟩ := h
  exact ⟨h1.kept hq, h2.kept hq, t, h3.kept hq, h4.kept hq⟩
theorem zS.narrow {A B : Nat → Prop} {U : State} {H : Heap} (h : zS A U H) (hAB : ∀ q, B q → A q) : zS B U H := by
  obtain ⟨h1, h2, t, h3, h4⟩ := h
  exact ⟨h1.narrow hAB, h2.narrow hAB, t, h3.narrow hAB, h4.narrow hAB⟩
def zX (A : Nat → Prop) (U : State) : Prop := zN U ∧ zS A U U.heap
theorem zX.at {A B : Nat → Prop} {s U : State} {H : Heap} {locs : List Loc} (h : zX A s) (hS : va_S A s.heap H locs) (hU : U.heap = H) (hW : s.WarmedH U.vm) (hAB : ∀ q, B q → A q) : zX B U :=
  ⟨h.1.warm hW, by rw [hU]; exact ((h.2.kept hS.2.1).narrow hAB).moved hW.alike⟩
theorem zX.blind {A : Nat → Prop} {U : State} {g : JFrame} {mk : MethodId} {a : Array Value} (h : zX A U) : zX A (U.calling g mk a) := by
  have hW : U.WarmedH (U.calling g mk a).vm := State.WarmedH.refl U
  exact zX.at h va_S.rf rfl hW (fun _ h => h)
theorem zstr {A : Nat → Prop} {s : State} {own text : String} {k : Nat} (h : zX A s) (hq : (own, k, text) ∈ zStr) : ∃ sa, vk_R own k text sa s := h.1.2.2 _ hq
/-- the words of a throw: the good ones out of the method's own list -/
theorem zhat {A : Nat → Prop} {args : Array Value} {s : State} {ws : List Cond} {own E : String} {ic : Nat} (h : zX A s) (hts : ∀ w ∈ ws, w.before args s = true) (hE : E ∈ zE)
    (h1 : ∀ w ∈ (vx_atS own ic E ["java/lang/RuntimeException", "java/lang/Exception"]).filter goodWord, w ∈ ws)
    (h2 : ∀ w ∈ (vx_atS own ic E ["java/lang/RuntimeException", "java/lang/Exception"]).filter (fun w => !goodWord w), w ∈ [Cond.castable E E, .declares ⟨"java/lang/RuntimeException", "<init>", "(Ljava/lang/String;)V"⟩, .declares ⟨"java/lang/Exception", "<init>", "(Ljava/lang/String;)V"⟩, .declares ⟨"java/lang/Throwable", "<init>", "(Ljava/lang/String;)V"⟩]) :
    ∀ w ∈ vx_atS own ic E ["java/lang/RuntimeException", "java/lang/Exception"], w.before args s = true :=
  vx_hat (fun w hw => hts w (h1 w hw)) h2 (vx_c (va_Nw.use rfl (h.1.1 E hE)) (vx_c (va_Nw.use rfl (h.1.2.1 _ (by decide +kernel))) (vx_c (va_Nw.use rfl (h.1.2.1 _ (by decide +kernel))) (vx_c (va_Nw.use rfl (h.1.2.1 _ (by decide +kernel))) vx_n))))
def dPre (sz : Nat) : State → Prop := fun U => U.heap.size = sz ∧ zX (fun q => sz ≤ q) U
def dX {α : Type} (f : String ⊕ α) (sz : Nat) : String → State → State → Prop := vx_X (fun _ : Unit => True) (fun E _ _ => f = .inl E) (fun q => sz ≤ q)
section DB
variable {p : Program} {l : Launch} {e : Env} {R : Room} {s : State} {m : MethodId} {args : Array Value} {below : List Frame} {meth : Method} {c : Code} {H : Heap} {locs : List Loc} {cells slots : Nat} {Q : State → Prop} {cc : ByteArray} {pc : Nat} {ls : Array Slot} {rest st0 : List Value}
theorem d_ofW {y : MethodName} {ws ws' : List Cond} {rm : Room} {vs : List Value} {Qc : Array Value → State → Outcome → State → Prop} {XC : String → State → State → Prop} {maxL sz mx sx : Nat} {ret : Option FieldType} (hy : plainName y.cls = true) (hw : ws = Cond.code y cc maxL ret :: ws') (hcls : y.cls = RX0) (hvs : (lg_sl vs).length ≤ maxL)
    (body : ∀ (p : Program) (e : Env) (s : State) (m : MethodId) (below : List Frame) (meth : Method) (c : Code), p.tables.exec = Jvm.exec → c.code = cc → (∀ w ∈ ws, w.before vs.toArray s = true) → s.vm.findClass RX0 = some m.cls → meth.sig.returnType = ret → meth.locks = false → c.maxLocals = maxL → (∀ x ∈ c.exceptionTable.toList, False) → s.heap.size = sz → zX (fun q => sz ≤ q) s → va_S (fun q => sz ≤ q) s.heap s.heap [] → ∀ ls : Array Slot, lv_has ls maxL (lv_args 0 vs) → W p l e rm s m vs.toArray below meth c s.heap [] 0 0 (xq_MQ below Qc XC vs.toArray s 0 0 mx sx (fun q => sz ≤ q)) (F0 m 0 ls [])) :
    xq_Met l y ws rm (va_Pc vs (dPre sz)) Qc XC 0 0 mx sx (fun q => sz ≤ q) := by
  refine xq_ofW (cc := cc) (maxL := maxL) (ret := ret) hy hw ?_
  intro p e s m args below meth c s₁ B hml hEx hv
  obtain ⟨rfl, hsz, hz⟩ := hv
  have hown : s.vm.findClass y.cls = some m.cls := findClass_of_methodNamed B.named
  rw [hcls] at hown
  have hts := atoms_spec (ws := ws) B.pre
  rw [lg_entry_eq]
  exact body p e s m below meth c B.exec B.bytes hts hown B.returns B.notSynchronized hml hEx hsz hz va_S.rf _ (lv_entry vs hvs)
theorem dF {s t : State} {H : Heap} {locs : List Loc} (hS : va_S (fun q => s.heap.size ≤ q) s.heap H locs) (ht : t.heap = H) : va_F (fun _ => False) s t := ⟨by rw [ht]; exact hS.1, fun q h1 _ => by rw [ht]; exact hS.2.1 q h1 (Nat.not_le.mpr h1)⟩
variable {y : MethodName} {bytes : ByteArray} {maxL nL n index : Nat} {ret : Option FieldType} {ws : List Cond} {rm : Room} {Ts : List Cond} {own : String} {As : List Value} {α : Type} {f0 : String ⊕ α} {Qc0 : Array Value → State → Outcome → State → Prop}
theorem d_calll {f : String ⊕ Int64} (hx : p.tables.exec = Jvm.exec) (hb : c.code = cc) (hml : c.maxLocals = nL) (hown : s.vm.findClass own = some m.cls) (hts : ∀ w ∈ Ts, w.before args s = true) (hEx : ∀ x ∈ c.exceptionTable.toList, False) (hlocks : meth.locks = false) (hz : zX (fun q => s.heap.size ≤ q) s) (hS : va_S (fun q => s.heap.size ≤ q) s.heap H locs)
    (hM : xq_Met l y ws rm (va_Pc As (dPre H.size)) (va_Ql (fun r (_ : Unit) => f = .inr r) (fun _ _ => True) (fun _ => False)) (dX f H.size) 0 0 1 6 (fun q => H.size ≤ q)) (cw : CallB R s args own index y bytes maxL ret ws rm 1 6 n ∧ (Cond.static y).before args s = true) (hn : As.length = n) (hsize : ls.size = nL) (hst : st0 = As.reverse ++ rest) (hW : (rest.map fun v => v.category).sum ≤ 8) (hdg : decode cc pc = .ok (.invokestatic index, 3)) (hf : cells + 1 ≤ R.cells ∧ slots + 6 ≤ R.slots) (h0 : cells = 0 ∧ slots = 0)
    (kx : ∀ E : String, f = .inl E → f0 = .inl E) (kk : ∀ (r : Int64) (H1 : Heap) (locs1 : List Loc), f = .inr r → va_S (fun q => s.heap.size ≤ q) s.heap H1 locs1 → W p l e R s m args below meth c H1 locs1 cells slots (xq_MQ below Qc0 (dX f0 s.heap.size) args s 0 0 1 6 (fun q => s.heap.size ≤ q)) (F0 m (pc + 3) ls (.long r :: rest))) :
    W p l e R s m args below meth c H locs cells slots (xq_MQ below Qc0 (dX f0 s.heap.size) args s 0 0 1 6 (fun q => s.heap.size ≤ q)) (F0 m pc ls st0) := by
  refine xq_calll (A0 := fun q => s.heap.size ≤ q) (A1 := fun _ => False) (free := fun q => H.size ≤ q) (AX := fun q => H.size ≤ q) (SX := Unit) (px := fun _ => True) (BX := fun E _ _ => f = .inl E) (S := Unit) (B := fun _ _ => True) (mx := 1) (sx := 6) (mc := 0) (ms := 0) (rest := rest) (xq_runS (As := As) ⟨hx, hb, hml, hown, hts⟩ hM cw ⟨fun a U g mk q => ⟨q.1, q.2.1, q.2.2.blind⟩, fun U hU hW => ⟨rfl, by rw [hU], zX.at hz hS hU hW (fun q h => Nat.le_trans hS.1 h)⟩⟩ rfl hn hsize hst (lv_room hW) hdg hf) hS (fun q _ h => h.elim) (fun q h => Nat.le_trans hS.1 h) (fun q h1 h2 => absurd h2 (Nat.not_le.mpr h1)) (fun E ce q9 u t H1 locs1 ht hvm hpx hw hz1 hk1 hS hce hcv hcl => ?_) (fun r u t H1 locs1 ht hvm hw hB hz1 hk1 hS => kk r H1 locs1 hw hS)
  exact xq_thrW (vx_out (fun x hx => (hEx x hx).elim) hlocks hce hcv hcl (fun t ht ha => ⟨(), trivial, kx E hw, hS.F ht⟩) hS.2.2 (by omega) (by omega))
end DB
end
section
abbrev XS : Type := (Nat → Int32) × (Nat → Nat → Int32) × (Nat → Nat → Int64) × (Nat → Nat → Option Nat) × Nat × Nat
def xi (σ : XS) (k : Nat) (v : Int32) : XS := (upd σ.1 k v, σ.2)
def xa (σ : XS) (k j : Nat) (v : Int32) : XS := (σ.1, (fun q => if q = k then upd (σ.2.1 k) j v else σ.2.1 q), σ.2.2)
def xb (σ : XS) (k j : Nat) (v : Int64) : XS := (σ.1, σ.2.1, (fun q => if q = k then vp_updL (σ.2.2.1 k) j v else σ.2.2.1 q), σ.2.2.2)
def xr (σ : XS) (k j : Nat) (v : Option Nat) : XS := (σ.1, σ.2.1, σ.2.2.1, (fun q => if q = k then va_up (σ.2.2.2.1 k) j v else σ.2.2.2.1 q), σ.2.2.2.2)
def xp (σ : XS) (v : Nat) : XS := (σ.1, σ.2.1, σ.2.2.1, σ.2.2.2.1, v, σ.2.2.2.2.2)
def xn (σ : XS) : Nat := 36 + 2 * σ.2.2.2.2.2
def xv (σ : XS) (n : Nat) : Prop := 36 ≤ n ∧ n % 2 = 0 ∧ n < xn σ
def shN : List Nat := [6, 11, 16, 21, 26, 31]
def xlen (n : Nat) : Nat := if n < 11 then 40 else if n < 31 then 10 else 40
def xT (kc : Nat → ClassId) : List (ClassId × FieldType) := [(kc 0, .int), (kc 1, .long), (kc 2, .byte), (kc 3, .object "DeskStack$Row"), (kc 4, .object "DeskStack$Shelf")]
def xe (kc : Nat → ClassId) (ad : Nat → Nat) (n : Nat) (i : Int32) (a : Nat → Int32) (b : Nat → Int64) (r : Nat → Option Nat) : va_E :=
  if n = 1 then .inl (kc 4, 4, .inr (.inr (.inr (.inr (fun j => some (ad (11 + 5 * j)))))))
  else if n = 2 then .inr (0, [.ref (ad 3), .ref (ad 4), .ref (ad 5), .int i])
  else if n = 3 then .inl (kc 3, 12, .inr (.inr (.inr (.inr (fun j => (r j).map ad)))))
  else if n = 4 then .inl (kc 0, 12, .inl a)
  else if n = 5 then .inl (kc 0, 12, .inl a)
  else if n < 36 then (if (n - 6) % 5 = 0 then .inr (2, [.ref (ad (n + 1)), .ref (ad (n + 2)), .ref (ad (n + 3)), .ref (ad (n + 4)), .int i])
    else if (n - 6) % 5 = 1 then .inl (kc 1, xlen n, .inr (.inl b))
    else if (n - 6) % 5 = 3 then .inl (kc 3, xlen n, .inr (.inr (.inr (.inr (fun j => (r j).map ad)))))
    else .inl (kc 0, xlen n, .inl a))
  else if n % 2 = 0 then .inr (1, [.ref (ad (n + 1)), .int i]) else .inl (kc 2, 160, .inl a)
def xc (kc : Nat → ClassId) (ad : Nat → Nat) (σ : XS) (n : Nat) : va_E :=
  if n = 0 then .inr (3, [.ref (ad 6), .ref (ad 1), .ref (ad 31), .ref (ad 2), .ref (ad σ.2.2.2.2.1), .int (σ.1 0), .int (σ.1 1)])
  else xe kc ad n (σ.1 n) (σ.2.1 n) (σ.2.2.1 n) (σ.2.2.2.1 n)
def xW (kc : Nat → ClassId) (ad : Nat → Nat) (σ : XS) : va_W := (List.range (xn σ)).map (fun n => (ad n, xc kc ad σ n))
abbrev xA (kc : Nat → ClassId) (ad : Nat → Nat) (σ : XS) (sz : Nat) : Nat → Prop := va_A (xW kc ad σ) sz
section XB0
variable {kc : Nat → ClassId} {ad : Nat → Nat} {σ τ : XS} {n k c0 : Nat}
theorem shN_cases (h : c0 ∈ shN) : c0 = 6 ∨ c0 = 11 ∨ c0 = 16 ∨ c0 = 21 ∨ c0 = 26 ∨ c0 = 31 := by
  simpa only [shN, List.mem_cons, List.not_mem_nil, or_false] using h
theorem shN_lt (h : c0 ∈ shN) : c0 + 4 < 36 ∧ 6 ≤ c0 := by
  rcases shN_cases h with rfl | rfl | rfl | rfl | rfl | rfl <;> decide
theorem xn_ge : 36 ≤ xn σ := by unfold xn; omega
theorem xW_at (h : n < xn σ) : (xW kc ad σ)[n]? = some (ad n, xc kc ad σ n) := by
  simp [xW, h]
theorem xW_no (h : ¬ n < xn σ) : (xW kc ad σ)[n]? = none := by
  simp [xW]; omega
theorem xW_set {e : va_E} (hN : τ.2.2.2.2.2 = σ.2.2.2.2.2) (he : e = xc kc ad τ k) (h : ∀ n, n ≠ k → xc kc ad τ n = xc kc ad σ n) : (xW kc ad σ).set k (ad k, e) = xW kc ad τ := by
  subst he
  have hx : xn τ = xn σ := by unfold xn; rw [hN]
  apply List.ext_getElem?
  intro n
  by_cases hl : n < xn σ
  · rw [xW_at (hx ▸ hl)]
    by_cases hn : n = k
    · subst hn
      rw [List.getElem?_set_self (by simp [xW]; exact hl)]
    · rw [List.getElem?_set_ne (Ne.symm hn), xW_at hl, h n hn]
  · rw [xW_no (hx ▸ hl)]
    apply List.getElem?_eq_none
    simp [xW]; omega
theorem xc_sh (h : c0 ∈ shN) : xc kc ad σ c0 = .inr (2, [.ref (ad (c0 + 1)), .ref (ad (c0 + 2)), .ref (ad (c0 + 3)), .ref (ad (c0 + 4)), .int (σ.1 c0)]) := by
  rcases shN_cases h with rfl | rfl | rfl | rfl | rfl | rfl <;> rfl
theorem xc_sh1 (h : c0 ∈ shN) : xc kc ad σ (c0 + 1) = .inl (kc 1, xlen c0, .inr (.inl (σ.2.2.1 (c0 + 1)))) := by
  rcases shN_cases h with rfl | rfl | rfl | rfl | rfl | rfl <;> rfl
theorem xc_sh2 (h : c0 ∈ shN) : xc kc ad σ (c0 + 2) = .inl (kc 0, xlen c0, .inl (σ.2.1 (c0 + 2))) := by
  rcases shN_cases h with rfl | rfl | rfl | rfl | rfl | rfl <;> rfl
theorem xc_sh3 (h : c0 ∈ shN) : xc kc ad σ (c0 + 3) = .inl (kc 3, xlen c0, .inr (.inr (.inr (.inr (fun j => (σ.2.2.2.1 (c0 + 3) j).map ad))))) := by
  rcases shN_cases h with rfl | rfl | rfl | rfl | rfl | rfl <;> rfl
theorem xc_sh4 (h : c0 ∈ shN) : xc kc ad σ (c0 + 4) = .inl (kc 0, xlen c0, .inl (σ.2.1 (c0 + 4))) := by
  rcases shN_cases h with rfl | rfl | rfl | rfl | rfl | rfl <;> rfl
theorem xc_row (h : xv σ n) : xc kc ad σ n = .inr (1, [.ref (ad (n + 1)), .int (σ.1 n)]) := by
  obtain ⟨h1, h2, -⟩ := h
  unfold xc xe
  rw [if_neg (by omega), if_neg (by omega), if_neg (by omega), if_neg (by omega), if_neg (by omega), if_neg (by omega), if_neg (by omega), if_pos h2]
theorem xc_bytes (h : xv σ n) : xc kc ad σ (n + 1) = .inl (kc 2, 160, .inl (σ.2.1 (n + 1))) := by
  obtain ⟨h1, h2, -⟩ := h
  unfold xc xe
  rw [if_neg (by omega), if_neg (by omega), if_neg (by omega), if_neg (by omega), if_neg (by omega), if_neg (by omega), if_neg (by omega), if_neg (by omega)]
theorem xv_lt (h : xv σ n) : n + 1 < xn σ := by
  obtain ⟨h1, h2, h3⟩ := h
  unfold xn at *
  omega
theorem xW_sh (h : c0 ∈ shN) : (xW kc ad σ)[c0]? = some (ad c0, .inr (2, [.ref (ad (c0 + 1)), .ref (ad (c0 + 2)), .ref (ad (c0 + 3)), .ref (ad (c0 + 4)), .int (σ.1 c0)])) := by
  rw [xW_at (by have := shN_lt h; have := xn_ge (σ := σ); omega), xc_sh h]
theorem xW_row (h : xv σ n) : (xW kc ad σ)[n]? = some (ad n, .inr (1, [.ref (ad (n + 1)), .int (σ.1 n)])) := by
  rw [xW_at h.2.2, xc_row h]
theorem xW_nest : (xW kc ad σ)[2]? = some (ad 2, .inr (0, [.ref (ad 3), .ref (ad 4), .ref (ad 5), .int (σ.1 2)])) := xW_at (by have := xn_ge (σ := σ); omega)
theorem xW_desk : (xW kc ad σ)[0]? = some (ad 0, .inr (3, [.ref (ad 6), .ref (ad 1), .ref (ad 31), .ref (ad 2), .ref (ad σ.2.2.2.2.1), .int (σ.1 0), .int (σ.1 1)])) := xW_at (by have := xn_ge (σ := σ); omega)
theorem xW_regs : (xW kc ad σ)[1]? = some (ad 1, .inl (kc 4, 4, .inr (.inr (.inr (.inr (fun j => some (ad (11 + 5 * j)))))))) := xW_at (by have := xn_ge (σ := σ); omega)
/-- a cell number of an int row, a long row, a row of rows, with its length -/
def xI (n L : Nat) : Prop := n < 36 ∧ ∀ (kc : Nat → ClassId) (ad : Nat → Nat) (σ : XS), xc kc ad σ n = .inl (kc 0, L, .inl (σ.2.1 n))
def xJ (n L : Nat) : Prop := n < 36 ∧ ∀ (kc : Nat → ClassId) (ad : Nat → Nat) (σ : XS), xc kc ad σ n = .inl (kc 1, L, .inr (.inl (σ.2.2.1 n)))
def xQ (n L : Nat) : Prop := n < 36 ∧ ∀ (kc : Nat → ClassId) (ad : Nat → Nat) (σ : XS), xc kc ad σ n = .inl (kc 3, L, .inr (.inr (.inr (.inr (fun j => (σ.2.2.2.1 n j).map ad)))))
theorem xI_4 : xI 4 12 := ⟨by decide, fun _ _ _ => rfl⟩
theorem xI_5 : xI 5 12 := ⟨by decide, fun _ _ _ => rfl⟩
theorem xQ_3 : xQ 3 12 := ⟨by decide, fun _ _ _ => rfl⟩
theorem xJ_sh (h : c0 ∈ shN) : xJ (c0 + 1) (xlen c0) := ⟨by have := shN_lt h; omega, fun _ _ _ => xc_sh1 h⟩
theorem xI_sh2 (h : c0 ∈ shN) : xI (c0 + 2) (xlen c0) := ⟨by have := shN_lt h; omega, fun _ _ _ => xc_sh2 h⟩
theorem xQ_sh (h : c0 ∈ shN) : xQ (c0 + 3) (xlen c0) := ⟨by have := shN_lt h; omega, fun _ _ _ => xc_sh3 h⟩
theorem xI_sh4 (h : c0 ∈ shN) : xI (c0 + 4) (xlen c0) := ⟨by have := shN_lt h; omega, fun _ _ _ => xc_sh4 h⟩
theorem xc_xi {v : Int32} (h0 : k ≠ 0) (h1 : k ≠ 1) (hn : n ≠ k) : xc kc ad (xi σ k v) n = xc kc ad σ n := by
  by_cases hz : n = 0
  · subst hz; simp [xc, xi, upd, Ne.symm h0, Ne.symm h1]
  · simp [xc, xi, upd, hz, hn]
theorem xc_xi0 {v : Int32} (hk : k = 0 ∨ k = 1) (hn : n ≠ 0) : xc kc ad (xi σ k v) n = xc kc ad σ n := by
  by_cases h1 : n = 1
  · subst h1; rfl
  · have : n ≠ k := by omega
    simp [xc, xi, upd, hn, this]
theorem xc_xa {j : Nat} {v : Int32} (hn : n ≠ k) : xc kc ad (xa σ k j v) n = xc kc ad σ n := by
  simp [xc, xa, hn]
theorem xc_xb {j : Nat} {v : Int64} (hn : n ≠ k) : xc kc ad (xb σ k j v) n = xc kc ad σ n := by
  simp [xc, xb, hn]
theorem xc_xr {j : Nat} {v : Option Nat} (hn : n ≠ k) : xc kc ad (xr σ k j v) n = xc kc ad σ n := by
  simp [xc, xr, hn]
theorem xc_xp {v : Nat} (hn : n ≠ 0) : xc kc ad (xp σ v) n = xc kc ad σ n := by
  simp [xc, xp, hn]
theorem xi_1 {v : Int32} : (xi σ k v).1 k = v := by simp [xi, upd]
theorem xa_1 {j : Nat} {v : Int32} : (xa σ k j v).2.1 k = upd (σ.2.1 k) j v := by simp [xa]
theorem xb_1 {j : Nat} {v : Int64} : (xb σ k j v).2.2.1 k = vp_updL (σ.2.2.1 k) j v := by simp [xb]
theorem xr_1 {j : Nat} {v : Option Nat} : (xr σ k j v).2.2.2.1 k = va_up (σ.2.2.2.1 k) j v := by simp [xr]
theorem xr_map {r : Nat → Option Nat} {j : Nat} {v : Option Nat} : va_up (fun q => (r q).map ad) j (v.map ad) = fun q => ((va_up r j v) q).map ad := by
  funext q
  unfold va_up
  split <;> rfl
theorem sh_in {i : Int32} {c0 : Nat} (hs : c0 ∈ shN) (h0 : ¬ i < 0) (h1 : i < Int32.ofNat (xlen c0)) : vp_in i (xlen c0) := by
  rw [vp_in_iff]
  rw [Int32.lt_iff_toInt_lt] at h0 h1
  have z0 : (0 : Int32).toInt = 0 := rfl
  rcases shN_cases hs with rfl | rfl | rfl | rfl | rfl | rfl <;>
    (first | (have z1 : (Int32.ofNat (xlen 6)).toInt = 40 := by decide
              have z2 : xlen 6 = 40 := by decide
              omega)
           | (have z1 : (Int32.ofNat (xlen 11)).toInt = 10 := by decide
              have z2 : xlen 11 = 10 := by decide
              omega)
           | (have z1 : (Int32.ofNat (xlen 16)).toInt = 10 := by decide
              have z2 : xlen 16 = 10 := by decide
              omega)
           | (have z1 : (Int32.ofNat (xlen 21)).toInt = 10 := by decide
              have z2 : xlen 21 = 10 := by decide
              omega)
           | (have z1 : (Int32.ofNat (xlen 26)).toInt = 10 := by decide
              have z2 : xlen 26 = 10 := by decide
              omega)
           | (have z1 : (Int32.ofNat (xlen 31)).toInt = 40 := by decide
              have z2 : xlen 31 = 40 := by decide
              omega))
end XB0
def xX (p : Program) (s : State) (m : MethodId) (args : Array Value) (c : Code) (cc : ByteArray) (Ts : List Cond) (dC : Nat → ClassId) (dI : Nat → Nat → Nat) (kc : Nat → ClassId) (own : String) (A : Nat → Prop) : Prop := p.tables.exec = Jvm.exec ∧ c.code = cc ∧ (∀ w ∈ Ts, w.before args s = true) ∧ s.vm.findClass own = some m.cls ∧ va_K (dC, dI) vwCl (xT kc) s ∧ zX A s
def xH (dC : Nat → ClassId) (dI : Nat → Nat → Nat) (kc : Nat → ClassId) (ad : Nat → Nat) (σ : XS) (A : Nat → Prop) (H0 H : Heap) (locs : List Loc) : Prop := va_P (dC, dI) vwCl (xW kc ad σ) H ∧ va_D A (xW kc ad σ) ∧ va_S A H0 H locs
def xPre (dC : Nat → ClassId) (dI : Nat → Nat → Nat) (kc : Nat → ClassId) (ad : Nat → Nat) (sz : Nat) (σ : XS) : State → Prop := fun U => U.heap.size = sz ∧ va_P (dC, dI) vwCl (xW kc ad σ) U.heap ∧ va_K (dC, dI) vwCl (xT kc) U ∧ va_D (fun _ => True) (xW kc ad σ) ∧ zX (xA kc ad σ sz) U
def xAt (dC : Nat → ClassId) (dI : Nat → Nat → Nat) (kc : Nat → ClassId) (ad : Nat → Nat) (A : Nat → Prop) (u : XS) (t : State) : Prop := va_P (dC, dI) vwCl (xW kc ad u) t.heap ∧ va_K (dC, dI) vwCl (xT kc) t ∧ va_D A (xW kc ad u)
def xE {α : Type} (f : (String × XS) ⊕ α) (dC : Nat → ClassId) (dI : Nat → Nat → Nat) (kc : Nat → ClassId) (ad : Nat → Nat) (A : Nat → Prop) : String → State → State → Prop := vx_X (fun _ : XS => True) (fun E u t => f = .inl (E, u) ∧ xAt dC dI kc ad A u t) A
section XB1
variable {p : Program} {l : Launch} {e : Env} {R : Room} {s : State} {m : MethodId} {args : Array Value} {below : List Frame} {meth : Method} {c : Code} {H : Heap} {locs : List Loc} {cells slots : Nat} {Q : State → Prop}
variable {cc : ByteArray} {pc : Nat} {ls : Array Slot} {rest st0 : List Value} {A B : Nat → Prop} {H0 : Heap} {dC : Nat → ClassId} {dI : Nat → Nat → Nat} {kc : Nat → ClassId} {ad : Nat → Nat} {σ τ : XS} {Ts : List Cond} {index : Nat} {own : String} {c0 : Nat}
theorem x_to {k : Nat} {e : va_E} {H1 : Heap} {locs1 : List Loc} (he : e = xc kc ad τ k) (hN : τ.2.2.2.2.2 = σ.2.2.2.2.2) (h : ∀ n, n ≠ k → xc kc ad τ n = xc kc ad σ n) (hP : va_P (dC, dI) vwCl ((xW kc ad σ).set k (ad k, e)) H1) (hD : va_D A ((xW kc ad σ).set k (ad k, e))) (hS : va_S A H0 H1 locs1) : xH dC dI kc ad τ A H0 H1 locs1 := by
  rw [xW_set hN he h] at hP hD
  exact ⟨hP, hD, hS⟩
theorem x_sget_0 (X : xX p s m args c cc Ts dC dI kc own B) (G : xH dC dI kc ad σ A H0 H locs) (hin : ∀ w ∈ wsX30, w ∈ Ts) (h0 : c0 ∈ shN) (hl : Cond.fieldLink own index "DeskStack$Shelf" "values" "[J" ∈ Ts) (hdg : decode cc pc = .ok (.getfield index, 3)) (kk : W p l e R s m args below meth c H locs cells slots Q (F0 m (pc + 3) ls (.ref (ad (c0 + 1)) :: rest))) : W p l e R s m args below meth c H locs cells slots Q (F0 m pc ls (.ref (ad c0) :: rest)) := by
  obtain ⟨hx, hb, hts, hown, hK, hz⟩ := X
  exact va_get (D := (dC, dI)) (ci := 2) (C := RX3) (T := TX3) (N := 5) hx hb hts hin hown hK G.1 c0 (xW_sh h0) rfl 0 (by decide) (hts _ hl) (fun _ h9 => h9) rfl hdg kk
theorem x_sget_1 (X : xX p s m args c cc Ts dC dI kc own B) (G : xH dC dI kc ad σ A H0 H locs) (hin : ∀ w ∈ wsX30, w ∈ Ts) (h0 : c0 ∈ shN) (hl : Cond.fieldLink own index "DeskStack$Shelf" "places" "[I" ∈ Ts) (hdg : decode cc pc = .ok (.getfield index, 3)) (kk : W p l e R s m args below meth c H locs cells slots Q (F0 m (pc + 3) ls (.ref (ad (c0 + 2)) :: rest))) : W p l e R s m args below meth c H locs cells slots Q (F0 m pc ls (.ref (ad c0) :: rest)) := by
  obtain ⟨hx, hb, hts, hown, hK, hz⟩ := X
  exact va_get (D := (dC, dI)) (ci := 2) (C := RX3) (T := TX3) (N := 5) hx hb hts hin hown hK G.1 c0 (xW_sh h0) rfl 1 (by decide) (hts _ hl) (fun _ h9 => h9) rfl hdg kk
theorem x_sget_2 (X : xX p s m args c cc Ts dC dI kc own B) (G : xH dC dI kc ad σ A H0 H locs) (hin : ∀ w ∈ wsX30, w ∈ Ts) (h0 : c0 ∈ shN) (hl : Cond.fieldLink own index "DeskStack$Shelf" "rows" "[LDeskStack$Row;" ∈ Ts) (hdg : decode cc pc = .ok (.getfield index, 3)) (kk : W p l e R s m args below meth c H locs cells slots Q (F0 m (pc + 3) ls (.ref (ad (c0 + 3)) :: rest))) : W p l e R s m args below meth c H locs cells slots Q (F0 m pc ls (.ref (ad c0) :: rest)) := by
  obtain ⟨hx, hb, hts, hown, hK, hz⟩ := X
  exact va_get (D := (dC, dI)) (ci := 2) (C := RX3) (T := TX3) (N := 5) hx hb hts hin hown hK G.1 c0 (xW_sh h0) rfl 2 (by decide) (hts _ hl) (fun _ h9 => h9) rfl hdg kk
theorem x_sget_3 (X : xX p s m args c cc Ts dC dI kc own B) (G : xH dC dI kc ad σ A H0 H locs) (hin : ∀ w ∈ wsX30, w ∈ Ts) (h0 : c0 ∈ shN) (hl : Cond.fieldLink own index "DeskStack$Shelf" "starts" "[I" ∈ Ts) (hdg : decode cc pc = .ok (.getfield index, 3)) (kk : W p l e R s m args below meth c H locs cells slots Q (F0 m (pc + 3) ls (.ref (ad (c0 + 4)) :: rest))) : W p l e R s m args below meth c H locs cells slots Q (F0 m pc ls (.ref (ad c0) :: rest)) := by
  obtain ⟨hx, hb, hts, hown, hK, hz⟩ := X
  exact va_get (D := (dC, dI)) (ci := 2) (C := RX3) (T := TX3) (N := 5) hx hb hts hin hown hK G.1 c0 (xW_sh h0) rfl 3 (by decide) (hts _ hl) (fun _ h9 => h9) rfl hdg kk
theorem x_sget_4 (X : xX p s m args c cc Ts dC dI kc own B) (G : xH dC dI kc ad σ A H0 H locs) (hin : ∀ w ∈ wsX30, w ∈ Ts) (h0 : c0 ∈ shN) (hl : Cond.fieldLink own index "DeskStack$Shelf" "count" "I" ∈ Ts) (hdg : decode cc pc = .ok (.getfield index, 3)) (kk : W p l e R s m args below meth c H locs cells slots Q (F0 m (pc + 3) ls (.int (σ.1 c0) :: rest))) : W p l e R s m args below meth c H locs cells slots Q (F0 m pc ls (.ref (ad c0) :: rest)) := by
  obtain ⟨hx, hb, hts, hown, hK, hz⟩ := X
  exact va_get (D := (dC, dI)) (ci := 2) (C := RX3) (T := TX3) (N := 5) hx hb hts hin hown hK G.1 c0 (xW_sh h0) rfl 4 (by decide) (hts _ hl) (fun _ h9 => h9) rfl hdg kk
theorem x_sput_4 (X : xX p s m args c cc Ts dC dI kc own B) (G : xH dC dI kc ad σ A H0 H locs) (hin : ∀ w ∈ wsX30, w ∈ Ts) (h0 : c0 ∈ shN) {v : Int32} (hl : Cond.fieldLink own index "DeskStack$Shelf" "count" "I" ∈ Ts) (hdg : decode cc pc = .ok (.putfield index, 3)) (kk : ∀ (H1 : Heap) (locs1 : List Loc), xH dC dI kc ad (xi σ c0 v) A H0 H1 locs1 → W p l e R s m args below meth c H1 locs1 cells slots Q (F0 m (pc + 3) ls rest)) : W p l e R s m args below meth c H locs cells slots Q (F0 m pc ls (.int v :: .ref (ad c0) :: rest)) := by
  obtain ⟨hx, hb, hts, hown, hK, hz⟩ := X
  exact va_put (D := (dC, dI)) (ci := 2) (v := .int v) (ty := .int) (C := RX3) (T := TX3) (N := 5) hx hb hts hin tyX3 tyX3_ok nmX3 hown hK G.1 G.2.1 G.2.2 c0 (xW_sh h0) rfl 4 (by decide) (hts _ hl) (fun _ h9 => h9) rfl (by decide +kernel) rfl rfl (Nat.le_of_ble_eq_true rfl) hdg (fun H1 locs1 hP hD hS => kk H1 locs1 (x_to (σ := σ) (τ := xi σ c0 v) (k := c0) (by rw [xc_sh h0, xi_1] <;> rfl) rfl (fun n hn => xc_xi (by have := shN_lt h0; omega) (by have := shN_lt h0; omega) hn) hP hD hS))
theorem x_nget_0 (X : xX p s m args c cc Ts dC dI kc own B) (G : xH dC dI kc ad σ A H0 H locs) (hin : ∀ w ∈ wsX10, w ∈ Ts) (hl : Cond.fieldLink own index "DeskStack$Nest" "rows" "[LDeskStack$Row;" ∈ Ts) (hdg : decode cc pc = .ok (.getfield index, 3)) (kk : W p l e R s m args below meth c H locs cells slots Q (F0 m (pc + 3) ls (.ref (ad 3) :: rest))) : W p l e R s m args below meth c H locs cells slots Q (F0 m pc ls (.ref (ad 2) :: rest)) := by
  obtain ⟨hx, hb, hts, hown, hK, hz⟩ := X
  exact va_get (D := (dC, dI)) (ci := 0) (C := RX1) (T := TX1) (N := 4) hx hb hts hin hown hK G.1 2 (xW_nest) rfl 0 (by decide) (hts _ hl) (fun _ h9 => h9) rfl hdg kk
theorem x_nget_1 (X : xX p s m args c cc Ts dC dI kc own B) (G : xH dC dI kc ad σ A H0 H locs) (hin : ∀ w ∈ wsX10, w ∈ Ts) (hl : Cond.fieldLink own index "DeskStack$Nest" "positions" "[I" ∈ Ts) (hdg : decode cc pc = .ok (.getfield index, 3)) (kk : W p l e R s m args below meth c H locs cells slots Q (F0 m (pc + 3) ls (.ref (ad 4) :: rest))) : W p l e R s m args below meth c H locs cells slots Q (F0 m pc ls (.ref (ad 2) :: rest)) := by
  obtain ⟨hx, hb, hts, hown, hK, hz⟩ := X
  exact va_get (D := (dC, dI)) (ci := 0) (C := RX1) (T := TX1) (N := 4) hx hb hts hin hown hK G.1 2 (xW_nest) rfl 1 (by decide) (hts _ hl) (fun _ h9 => h9) rfl hdg kk
theorem x_nget_2 (X : xX p s m args c cc Ts dC dI kc own B) (G : xH dC dI kc ad σ A H0 H locs) (hin : ∀ w ∈ wsX10, w ∈ Ts) (hl : Cond.fieldLink own index "DeskStack$Nest" "ends" "[I" ∈ Ts) (hdg : decode cc pc = .ok (.getfield index, 3)) (kk : W p l e R s m args below meth c H locs cells slots Q (F0 m (pc + 3) ls (.ref (ad 5) :: rest))) : W p l e R s m args below meth c H locs cells slots Q (F0 m pc ls (.ref (ad 2) :: rest)) := by
  obtain ⟨hx, hb, hts, hown, hK, hz⟩ := X
  exact va_get (D := (dC, dI)) (ci := 0) (C := RX1) (T := TX1) (N := 4) hx hb hts hin hown hK G.1 2 (xW_nest) rfl 2 (by decide) (hts _ hl) (fun _ h9 => h9) rfl hdg kk
theorem x_nget_3 (X : xX p s m args c cc Ts dC dI kc own B) (G : xH dC dI kc ad σ A H0 H locs) (hin : ∀ w ∈ wsX10, w ∈ Ts) (hl : Cond.fieldLink own index "DeskStack$Nest" "count" "I" ∈ Ts) (hdg : decode cc pc = .ok (.getfield index, 3)) (kk : W p l e R s m args below meth c H locs cells slots Q (F0 m (pc + 3) ls (.int (σ.1 2) :: rest))) : W p l e R s m args below meth c H locs cells slots Q (F0 m pc ls (.ref (ad 2) :: rest)) := by
  obtain ⟨hx, hb, hts, hown, hK, hz⟩ := X
  exact va_get (D := (dC, dI)) (ci := 0) (C := RX1) (T := TX1) (N := 4) hx hb hts hin hown hK G.1 2 (xW_nest) rfl 3 (by decide) (hts _ hl) (fun _ h9 => h9) rfl hdg kk
theorem x_nput_3 (X : xX p s m args c cc Ts dC dI kc own B) (G : xH dC dI kc ad σ A H0 H locs) (hin : ∀ w ∈ wsX10, w ∈ Ts) {v : Int32} (hl : Cond.fieldLink own index "DeskStack$Nest" "count" "I" ∈ Ts) (hdg : decode cc pc = .ok (.putfield index, 3)) (kk : ∀ (H1 : Heap) (locs1 : List Loc), xH dC dI kc ad (xi σ 2 v) A H0 H1 locs1 → W p l e R s m args below meth c H1 locs1 cells slots Q (F0 m (pc + 3) ls rest)) : W p l e R s m args below meth c H locs cells slots Q (F0 m pc ls (.int v :: .ref (ad 2) :: rest)) := by
  obtain ⟨hx, hb, hts, hown, hK, hz⟩ := X
  exact va_put (D := (dC, dI)) (ci := 0) (v := .int v) (ty := .int) (C := RX1) (T := TX1) (N := 4) hx hb hts hin tyX1 tyX1_ok nmX1 hown hK G.1 G.2.1 G.2.2 2 (xW_nest) rfl 3 (by decide) (hts _ hl) (fun _ h9 => h9) rfl (by decide +kernel) rfl rfl (Nat.le_of_ble_eq_true rfl) hdg (fun H1 locs1 hP hD hS => kk H1 locs1 (x_to (σ := σ) (τ := xi σ 2 v) (k := 2) (rfl) rfl (fun n hn => xc_xi (by decide) (by decide) hn) hP hD hS))
theorem x_rget_0 (X : xX p s m args c cc Ts dC dI kc own B) (G : xH dC dI kc ad σ A H0 H locs) (hin : ∀ w ∈ wsX20, w ∈ Ts) (h0 : xv σ c0) (hl : Cond.fieldLink own index "DeskStack$Row" "chars" "[B" ∈ Ts) (hdg : decode cc pc = .ok (.getfield index, 3)) (kk : W p l e R s m args below meth c H locs cells slots Q (F0 m (pc + 3) ls (.ref (ad (c0 + 1)) :: rest))) : W p l e R s m args below meth c H locs cells slots Q (F0 m pc ls (.ref (ad c0) :: rest)) := by
  obtain ⟨hx, hb, hts, hown, hK, hz⟩ := X
  exact va_get (D := (dC, dI)) (ci := 1) (C := RX2) (T := TX2) (N := 2) hx hb hts hin hown hK G.1 c0 (xW_row h0) rfl 0 (by decide) (hts _ hl) (fun _ h9 => h9) rfl hdg kk
theorem x_rget_1 (X : xX p s m args c cc Ts dC dI kc own B) (G : xH dC dI kc ad σ A H0 H locs) (hin : ∀ w ∈ wsX20, w ∈ Ts) (h0 : xv σ c0) (hl : Cond.fieldLink own index "DeskStack$Row" "size" "I" ∈ Ts) (hdg : decode cc pc = .ok (.getfield index, 3)) (kk : W p l e R s m args below meth c H locs cells slots Q (F0 m (pc + 3) ls (.int (σ.1 c0) :: rest))) : W p l e R s m args below meth c H locs cells slots Q (F0 m pc ls (.ref (ad c0) :: rest)) := by
  obtain ⟨hx, hb, hts, hown, hK, hz⟩ := X
  exact va_get (D := (dC, dI)) (ci := 1) (C := RX2) (T := TX2) (N := 2) hx hb hts hin hown hK G.1 c0 (xW_row h0) rfl 1 (by decide) (hts _ hl) (fun _ h9 => h9) rfl hdg kk
theorem x_rput_1 (X : xX p s m args c cc Ts dC dI kc own B) (G : xH dC dI kc ad σ A H0 H locs) (hin : ∀ w ∈ wsX20, w ∈ Ts) (h0 : xv σ c0) {v : Int32} (hl : Cond.fieldLink own index "DeskStack$Row" "size" "I" ∈ Ts) (hdg : decode cc pc = .ok (.putfield index, 3)) (kk : ∀ (H1 : Heap) (locs1 : List Loc), xH dC dI kc ad (xi σ c0 v) A H0 H1 locs1 → W p l e R s m args below meth c H1 locs1 cells slots Q (F0 m (pc + 3) ls rest)) : W p l e R s m args below meth c H locs cells slots Q (F0 m pc ls (.int v :: .ref (ad c0) :: rest)) := by
  obtain ⟨hx, hb, hts, hown, hK, hz⟩ := X
  exact va_put (D := (dC, dI)) (ci := 1) (v := .int v) (ty := .int) (C := RX2) (T := TX2) (N := 2) hx hb hts hin tyX2 tyX2_ok nmX2 hown hK G.1 G.2.1 G.2.2 c0 (xW_row h0) rfl 1 (by decide) (hts _ hl) (fun _ h9 => h9) rfl (by decide +kernel) rfl rfl (Nat.le_of_ble_eq_true rfl) hdg (fun H1 locs1 hP hD hS => kk H1 locs1 (x_to (σ := σ) (τ := xi σ c0 v) (k := c0) (by rw [xc_row (show xv (xi σ c0 v) c0 from h0), xi_1] <;> rfl) rfl (fun n hn => xc_xi (by have := h0.1; omega) (by have := h0.1; omega) hn) hP hD hS))
theorem x_dget_0 (X : xX p s m args c cc Ts dC dI kc own B) (G : xH dC dI kc ad σ A H0 H locs) (hin : ∀ w ∈ wsX40, w ∈ Ts) (hl : Cond.fieldLink own index "DeskStack" "stack" "LDeskStack$Shelf;" ∈ Ts) (hdg : decode cc pc = .ok (.getfield index, 3)) (kk : W p l e R s m args below meth c H locs cells slots Q (F0 m (pc + 3) ls (.ref (ad 6) :: rest))) : W p l e R s m args below meth c H locs cells slots Q (F0 m pc ls (.ref (ad 0) :: rest)) := by
  obtain ⟨hx, hb, hts, hown, hK, hz⟩ := X
  exact va_get (D := (dC, dI)) (ci := 3) (C := RX4) (T := TX4) (N := 7) hx hb hts hin hown hK G.1 0 (xW_desk) rfl 0 (by decide) (hts _ hl) (fun _ h9 => h9) rfl hdg kk
theorem x_dget_1 (X : xX p s m args c cc Ts dC dI kc own B) (G : xH dC dI kc ad σ A H0 H locs) (hin : ∀ w ∈ wsX40, w ∈ Ts) (hl : Cond.fieldLink own index "DeskStack" "registers" "[LDeskStack$Shelf;" ∈ Ts) (hdg : decode cc pc = .ok (.getfield index, 3)) (kk : W p l e R s m args below meth c H locs cells slots Q (F0 m (pc + 3) ls (.ref (ad 1) :: rest))) : W p l e R s m args below meth c H locs cells slots Q (F0 m pc ls (.ref (ad 0) :: rest)) := by
  obtain ⟨hx, hb, hts, hown, hK, hz⟩ := X
  exact va_get (D := (dC, dI)) (ci := 3) (C := RX4) (T := TX4) (N := 7) hx hb hts hin hown hK G.1 0 (xW_desk) rfl 1 (by decide) (hts _ hl) (fun _ h9 => h9) rfl hdg kk
theorem x_dget_2 (X : xX p s m args c cc Ts dC dI kc own B) (G : xH dC dI kc ad σ A H0 H locs) (hin : ∀ w ∈ wsX40, w ∈ Ts) (hl : Cond.fieldLink own index "DeskStack" "printer" "LDeskStack$Shelf;" ∈ Ts) (hdg : decode cc pc = .ok (.getfield index, 3)) (kk : W p l e R s m args below meth c H locs cells slots Q (F0 m (pc + 3) ls (.ref (ad 31) :: rest))) : W p l e R s m args below meth c H locs cells slots Q (F0 m pc ls (.ref (ad 0) :: rest)) := by
  obtain ⟨hx, hb, hts, hown, hK, hz⟩ := X
  exact va_get (D := (dC, dI)) (ci := 3) (C := RX4) (T := TX4) (N := 7) hx hb hts hin hown hK G.1 0 (xW_desk) rfl 2 (by decide) (hts _ hl) (fun _ h9 => h9) rfl hdg kk
theorem x_dget_3 (X : xX p s m args c cc Ts dC dI kc own B) (G : xH dC dI kc ad σ A H0 H locs) (hin : ∀ w ∈ wsX40, w ∈ Ts) (hl : Cond.fieldLink own index "DeskStack" "texts" "LDeskStack$Nest;" ∈ Ts) (hdg : decode cc pc = .ok (.getfield index, 3)) (kk : W p l e R s m args below meth c H locs cells slots Q (F0 m (pc + 3) ls (.ref (ad 2) :: rest))) : W p l e R s m args below meth c H locs cells slots Q (F0 m pc ls (.ref (ad 0) :: rest)) := by
  obtain ⟨hx, hb, hts, hown, hK, hz⟩ := X
  exact va_get (D := (dC, dI)) (ci := 3) (C := RX4) (T := TX4) (N := 7) hx hb hts hin hown hK G.1 0 (xW_desk) rfl 3 (by decide) (hts _ hl) (fun _ h9 => h9) rfl hdg kk
theorem x_dget_4 (X : xX p s m args c cc Ts dC dI kc own B) (G : xH dC dI kc ad σ A H0 H locs) (hin : ∀ w ∈ wsX40, w ∈ Ts) (hl : Cond.fieldLink own index "DeskStack" "program" "LDeskStack$Row;" ∈ Ts) (hdg : decode cc pc = .ok (.getfield index, 3)) (kk : W p l e R s m args below meth c H locs cells slots Q (F0 m (pc + 3) ls (.ref (ad σ.2.2.2.2.1) :: rest))) : W p l e R s m args below meth c H locs cells slots Q (F0 m pc ls (.ref (ad 0) :: rest)) := by
  obtain ⟨hx, hb, hts, hown, hK, hz⟩ := X
  exact va_get (D := (dC, dI)) (ci := 3) (C := RX4) (T := TX4) (N := 7) hx hb hts hin hown hK G.1 0 (xW_desk) rfl 4 (by decide) (hts _ hl) (fun _ h9 => h9) rfl hdg kk
theorem x_dget_5 (X : xX p s m args c cc Ts dC dI kc own B) (G : xH dC dI kc ad σ A H0 H locs) (hin : ∀ w ∈ wsX40, w ∈ Ts) (hl : Cond.fieldLink own index "DeskStack" "keptPlaces" "I" ∈ Ts) (hdg : decode cc pc = .ok (.getfield index, 3)) (kk : W p l e R s m args below meth c H locs cells slots Q (F0 m (pc + 3) ls (.int (σ.1 0) :: rest))) : W p l e R s m args below meth c H locs cells slots Q (F0 m pc ls (.ref (ad 0) :: rest)) := by
  obtain ⟨hx, hb, hts, hown, hK, hz⟩ := X
  exact va_get (D := (dC, dI)) (ci := 3) (C := RX4) (T := TX4) (N := 7) hx hb hts hin hown hK G.1 0 (xW_desk) rfl 5 (by decide) (hts _ hl) (fun _ h9 => h9) rfl hdg kk
theorem x_dget_6 (X : xX p s m args c cc Ts dC dI kc own B) (G : xH dC dI kc ad σ A H0 H locs) (hin : ∀ w ∈ wsX40, w ∈ Ts) (hl : Cond.fieldLink own index "DeskStack" "commandsDone" "I" ∈ Ts) (hdg : decode cc pc = .ok (.getfield index, 3)) (kk : W p l e R s m args below meth c H locs cells slots Q (F0 m (pc + 3) ls (.int (σ.1 1) :: rest))) : W p l e R s m args below meth c H locs cells slots Q (F0 m pc ls (.ref (ad 0) :: rest)) := by
  obtain ⟨hx, hb, hts, hown, hK, hz⟩ := X
  exact va_get (D := (dC, dI)) (ci := 3) (C := RX4) (T := TX4) (N := 7) hx hb hts hin hown hK G.1 0 (xW_desk) rfl 6 (by decide) (hts _ hl) (fun _ h9 => h9) rfl hdg kk
theorem x_dput_5 (X : xX p s m args c cc Ts dC dI kc own B) (G : xH dC dI kc ad σ A H0 H locs) (hin : ∀ w ∈ wsX40, w ∈ Ts) {v : Int32} (hl : Cond.fieldLink own index "DeskStack" "keptPlaces" "I" ∈ Ts) (hdg : decode cc pc = .ok (.putfield index, 3)) (kk : ∀ (H1 : Heap) (locs1 : List Loc), xH dC dI kc ad (xi σ 0 v) A H0 H1 locs1 → W p l e R s m args below meth c H1 locs1 cells slots Q (F0 m (pc + 3) ls rest)) : W p l e R s m args below meth c H locs cells slots Q (F0 m pc ls (.int v :: .ref (ad 0) :: rest)) := by
  obtain ⟨hx, hb, hts, hown, hK, hz⟩ := X
  exact va_put (D := (dC, dI)) (ci := 3) (v := .int v) (ty := .int) (C := RX4) (T := TX4) (N := 7) hx hb hts hin tyX4 tyX4_ok nmX4 hown hK G.1 G.2.1 G.2.2 0 (xW_desk) rfl 5 (by decide) (hts _ hl) (fun _ h9 => h9) rfl (by decide +kernel) rfl rfl (Nat.le_of_ble_eq_true rfl) hdg (fun H1 locs1 hP hD hS => kk H1 locs1 (x_to (σ := σ) (τ := xi σ 0 v) (k := 0) (rfl) rfl (fun n hn => xc_xi0 (Or.inl rfl) hn) hP hD hS))
theorem x_dput_6 (X : xX p s m args c cc Ts dC dI kc own B) (G : xH dC dI kc ad σ A H0 H locs) (hin : ∀ w ∈ wsX40, w ∈ Ts) {v : Int32} (hl : Cond.fieldLink own index "DeskStack" "commandsDone" "I" ∈ Ts) (hdg : decode cc pc = .ok (.putfield index, 3)) (kk : ∀ (H1 : Heap) (locs1 : List Loc), xH dC dI kc ad (xi σ 1 v) A H0 H1 locs1 → W p l e R s m args below meth c H1 locs1 cells slots Q (F0 m (pc + 3) ls rest)) : W p l e R s m args below meth c H locs cells slots Q (F0 m pc ls (.int v :: .ref (ad 0) :: rest)) := by
  obtain ⟨hx, hb, hts, hown, hK, hz⟩ := X
  exact va_put (D := (dC, dI)) (ci := 3) (v := .int v) (ty := .int) (C := RX4) (T := TX4) (N := 7) hx hb hts hin tyX4 tyX4_ok nmX4 hown hK G.1 G.2.1 G.2.2 0 (xW_desk) rfl 6 (by decide) (hts _ hl) (fun _ h9 => h9) rfl (by decide +kernel) rfl rfl (Nat.le_of_ble_eq_true rfl) hdg (fun H1 locs1 hP hD hS => kk H1 locs1 (x_to (σ := σ) (τ := xi σ 1 v) (k := 0) (rfl) rfl (fun n hn => xc_xi0 (Or.inr rfl) hn) hP hD hS))
theorem x_ild (X : xX p s m args c cc Ts dC dI kc own B) (G : xH dC dI kc ad σ A H0 H locs) {L : Nat} (h0 : xI c0 L) {i : Int32} (hi : vp_in i L) (hdg : decode cc pc = .ok (.iaload, 1)) (kk : W p l e R s m args below meth c H locs cells slots Q (F0 m (pc + 1) ls (.int (σ.2.1 c0 i.toNatClampNeg) :: rest))) : W p l e R s m args below meth c H locs cells slots Q (F0 m pc ls (.int i :: .ref (ad c0) :: rest)) := by
  obtain ⟨hx, hb, hts, hown, hK, hz⟩ := X
  exact va_iald (cA := kc 0) (n := L) (f := σ.2.1 c0) hx hb hK G.1 c0 0 (by rw [xW_at (Nat.lt_of_lt_of_le h0.1 xn_ge), h0.2]) rfl hi hdg kk
theorem x_ist (X : xX p s m args c cc Ts dC dI kc own B) (G : xH dC dI kc ad σ A H0 H locs) {L : Nat} (h0 : xI c0 L) {i : Int32} {v : Int32} (hi : vp_in i L) (hdg : decode cc pc = .ok (.iastore, 1)) (kk : ∀ (H1 : Heap) (locs1 : List Loc), xH dC dI kc ad (xa σ c0 i.toNatClampNeg v) A H0 H1 locs1 → W p l e R s m args below meth c H1 locs1 cells slots Q (F0 m (pc + 1) ls rest)) : W p l e R s m args below meth c H locs cells slots Q (F0 m pc ls (.int v :: .int i :: .ref (ad c0) :: rest)) := by
  obtain ⟨hx, hb, hts, hown, hK, hz⟩ := X
  exact va_iast (cA := kc 0) (n := L) (f := σ.2.1 c0) hx hb hK G.1 G.2.1 G.2.2 c0 0 (by rw [xW_at (Nat.lt_of_lt_of_le h0.1 xn_ge), h0.2]) rfl hi hdg (fun H1 locs1 hP hD hS => kk H1 locs1 (x_to (σ := σ) (τ := xa σ c0 i.toNatClampNeg v) (k := c0) (by rw [h0.2, xa_1]) rfl (fun n hn => xc_xa hn) hP hD hS))
theorem x_lld (X : xX p s m args c cc Ts dC dI kc own B) (G : xH dC dI kc ad σ A H0 H locs) {L : Nat} (h0 : xJ c0 L) {i : Int32} (hi : vp_in i L) (hdg : decode cc pc = .ok (.laload, 1)) (kk : W p l e R s m args below meth c H locs cells slots Q (F0 m (pc + 1) ls (.long (σ.2.2.1 c0 i.toNatClampNeg) :: rest))) : W p l e R s m args below meth c H locs cells slots Q (F0 m pc ls (.int i :: .ref (ad c0) :: rest)) := by
  obtain ⟨hx, hb, hts, hown, hK, hz⟩ := X
  exact va_lald (cA := kc 1) (n := L) (f := σ.2.2.1 c0) hx hb hK G.1 c0 1 (by rw [xW_at (Nat.lt_of_lt_of_le h0.1 xn_ge), h0.2]) rfl hi hdg kk
theorem x_lst (X : xX p s m args c cc Ts dC dI kc own B) (G : xH dC dI kc ad σ A H0 H locs) {L : Nat} (h0 : xJ c0 L) {i : Int32} {v : Int64} (hi : vp_in i L) (hdg : decode cc pc = .ok (.lastore, 1)) (kk : ∀ (H1 : Heap) (locs1 : List Loc), xH dC dI kc ad (xb σ c0 i.toNatClampNeg v) A H0 H1 locs1 → W p l e R s m args below meth c H1 locs1 cells slots Q (F0 m (pc + 1) ls rest)) : W p l e R s m args below meth c H locs cells slots Q (F0 m pc ls (.long v :: .int i :: .ref (ad c0) :: rest)) := by
  obtain ⟨hx, hb, hts, hown, hK, hz⟩ := X
  exact va_last (cA := kc 1) (n := L) (f := σ.2.2.1 c0) hx hb hK G.1 G.2.1 G.2.2 c0 1 (by rw [xW_at (Nat.lt_of_lt_of_le h0.1 xn_ge), h0.2]) rfl hi hdg (fun H1 locs1 hP hD hS => kk H1 locs1 (x_to (σ := σ) (τ := xb σ c0 i.toNatClampNeg v) (k := c0) (by rw [h0.2, xb_1]) rfl (fun n hn => xc_xb hn) hP hD hS))
theorem x_qld (X : xX p s m args c cc Ts dC dI kc own B) (G : xH dC dI kc ad σ A H0 H locs) {L : Nat} (h0 : xQ c0 L) {i : Int32} (hi : vp_in i L) (hdg : decode cc pc = .ok (.aaload, 1)) (kk : W p l e R s m args below meth c H locs cells slots Q (F0 m (pc + 1) ls (va_rf ((σ.2.2.2.1 c0 i.toNatClampNeg).map ad) :: rest))) : W p l e R s m args below meth c H locs cells slots Q (F0 m pc ls (.int i :: .ref (ad c0) :: rest)) := by
  obtain ⟨hx, hb, hts, hown, hK, hz⟩ := X
  exact va_aldq (cA := kc 3) (n := L) (f := fun j => (σ.2.2.2.1 c0 j).map ad) hx hb hK G.1 c0 3 (by rw [xW_at (Nat.lt_of_lt_of_le h0.1 xn_ge), h0.2]) rfl hi hdg kk
theorem x_qst (X : xX p s m args c cc Ts dC dI kc own B) (G : xH dC dI kc ad σ A H0 H locs) {L : Nat} (h0 : xQ c0 L) {i : Int32} {v : Option Nat} (hv : ∀ n, v = some n → xv σ n) (hi : vp_in i L) (hdg : decode cc pc = .ok (.aastore, 1)) (kk : ∀ (H1 : Heap) (locs1 : List Loc), xH dC dI kc ad (xr σ c0 i.toNatClampNeg v) A H0 H1 locs1 → W p l e R s m args below meth c H1 locs1 cells slots Q (F0 m (pc + 1) ls rest)) : W p l e R s m args below meth c H locs cells slots Q (F0 m pc ls (va_rf (v.map ad) :: .int i :: .ref (ad c0) :: rest)) := by
  obtain ⟨hx, hb, hts, hown, hK, hz⟩ := X
  cases v with
  | none =>
    exact va_astqN (cA := kc 3) (n := L) (f := fun j => (σ.2.2.2.1 c0 j).map ad) hx hb hK G.1 G.2.1 G.2.2 c0 3 (by rw [xW_at (Nat.lt_of_lt_of_le h0.1 xn_ge), h0.2]) rfl hi hdg (fun H1 locs1 hP hD hS => kk H1 locs1 (x_to (σ := σ) (τ := xr σ c0 i.toNatClampNeg none) (k := c0) (by rw [h0.2, xr_1, ← xr_map] <;> rfl) rfl (fun n hn => xc_xr hn) hP hD hS))
  | some n =>
    exact va_astq (cA := kc 3) (n := L) (f := fun j => (σ.2.2.2.1 c0 j).map ad) hx hb hK G.1 G.2.1 G.2.2 c0 3 n 1 (by rw [xW_at (Nat.lt_of_lt_of_le h0.1 xn_ge), h0.2]) rfl (xW_row (hv n rfl)) rfl hi hdg (fun H1 locs1 hP hD hS => kk H1 locs1 (x_to (σ := σ) (τ := xr σ c0 i.toNatClampNeg (some n)) (k := c0) (by rw [h0.2, xr_1, ← xr_map] <;> rfl) rfl (fun n hn => xc_xr hn) hP hD hS))
theorem x_alenJ (X : xX p s m args c cc Ts dC dI kc own B) (G : xH dC dI kc ad σ A H0 H locs) {L : Nat} (h0 : xJ c0 L) (hdg : decode cc pc = .ok (.arraylength, 1)) (kk : W p l e R s m args below meth c H locs cells slots Q (F0 m (pc + 1) ls (.int (Int32.ofNat L) :: rest))) : W p l e R s m args below meth c H locs cells slots Q (F0 m pc ls (.ref (ad c0) :: rest)) := by
  obtain ⟨hx, hb, hts, hown, hK, hz⟩ := X
  exact va_alen (cA := kc 1) (x := (L, .inr (.inl (σ.2.2.1 c0)))) hx hb hK G.1 c0 1 (by rw [xW_at (Nat.lt_of_lt_of_le h0.1 xn_ge), h0.2]) rfl rfl hdg kk
theorem x_alenQ (X : xX p s m args c cc Ts dC dI kc own B) (G : xH dC dI kc ad σ A H0 H locs) {L : Nat} {v : Int32} (h0 : xQ c0 L) (hv : Int32.ofNat L = v) (hdg : decode cc pc = .ok (.arraylength, 1)) (kk : W p l e R s m args below meth c H locs cells slots Q (F0 m (pc + 1) ls (.int v :: rest))) : W p l e R s m args below meth c H locs cells slots Q (F0 m pc ls (.ref (ad c0) :: rest)) := by
  obtain ⟨hx, hb, hts, hown, hK, hz⟩ := X
  exact va_alen (cA := kc 3) (x := (L, .inr (.inr (.inr (.inr (fun j => (σ.2.2.2.1 c0 j).map ad)))))) hx hb hK G.1 c0 3 (by rw [xW_at (Nat.lt_of_lt_of_le h0.1 xn_ge), h0.2]) rfl hv hdg kk
theorem x_alenR (X : xX p s m args c cc Ts dC dI kc own B) (G : xH dC dI kc ad σ A H0 H locs) (hdg : decode cc pc = .ok (.arraylength, 1)) (kk : W p l e R s m args below meth c H locs cells slots Q (F0 m (pc + 1) ls (.int 4 :: rest))) : W p l e R s m args below meth c H locs cells slots Q (F0 m pc ls (.ref (ad 1) :: rest)) := by
  obtain ⟨hx, hb, hts, hown, hK, hz⟩ := X
  exact va_alen hx hb hK G.1 1 4 xW_regs rfl rfl hdg kk
theorem x_rld (X : xX p s m args c cc Ts dC dI kc own B) (G : xH dC dI kc ad σ A H0 H locs) {i : Int32} (hi : vp_in i 4) (hdg : decode cc pc = .ok (.aaload, 1)) (kk : W p l e R s m args below meth c H locs cells slots Q (F0 m (pc + 1) ls (.ref (ad (11 + 5 * i.toNatClampNeg)) :: rest))) : W p l e R s m args below meth c H locs cells slots Q (F0 m pc ls (.int i :: .ref (ad 1) :: rest)) := by
  obtain ⟨hx, hb, hts, hown, hK, hz⟩ := X
  exact va_aldq hx hb hK G.1 1 4 xW_regs rfl hi hdg kk
theorem x_alenB (X : xX p s m args c cc Ts dC dI kc own B) (G : xH dC dI kc ad σ A H0 H locs) (h0 : xv σ c0) (hdg : decode cc pc = .ok (.arraylength, 1)) (kk : W p l e R s m args below meth c H locs cells slots Q (F0 m (pc + 1) ls (.int 160 :: rest))) : W p l e R s m args below meth c H locs cells slots Q (F0 m pc ls (.ref (ad (c0 + 1)) :: rest)) := by
  obtain ⟨hx, hb, hts, hown, hK, hz⟩ := X
  exact va_alen (cA := kc 2) (x := (160, .inl (σ.2.1 (c0 + 1)))) hx hb hK G.1 (c0 + 1) 2 (by rw [xW_at (xv_lt h0), xc_bytes h0]) rfl rfl hdg kk
theorem x_bld (X : xX p s m args c cc Ts dC dI kc own B) (G : xH dC dI kc ad σ A H0 H locs) (h0 : xv σ c0) {i : Int32} (hi : vp_in i 160) (hdg : decode cc pc = .ok (.baload, 1)) (kk : W p l e R s m args below meth c H locs cells slots Q (F0 m (pc + 1) ls (.int (σ.2.1 (c0 + 1) i.toNatClampNeg) :: rest))) : W p l e R s m args below meth c H locs cells slots Q (F0 m pc ls (.int i :: .ref (ad (c0 + 1)) :: rest)) := by
  obtain ⟨hx, hb, hts, hown, hK, hz⟩ := X
  exact va_bald (cA := kc 2) (n := 160) (f := σ.2.1 (c0 + 1)) hx hb hK G.1 (c0 + 1) 2 (by rw [xW_at (xv_lt h0), xc_bytes h0]) rfl hi hdg kk
theorem x_bst (X : xX p s m args c cc Ts dC dI kc own B) (G : xH dC dI kc ad σ A H0 H locs) (h0 : xv σ c0) {i v : Int32} (hi : vp_in i 160) (hdg : decode cc pc = .ok (.bastore, 1)) (kk : ∀ (H1 : Heap) (locs1 : List Loc), xH dC dI kc ad (xa σ (c0 + 1) i.toNatClampNeg (vp_nar .byte v)) A H0 H1 locs1 → W p l e R s m args below meth c H1 locs1 cells slots Q (F0 m (pc + 1) ls rest)) : W p l e R s m args below meth c H locs cells slots Q (F0 m pc ls (.int v :: .int i :: .ref (ad (c0 + 1)) :: rest)) := by
  obtain ⟨hx, hb, hts, hown, hK, hz⟩ := X
  exact va_bast (cA := kc 2) (n := 160) (f := σ.2.1 (c0 + 1)) hx hb hK G.1 G.2.1 G.2.2 (c0 + 1) 2 (by rw [xW_at (xv_lt h0), xc_bytes h0]) rfl hi hdg (fun H1 locs1 hP hD hS => kk H1 locs1 (x_to (σ := σ) (τ := xa σ (c0 + 1) i.toNatClampNeg (vp_nar .byte v)) (k := c0 + 1) (by rw [xc_bytes (show xv (xa σ (c0 + 1) i.toNatClampNeg (vp_nar .byte v)) c0 from h0), xa_1]) rfl (fun n hn => xc_xa hn) hP hD hS))
theorem x_aload_nq (hx : p.tables.exec = Jvm.exec) (hb : c.code = cc) {k : Fin 4} {i : Nat} {o : Option Nat} (hdg : decode cc pc = .ok (.aload_n k, 1)) (hi : (k : Nat) = i) (hl : ls[i]? = some (.val (va_rf o))) (kk : W p l e R s m args below meth c H locs cells slots Q (F0 m (pc + 1) ls (va_rf o :: rest))) : W p l e R s m args below meth c H locs cells slots Q (F0 m pc ls rest) := by
  cases o with
  | none => exact lv_aload_nN hx hb hdg hi hl kk
  | some a => exact lv_aload_n hx hb hdg hi hl kk
theorem x_aloadq (hx : p.tables.exec = Jvm.exec) (hb : c.code = cc) {i : Nat} {o : Option Nat} (hdg : decode cc pc = .ok (.aload i, 2)) (hl : ls[i]? = some (.val (va_rf o))) (kk : W p l e R s m args below meth c H locs cells slots Q (F0 m (pc + 2) ls (va_rf o :: rest))) : W p l e R s m args below meth c H locs cells slots Q (F0 m pc ls rest) := by
  cases o with
  | none => exact lv_aloadN hx hb hdg hl kk
  | some a => exact lv_aload hx hb hdg hl kk
theorem x_astore_nq (hx : p.tables.exec = Jvm.exec) (hb : c.code = cc) {k : Fin 4} {i nL : Nat} {o : Option Nat} {lv lv' : List (Nat × Value)} (hdg : decode cc pc = .ok (.astore_n k, 1)) (hi : (k : Nat) = i) (h : lv_has ls nL lv) (hn : i < nL) (hl : (i, va_rf o) :: lv.filter (fun q => !(q.1 == i) && !(q.1 + 1 == i && q.2.category == 2)) = lv') (kk : ∀ ls : Array Slot, lv_has ls nL lv' → W p l e R s m args below meth c H locs cells slots Q (F0 m (pc + 1) ls rest)) : W p l e R s m args below meth c H locs cells slots Q (F0 m pc ls (va_rf o :: rest)) := by
  cases o with
  | none => exact lv_astore_nN hx hb hdg hi h hn hl kk
  | some a => exact lv_astore_n hx hb hdg hi h hn hl kk
theorem x_astoreq (hx : p.tables.exec = Jvm.exec) (hb : c.code = cc) {i nL : Nat} {o : Option Nat} {lv lv' : List (Nat × Value)} (hdg : decode cc pc = .ok (.astore i, 2)) (h : lv_has ls nL lv) (hn : i < nL) (hl : (i, va_rf o) :: lv.filter (fun q => !(q.1 == i) && !(q.1 + 1 == i && q.2.category == 2)) = lv') (kk : ∀ ls : Array Slot, lv_has ls nL lv' → W p l e R s m args below meth c H locs cells slots Q (F0 m (pc + 2) ls rest)) : W p l e R s m args below meth c H locs cells slots Q (F0 m pc ls (va_rf o :: rest)) := by
  cases o with
  | none => exact lv_astoreN hx hb hdg h hn hl kk
  | some a => exact lv_astore hx hb hdg h hn hl kk
theorem va_rf_cat (o : Option Nat) : (va_rf o).category = 1 := by cases o <;> rfl
theorem x_ifnull (hx : p.tables.exec = Jvm.exec) (hb : c.code = cc) {o : Option Nat} {off : Int} {tgt : Nat} (hdg : decode cc pc = .ok (.ifnull off, 3)) (ht : (pc : Int) + off = (tgt : Int)) (k0 : o = none → W p l e R s m args below meth c H locs cells slots Q (F0 m tgt ls rest)) (k1 : ∀ a, o = some a → W p l e R s m args below meth c H locs cells slots Q (F0 m (pc + 3) ls rest)) : W p l e R s m args below meth c H locs cells slots Q (F0 m pc ls (va_rf (o.map ad) :: rest)) := by
  cases o with
  | none => exact lv_ifnullN hx hb hdg ht (k0 rfl)
  | some a => exact lv_ifnull hx hb hdg (k1 a rfl)
theorem x_ifnonnull (hx : p.tables.exec = Jvm.exec) (hb : c.code = cc) {o : Option Nat} {off : Int} {tgt : Nat} (hdg : decode cc pc = .ok (.ifnonnull off, 3)) (ht : (pc : Int) + off = (tgt : Int)) (k1 : ∀ a, o = some a → W p l e R s m args below meth c H locs cells slots Q (F0 m tgt ls rest)) (k0 : o = none → W p l e R s m args below meth c H locs cells slots Q (F0 m (pc + 3) ls rest)) : W p l e R s m args below meth c H locs cells slots Q (F0 m pc ls (va_rf (o.map ad) :: rest)) := by
  cases o with
  | none => exact lv_ifnonnullN hx hb hdg (k0 rfl)
  | some a => exact lv_ifnonnull hx hb hdg ht (k1 a rfl)
theorem x_iret {A1 : Nat → Prop} {v : Int32} {post : Int32 → XS → Prop} (X : xX p s m args c cc Ts dC dI kc own B) (G : xH dC dI kc ad σ A1 s.heap H locs) (hr : meth.sig.returnType = some .int) (hlocks : meth.locks = false) (hq : post v σ) (hdg : decode cc pc = .ok (.ireturn, 1)) : W p l e R s m args below meth c H locs cells slots (MQ below (va_Qi post (xAt dC dI kc ad A1) A1) args s cells slots A1) (F0 m pc ls [.int v]) := by
  obtain ⟨hx, hb, hts, hown, hK, hz⟩ := X
  exact W.iret hx hb hr (fun t ht hW => ⟨⟨v, σ, rfl, hq, by rw [ht]; exact G.1, va_K.moved hW.alike hK, G.2.1⟩, G.2.2.F ht⟩) G.2.2.2.2 hdg hlocks
theorem x_lret {A1 : Nat → Prop} {v : Int64} {post : Int64 → XS → Prop} (X : xX p s m args c cc Ts dC dI kc own B) (G : xH dC dI kc ad σ A1 s.heap H locs) (hr : meth.sig.returnType = some .long) (hlocks : meth.locks = false) (hq : post v σ) (hdg : decode cc pc = .ok (.lreturn, 1)) : W p l e R s m args below meth c H locs cells slots (MQ below (va_Ql post (xAt dC dI kc ad A1) A1) args s cells slots A1) (F0 m pc ls [.long v]) := by
  obtain ⟨hx, hb, hts, hown, hK, hz⟩ := X
  exact W.lret hx hb hr (fun t ht hW => ⟨⟨v, σ, rfl, hq, by rw [ht]; exact G.1, va_K.moved hW.alike hK, G.2.1⟩, G.2.2.F ht⟩) G.2.2.2.2 hdg hlocks
theorem x_zret {A1 : Nat → Prop} {v : Int32} {post : Int32 → XS → Prop} (X : xX p s m args c cc Ts dC dI kc own B) (G : xH dC dI kc ad σ A1 s.heap H locs) (hr : meth.sig.returnType = some .boolean) (hlocks : meth.locks = false) (hn : narrow .boolean (.int v) = .int v) (hq : post v σ) (hdg : decode cc pc = .ok (.ireturn, 1)) : W p l e R s m args below meth c H locs cells slots (MQ below (va_Qi post (xAt dC dI kc ad A1) A1) args s cells slots A1) (F0 m pc ls [.int v]) := by
  obtain ⟨hx, hb, hts, hown, hK, hz⟩ := X
  exact W.zret hx hb hr hn (fun t ht hW => ⟨⟨v, σ, rfl, hq, by rw [ht]; exact G.1, va_K.moved hW.alike hK, G.2.1⟩, G.2.2.F ht⟩) G.2.2.2.2 hdg hlocks
theorem x_vret {A1 : Nat → Prop} {post : XS → Prop} (X : xX p s m args c cc Ts dC dI kc own B) (G : xH dC dI kc ad σ A1 s.heap H locs) (hr : meth.sig.returnType = none) (hlocks : meth.locks = false) (hq : post σ) (hdg : decode cc pc = .ok (.return_, 1)) : W p l e R s m args below meth c H locs cells slots (MQ below (va_Qv post (xAt dC dI kc ad A1) A1) args s cells slots A1) (F0 m pc ls []) := by
  obtain ⟨hx, hb, hts, hown, hK, hz⟩ := X
  exact W.vret hx hb hr (fun t ht hW => ⟨⟨σ, rfl, hq, by rw [ht]; exact G.1, va_K.moved hW.alike hK, G.2.1⟩, G.2.2.F ht⟩) G.2.2.2.2 hdg hlocks
theorem x_qret {A1 : Nat → Prop} {o : Option Nat} {ct : String} {post : Option Nat → XS → Prop} (X : xX p s m args c cc Ts dC dI kc own B) (G : xH dC dI kc ad σ A1 s.heap H locs) (hr : meth.sig.returnType = some (.object ct)) (hlocks : meth.locks = false) (hq : post o σ) (hdg : decode cc pc = .ok (.areturn, 1)) : W p l e R s m args below meth c H locs cells slots (MQ below (va_Qq post (xAt dC dI kc ad A1) A1) args s cells slots A1) (F0 m pc ls [va_rf o]) := by
  obtain ⟨hx, hb, hts, hown, hK, hz⟩ := X
  exact W.aret (v := va_rf o) hx hb hr (Or.inl ⟨_, rfl⟩) (va_rf_or _) (fun t ht hW => ⟨⟨o, σ, rfl, hq, by rw [ht]; exact G.1, va_K.moved hW.alike hK, G.2.1⟩, G.2.2.F ht⟩) G.2.2.2.2 hdg hlocks
theorem x_calli {y : MethodName} {bytes : ByteArray} {maxL nL n : Nat} {ret : Option FieldType} {ws : List Cond} {rm : Room} {As : List Value} {post : Int32 → XS → Prop} (X : xX p s m args c cc Ts dC dI kc own A) (hml : c.maxLocals = nL) (G : xH dC dI kc ad σ A s.heap H locs) (hA : ∀ q : Nat, s.heap.size ≤ q → A q) {C : String} {T9 : u_T} {N9 ci n0 : Nat} {fs : List Value} (hrv : (xW kc ad σ)[n0]? = some (ad n0, .inr (ci, fs))) (hcl : vwCl[ci]? = some (C, T9, N9)) (hM : Met l y ws rm (va_Pc (.ref (ad n0) :: As) (xPre dC dI kc ad H.size σ)) (va_Qi post (xAt dC dI kc ad (xA kc ad σ H.size)) (xA kc ad σ H.size)) 0 0 (xA kc ad σ H.size)) (cw : CallW R s args own C index y bytes maxL ret ws rm 0 0 n) (hn : As.length = n) (hsize : ls.size = nL) (hst : st0 = As.reverse ++ .ref (ad n0) :: rest) (hW : (rest.map fun v => v.category).sum ≤ 8) (hdg : decode cc pc = .ok (.invokevirtual index, 3)) (hf : cells ≤ R.cells ∧ slots ≤ R.slots) (kk : ∀ (r : Int32) (u : XS) (H1 : Heap) (locs1 : List Loc), post r u → xH dC dI kc ad u A s.heap H1 locs1 → W p l e R s m args below meth c H1 locs1 cells slots Q (F0 m (pc + 3) ls (.int r :: rest))) : W p l e R s m args below meth c H locs cells slots Q (F0 m pc ls st0) := by
  obtain ⟨hx, hb, hts, hown, hK, hz⟩ := X
  obtain ⟨hP, hD, hS⟩ := G
  have hFc : ∀ q, xA kc ad σ H.size q → A q := fun q h => h.elim (fun ⟨k, e9, hk⟩ => hD.2 k (q, e9) hk) (fun h => hA q (Nat.le_trans hS.1 h))
  refine va_calli (va_runV (As := As) (rest := rest) ⟨hx, hb, hml, hown, hts⟩ hM cw ⟨fun a U g mk q => by obtain ⟨q0, q1, qP, qK, qD, qz⟩ := q; exact ⟨q0, q1, qP, va_K.moved (u := U) (U := U.calling g mk a) (Vm.Alike.refl U.vm) qK, qD, qz.blind⟩, va_recv hK hP (ci := ci) (q0 := n0) hcl hrv, fun U hU hW => ⟨rfl, by rw [hU], by rw [hU]; exact hP, va_K.moved hW.alike hK, hD.weaken (fun _ _ _ _ => trivial), zX.at hz hS hU hW hFc⟩⟩ rfl hn hsize hst (lv_room hW) hdg hf) hS (fun q _ h => hFc q h) hFc (fun r u t H1 locs ht hvm hw hB hz1 hk1 hS => ?_)
  obtain ⟨hP1, hK1, hD1⟩ := hB
  rw [ht] at hP1
  exact kk r u H1 locs hw ⟨hP1, hD1.weaken (fun _ q9 _ h => hFc q9.1 h), hS⟩
theorem y_calli {f : (String × XS) ⊕ (Int32 × XS)} {α0 : Type} {f0 : (String × XS) ⊕ α0} {Qc0 : Array Value → State → Outcome → State → Prop} {y : MethodName} {bytes : ByteArray} {maxL nL n : Nat} {ret : Option FieldType} {ws : List Cond} {rm : Room} {As : List Value} (X : xX p s m args c cc Ts dC dI kc own A) (hml : c.maxLocals = nL) (G : xH dC dI kc ad σ A s.heap H locs) (hA : ∀ q : Nat, s.heap.size ≤ q → A q) (hEx : ∀ x ∈ c.exceptionTable.toList, False) (hlocks : meth.locks = false) {C : String} {T9 : u_T} {N9 ci n0 : Nat} {fs : List Value} (hrv : (xW kc ad σ)[n0]? = some (ad n0, .inr (ci, fs))) (hcl : vwCl[ci]? = some (C, T9, N9)) (hM : xq_Met l y ws rm (va_Pc (.ref (ad n0) :: As) (xPre dC dI kc ad H.size σ)) (va_Qi (fun r u => f = .inr (r, u)) (xAt dC dI kc ad (xA kc ad σ H.size)) (xA kc ad σ H.size)) (xE f dC dI kc ad (xA kc ad σ H.size)) 0 0 1 6 (xA kc ad σ H.size)) (cw : CallW R s args own C index y bytes maxL ret ws rm 1 6 n) (hn : As.length = n) (hsize : ls.size = nL) (hst : st0 = As.reverse ++ .ref (ad n0) :: rest) (hW : (rest.map fun v => v.category).sum ≤ 8) (hdg : decode cc pc = .ok (.invokevirtual index, 3)) (hf : 1 ≤ R.cells ∧ 6 ≤ R.slots) (kx : ∀ (E : String) (u : XS), f = .inl (E, u) → f0 = .inl (E, u)) (kk : ∀ (r : Int32) (u : XS) (H1 : Heap) (locs1 : List Loc), f = .inr (r, u) → xH dC dI kc ad u A s.heap H1 locs1 → W p l e R s m args below meth c H1 locs1 0 0 (xq_MQ below Qc0 (xE f0 dC dI kc ad A) args s 0 0 1 6 A) (F0 m (pc + 3) ls (.int r :: rest))) : W p l e R s m args below meth c H locs 0 0 (xq_MQ below Qc0 (xE f0 dC dI kc ad A) args s 0 0 1 6 A) (F0 m pc ls st0) := by
  obtain ⟨hx, hb, hts, hown, hK, hz⟩ := X
  obtain ⟨hP, hD, hS⟩ := G
  have hFc : ∀ q, xA kc ad σ H.size q → A q := fun q h => h.elim (fun ⟨k, e9, hk⟩ => hD.2 k (q, e9) hk) (fun h => hA q (Nat.le_trans hS.1 h))
  refine xq_calli (mc := 0) (ms := 0) (mx := 1) (sx := 6) (xq_runV (As := As) (rest := rest) ⟨hx, hb, hml, hown, hts⟩ hM cw ⟨fun a U g mk q => by obtain ⟨q0, q1, qP, qK, qD, qz⟩ := q; exact ⟨q0, q1, qP, va_K.moved (u := U) (U := U.calling g mk a) (Vm.Alike.refl U.vm) qK, qD, qz.blind⟩, va_recv hK hP (ci := ci) (q0 := n0) hcl hrv, fun U hU hW => ⟨rfl, by rw [hU], by rw [hU]; exact hP, va_K.moved hW.alike hK, hD.weaken (fun _ _ _ _ => trivial), zX.at hz hS hU hW hFc⟩⟩ rfl hn hsize hst (lv_room hW) hdg ⟨by rw [Nat.zero_add]; exact hf.1, by rw [Nat.zero_add]; exact hf.2⟩) hS (fun q _ h => hFc q h) hFc (fun q _ h => hFc q h) (fun E ce q9 u t H1 locs1 ht hvm hpx hw hz1 hk1 hS hce hcv hcl => ?_) (fun r u t H1 locs ht hvm hw hB hz1 hk1 hS => ?_)
  · obtain ⟨hw, hP1, hK1, hD1⟩ := hw
    rw [ht] at hP1
    exact xq_thrW (vx_out (fun x hx => (hEx x hx).elim) hlocks hce hcv hcl (fun t ht ha => ⟨u, trivial, ⟨kx E u hw, by rw [ht]; exact hP1, va_K.moved ha hK, hD1.weaken (fun _ q9 _ h => hFc q9.1 h)⟩, hS.F ht⟩) hS.2.2 (by omega) (by omega))
  · obtain ⟨hP1, hK1, hD1⟩ := hB
    rw [ht] at hP1
    exact kk r u H1 locs hw ⟨hP1, hD1.weaken (fun _ q9 _ h => hFc q9.1 h), hS⟩
theorem x_callSi {y : MethodName} {bytes : ByteArray} {maxL nL n : Nat} {ret : Option FieldType} {ws : List Cond} {rm : Room} {As : List Value} {post : Int32 → XS → Prop} (X : xX p s m args c cc Ts dC dI kc own A) (hml : c.maxLocals = nL) (G : xH dC dI kc ad σ A s.heap H locs) (hA : ∀ q : Nat, s.heap.size ≤ q → A q) (hM : Met l y ws rm (va_Pc (As) (xPre dC dI kc ad H.size σ)) (va_Qi post (xAt dC dI kc ad (xA kc ad σ H.size)) (xA kc ad σ H.size)) 0 0 (xA kc ad σ H.size)) (cw : CallB R s args own index y bytes maxL ret ws rm 0 0 n ∧ (Cond.static y).before args s = true) (hn : As.length = n) (hsize : ls.size = nL) (hst : st0 = As.reverse ++ rest) (hW : (rest.map fun v => v.category).sum ≤ 8) (hdg : decode cc pc = .ok (.invokestatic index, 3)) (hf : cells ≤ R.cells ∧ slots ≤ R.slots) (kk : ∀ (r : Int32) (u : XS) (H1 : Heap) (locs1 : List Loc), post r u → xH dC dI kc ad u A s.heap H1 locs1 → W p l e R s m args below meth c H1 locs1 cells slots Q (F0 m (pc + 3) ls (.int r :: rest))) : W p l e R s m args below meth c H locs cells slots Q (F0 m pc ls st0) := by
  obtain ⟨hx, hb, hts, hown, hK, hz⟩ := X
  obtain ⟨hP, hD, hS⟩ := G
  have hFc : ∀ q, xA kc ad σ H.size q → A q := fun q h => h.elim (fun ⟨k, e9, hk⟩ => hD.2 k (q, e9) hk) (fun h => hA q (Nat.le_trans hS.1 h))
  refine va_calli (va_runS (As := As) (rest := rest) ⟨hx, hb, hml, hown, hts⟩ hM cw ⟨fun a U g mk q => by obtain ⟨q0, q1, qP, qK, qD, qz⟩ := q; exact ⟨q0, q1, qP, va_K.moved (u := U) (U := U.calling g mk a) (Vm.Alike.refl U.vm) qK, qD, qz.blind⟩, fun U hU hW => ⟨rfl, by rw [hU], by rw [hU]; exact hP, va_K.moved hW.alike hK, hD.weaken (fun _ _ _ _ => trivial), zX.at hz hS hU hW hFc⟩⟩ rfl hn hsize hst (lv_room hW) hdg hf) hS (fun q _ h => hFc q h) hFc (fun r u t H1 locs ht hvm hw hB hz1 hk1 hS => ?_)
  obtain ⟨hP1, hK1, hD1⟩ := hB
  rw [ht] at hP1
  exact kk r u H1 locs hw ⟨hP1, hD1.weaken (fun _ q9 _ h => hFc q9.1 h), hS⟩
theorem y_callSi {f : (String × XS) ⊕ (Int32 × XS)} {α0 : Type} {f0 : (String × XS) ⊕ α0} {Qc0 : Array Value → State → Outcome → State → Prop} {y : MethodName} {bytes : ByteArray} {maxL nL n : Nat} {ret : Option FieldType} {ws : List Cond} {rm : Room} {As : List Value} (X : xX p s m args c cc Ts dC dI kc own A) (hml : c.maxLocals = nL) (G : xH dC dI kc ad σ A s.heap H locs) (hA : ∀ q : Nat, s.heap.size ≤ q → A q) (hEx : ∀ x ∈ c.exceptionTable.toList, False) (hlocks : meth.locks = false) (hM : xq_Met l y ws rm (va_Pc (As) (xPre dC dI kc ad H.size σ)) (va_Qi (fun r u => f = .inr (r, u)) (xAt dC dI kc ad (xA kc ad σ H.size)) (xA kc ad σ H.size)) (xE f dC dI kc ad (xA kc ad σ H.size)) 0 0 1 6 (xA kc ad σ H.size)) (cw : CallB R s args own index y bytes maxL ret ws rm 1 6 n ∧ (Cond.static y).before args s = true) (hn : As.length = n) (hsize : ls.size = nL) (hst : st0 = As.reverse ++ rest) (hW : (rest.map fun v => v.category).sum ≤ 8) (hdg : decode cc pc = .ok (.invokestatic index, 3)) (hf : 1 ≤ R.cells ∧ 6 ≤ R.slots) (kx : ∀ (E : String) (u : XS), f = .inl (E, u) → f0 = .inl (E, u)) (kk : ∀ (r : Int32) (u : XS) (H1 : Heap) (locs1 : List Loc), f = .inr (r, u) → xH dC dI kc ad u A s.heap H1 locs1 → W p l e R s m args below meth c H1 locs1 0 0 (xq_MQ below Qc0 (xE f0 dC dI kc ad A) args s 0 0 1 6 A) (F0 m (pc + 3) ls (.int r :: rest))) : W p l e R s m args below meth c H locs 0 0 (xq_MQ below Qc0 (xE f0 dC dI kc ad A) args s 0 0 1 6 A) (F0 m pc ls st0) := by
  obtain ⟨hx, hb, hts, hown, hK, hz⟩ := X
  obtain ⟨hP, hD, hS⟩ := G
  have hFc : ∀ q, xA kc ad σ H.size q → A q := fun q h => h.elim (fun ⟨k, e9, hk⟩ => hD.2 k (q, e9) hk) (fun h => hA q (Nat.le_trans hS.1 h))
  refine xq_calli (mc := 0) (ms := 0) (mx := 1) (sx := 6) (xq_runS (As := As) (rest := rest) ⟨hx, hb, hml, hown, hts⟩ hM cw ⟨fun a U g mk q => by obtain ⟨q0, q1, qP, qK, qD, qz⟩ := q; exact ⟨q0, q1, qP, va_K.moved (u := U) (U := U.calling g mk a) (Vm.Alike.refl U.vm) qK, qD, qz.blind⟩, fun U hU hW => ⟨rfl, by rw [hU], by rw [hU]; exact hP, va_K.moved hW.alike hK, hD.weaken (fun _ _ _ _ => trivial), zX.at hz hS hU hW hFc⟩⟩ rfl hn hsize hst (lv_room hW) hdg ⟨by rw [Nat.zero_add]; exact hf.1, by rw [Nat.zero_add]; exact hf.2⟩) hS (fun q _ h => hFc q h) hFc (fun q _ h => hFc q h) (fun E ce q9 u t H1 locs1 ht hvm hpx hw hz1 hk1 hS hce hcv hcl => ?_) (fun r u t H1 locs ht hvm hw hB hz1 hk1 hS => ?_)
  · obtain ⟨hw, hP1, hK1, hD1⟩ := hw
    rw [ht] at hP1
    exact xq_thrW (vx_out (fun x hx => (hEx x hx).elim) hlocks hce hcv hcl (fun t ht ha => ⟨u, trivial, ⟨kx E u hw, by rw [ht]; exact hP1, va_K.moved ha hK, hD1.weaken (fun _ q9 _ h => hFc q9.1 h)⟩, hS.F ht⟩) hS.2.2 (by omega) (by omega))
  · obtain ⟨hP1, hK1, hD1⟩ := hB
    rw [ht] at hP1
    exact kk r u H1 locs hw ⟨hP1, hD1.weaken (fun _ q9 _ h => hFc q9.1 h), hS⟩
theorem x_calll {y : MethodName} {bytes : ByteArray} {maxL nL n : Nat} {ret : Option FieldType} {ws : List Cond} {rm : Room} {As : List Value} {post : Int64 → XS → Prop} (X : xX p s m args c cc Ts dC dI kc own A) (hml : c.maxLocals = nL) (G : xH dC dI kc ad σ A s.heap H locs) (hA : ∀ q : Nat, s.heap.size ≤ q → A q) {C : String} {T9 : u_T} {N9 ci n0 : Nat} {fs : List Value} (hrv : (xW kc ad σ)[n0]? = some (ad n0, .inr (ci, fs))) (hcl : vwCl[ci]? = some (C, T9, N9)) (hM : Met l y ws rm (va_Pc (.ref (ad n0) :: As) (xPre dC dI kc ad H.size σ)) (va_Ql post (xAt dC dI kc ad (xA kc ad σ H.size)) (xA kc ad σ H.size)) 0 0 (xA kc ad σ H.size)) (cw : CallW R s args own C index y bytes maxL ret ws rm 0 0 n) (hn : As.length = n) (hsize : ls.size = nL) (hst : st0 = As.reverse ++ .ref (ad n0) :: rest) (hW : (rest.map fun v => v.category).sum ≤ 8) (hdg : decode cc pc = .ok (.invokevirtual index, 3)) (hf : cells ≤ R.cells ∧ slots ≤ R.slots) (kk : ∀ (r : Int64) (u : XS) (H1 : Heap) (locs1 : List Loc), post r u → xH dC dI kc ad u A s.heap H1 locs1 → W p l e R s m args below meth c H1 locs1 cells slots Q (F0 m (pc + 3) ls (.long r :: rest))) : W p l e R s m args below meth c H locs cells slots Q (F0 m pc ls st0) := by
  obtain ⟨hx, hb, hts, hown, hK, hz⟩ := X
  obtain ⟨hP, hD, hS⟩ := G
  have hFc : ∀ q, xA kc ad σ H.size q → A q := fun q h => h.elim (fun ⟨k, e9, hk⟩ => hD.2 k (q, e9) hk) (fun h => hA q (Nat.le_trans hS.1 h))
  refine va_calll (va_runV (As := As) (rest := rest) ⟨hx, hb, hml, hown, hts⟩ hM cw ⟨fun a U g mk q => by obtain ⟨q0, q1, qP, qK, qD, qz⟩ := q; exact ⟨q0, q1, qP, va_K.moved (u := U) (U := U.calling g mk a) (Vm.Alike.refl U.vm) qK, qD, qz.blind⟩, va_recv hK hP (ci := ci) (q0 := n0) hcl hrv, fun U hU hW => ⟨rfl, by rw [hU], by rw [hU]; exact hP, va_K.moved hW.alike hK, hD.weaken (fun _ _ _ _ => trivial), zX.at hz hS hU hW hFc⟩⟩ rfl hn hsize hst (lv_room hW) hdg hf) hS (fun q _ h => hFc q h) hFc (fun r u t H1 locs ht hvm hw hB hz1 hk1 hS => ?_)
  obtain ⟨hP1, hK1, hD1⟩ := hB
  rw [ht] at hP1
  exact kk r u H1 locs hw ⟨hP1, hD1.weaken (fun _ q9 _ h => hFc q9.1 h), hS⟩
theorem y_calll {f : (String × XS) ⊕ (Int64 × XS)} {α0 : Type} {f0 : (String × XS) ⊕ α0} {Qc0 : Array Value → State → Outcome → State → Prop} {y : MethodName} {bytes : ByteArray} {maxL nL n : Nat} {ret : Option FieldType} {ws : List Cond} {rm : Room} {As : List Value} (X : xX p s m args c cc Ts dC dI kc own A) (hml : c.maxLocals = nL) (G : xH dC dI kc ad σ A s.heap H locs) (hA : ∀ q : Nat, s.heap.size ≤ q → A q) (hEx : ∀ x ∈ c.exceptionTable.toList, False) (hlocks : meth.locks = false) {C : String} {T9 : u_T} {N9 ci n0 : Nat} {fs : List Value} (hrv : (xW kc ad σ)[n0]? = some (ad n0, .inr (ci, fs))) (hcl : vwCl[ci]? = some (C, T9, N9)) (hM : xq_Met l y ws rm (va_Pc (.ref (ad n0) :: As) (xPre dC dI kc ad H.size σ)) (va_Ql (fun r u => f = .inr (r, u)) (xAt dC dI kc ad (xA kc ad σ H.size)) (xA kc ad σ H.size)) (xE f dC dI kc ad (xA kc ad σ H.size)) 0 0 1 6 (xA kc ad σ H.size)) (cw : CallW R s args own C index y bytes maxL ret ws rm 1 6 n) (hn : As.length = n) (hsize : ls.size = nL) (hst : st0 = As.reverse ++ .ref (ad n0) :: rest) (hW : (rest.map fun v => v.category).sum ≤ 8) (hdg : decode cc pc = .ok (.invokevirtual index, 3)) (hf : 1 ≤ R.cells ∧ 6 ≤ R.slots) (kx : ∀ (E : String) (u : XS), f = .inl (E, u) → f0 = .inl (E, u)) (kk : ∀ (r : Int64) (u : XS) (H1 : Heap) (locs1 : List Loc), f = .inr (r, u) → xH dC dI kc ad u A s.heap H1 locs1 → W p l e R s m args below meth c H1 locs1 0 0 (xq_MQ below Qc0 (xE f0 dC dI kc ad A) args s 0 0 1 6 A) (F0 m (pc + 3) ls (.long r :: rest))) : W p l e R s m args below meth c H locs 0 0 (xq_MQ below Qc0 (xE f0 dC dI kc ad A) args s 0 0 1 6 A) (F0 m pc ls st0) := by
  obtain ⟨hx, hb, hts, hown, hK, hz⟩ := X
  obtain ⟨hP, hD, hS⟩ := G
  have hFc : ∀ q, xA kc ad σ H.size q → A q := fun q h => h.elim (fun ⟨k, e9, hk⟩ => hD.2 k (q, e9) hk) (fun h => hA q (Nat.le_trans hS.1 h))
  refine xq_calll (mc := 0) (ms := 0) (mx := 1) (sx := 6) (xq_runV (As := As) (rest := rest) ⟨hx, hb, hml, hown, hts⟩ hM cw ⟨fun a U g mk q => by obtain ⟨q0, q1, qP, qK, qD, qz⟩ := q; exact ⟨q0, q1, qP, va_K.moved (u := U) (U := U.calling g mk a) (Vm.Alike.refl U.vm) qK, qD, qz.blind⟩, va_recv hK hP (ci := ci) (q0 := n0) hcl hrv, fun U hU hW => ⟨rfl, by rw [hU], by rw [hU]; exact hP, va_K.moved hW.alike hK, hD.weaken (fun _ _ _ _ => trivial), zX.at hz hS hU hW hFc⟩⟩ rfl hn hsize hst (lv_room hW) hdg ⟨by rw [Nat.zero_add]; exact hf.1, by rw [Nat.zero_add]; exact hf.2⟩) hS (fun q _ h => hFc q h) hFc (fun q _ h => hFc q h) (fun E ce q9 u t H1 locs1 ht hvm hpx hw hz1 hk1 hS hce hcv hcl => ?_) (fun r u t H1 locs ht hvm hw hB hz1 hk1 hS => ?_)
  · obtain ⟨hw, hP1, hK1, hD1⟩ := hw
    rw [ht] at hP1
    exact xq_thrW (vx_out (fun x hx => (hEx x hx).elim) hlocks hce hcv hcl (fun t ht ha => ⟨u, trivial, ⟨kx E u hw, by rw [ht]; exact hP1, va_K.moved ha hK, hD1.weaken (fun _ q9 _ h => hFc q9.1 h)⟩, hS.F ht⟩) hS.2.2 (by omega) (by omega))
  · obtain ⟨hP1, hK1, hD1⟩ := hB
    rw [ht] at hP1
    exact kk r u H1 locs hw ⟨hP1, hD1.weaken (fun _ q9 _ h => hFc q9.1 h), hS⟩
theorem x_callSl {y : MethodName} {bytes : ByteArray} {maxL nL n : Nat} {ret : Option FieldType} {ws : List Cond} {rm : Room} {As : List Value} {post : Int64 → XS → Prop} (X : xX p s m args c cc Ts dC dI kc own A) (hml : c.maxLocals = nL) (G : xH dC dI kc ad σ A s.heap H locs) (hA : ∀ q : Nat, s.heap.size ≤ q → A q) (hM : Met l y ws rm (va_Pc (As) (xPre dC dI kc ad H.size σ)) (va_Ql post (xAt dC dI kc ad (xA kc ad σ H.size)) (xA kc ad σ H.size)) 0 0 (xA kc ad σ H.size)) (cw : CallB R s args own index y bytes maxL ret ws rm 0 0 n ∧ (Cond.static y).before args s = true) (hn : As.length = n) (hsize : ls.size = nL) (hst : st0 = As.reverse ++ rest) (hW : (rest.map fun v => v.category).sum ≤ 8) (hdg : decode cc pc = .ok (.invokestatic index, 3)) (hf : cells ≤ R.cells ∧ slots ≤ R.slots) (kk : ∀ (r : Int64) (u : XS) (H1 : Heap) (locs1 : List Loc), post r u → xH dC dI kc ad u A s.heap H1 locs1 → W p l e R s m args below meth c H1 locs1 cells slots Q (F0 m (pc + 3) ls (.long r :: rest))) : W p l e R s m args below meth c H locs cells slots Q (F0 m pc ls st0) := by
  obtain ⟨hx, hb, hts, hown, hK, hz⟩ := X
  obtain ⟨hP, hD, hS⟩ := G
  have hFc : ∀ q, xA kc ad σ H.size q → A q := fun q h => h.elim (fun ⟨k, e9, hk⟩ => hD.2 k (q, e9) hk) (fun h => hA q (Nat.le_trans hS.1 h))
  refine va_calll (va_runS (As := As) (rest := rest) ⟨hx, hb, hml, hown, hts⟩ hM cw ⟨fun a U g mk q => by obtain ⟨q0, q1, qP, qK, qD, qz⟩ := q; exact ⟨q0, q1, qP, va_K.moved (u := U) (U := U.calling g mk a) (Vm.Alike.refl U.vm) qK, qD, qz.blind⟩, fun U hU hW => ⟨rfl, by rw [hU], by rw [hU]; exact hP, va_K.moved hW.alike hK, hD.weaken (fun _ _ _ _ => trivial), zX.at hz hS hU hW hFc⟩⟩ rfl hn hsize hst (lv_room hW) hdg hf) hS (fun q _ h => hFc q h) hFc (fun r u t H1 locs ht hvm hw hB hz1 hk1 hS => ?_)
  obtain ⟨hP1, hK1, hD1⟩ := hB
  rw [ht] at hP1
  exact kk r u H1 locs hw ⟨hP1, hD1.weaken (fun _ q9 _ h => hFc q9.1 h), hS⟩
theorem y_callSl {f : (String × XS) ⊕ (Int64 × XS)} {α0 : Type} {f0 : (String × XS) ⊕ α0} {Qc0 : Array Value → State → Outcome → State → Prop} {y : MethodName} {bytes : ByteArray} {maxL nL n : Nat} {ret : Option FieldType} {ws : List Cond} {rm : Room} {As : List Value} (X : xX p s m args c cc Ts dC dI kc own A) (hml : c.maxLocals = nL) (G : xH dC dI kc ad σ A s.heap H locs) (hA : ∀ q : Nat, s.heap.size ≤ q → A q) (hEx : ∀ x ∈ c.exceptionTable.toList, False) (hlocks : meth.locks = false) (hM : xq_Met l y ws rm (va_Pc (As) (xPre dC dI kc ad H.size σ)) (va_Ql (fun r u => f = .inr (r, u)) (xAt dC dI kc ad (xA kc ad σ H.size)) (xA kc ad σ H.size)) (xE f dC dI kc ad (xA kc ad σ H.size)) 0 0 1 6 (xA kc ad σ H.size)) (cw : CallB R s args own index y bytes maxL ret ws rm 1 6 n ∧ (Cond.static y).before args s = true) (hn : As.length = n) (hsize : ls.size = nL) (hst : st0 = As.reverse ++ rest) (hW : (rest.map fun v => v.category).sum ≤ 8) (hdg : decode cc pc = .ok (.invokestatic index, 3)) (hf : 1 ≤ R.cells ∧ 6 ≤ R.slots) (kx : ∀ (E : String) (u : XS), f = .inl (E, u) → f0 = .inl (E, u)) (kk : ∀ (r : Int64) (u : XS) (H1 : Heap) (locs1 : List Loc), f = .inr (r, u) → xH dC dI kc ad u A s.heap H1 locs1 → W p l e R s m args below meth c H1 locs1 0 0 (xq_MQ below Qc0 (xE f0 dC dI kc ad A) args s 0 0 1 6 A) (F0 m (pc + 3) ls (.long r :: rest))) : W p l e R s m args below meth c H locs 0 0 (xq_MQ below Qc0 (xE f0 dC dI kc ad A) args s 0 0 1 6 A) (F0 m pc ls st0) := by
  obtain ⟨hx, hb, hts, hown, hK, hz⟩ := X
  obtain ⟨hP, hD, hS⟩ := G
  have hFc : ∀ q, xA kc ad σ H.size q → A q := fun q h => h.elim (fun ⟨k, e9, hk⟩ => hD.2 k (q, e9) hk) (fun h => hA q (Nat.le_trans hS.1 h))
  refine xq_calll (mc := 0) (ms := 0) (mx := 1) (sx := 6) (xq_runS (As := As) (rest := rest) ⟨hx, hb, hml, hown, hts⟩ hM cw ⟨fun a U g mk q => by obtain ⟨q0, q1, qP, qK, qD, qz⟩ := q; exact ⟨q0, q1, qP, va_K.moved (u := U) (U := U.calling g mk a) (Vm.Alike.refl U.vm) qK, qD, qz.blind⟩, fun U hU hW => ⟨rfl, by rw [hU], by rw [hU]; exact hP, va_K.moved hW.alike hK, hD.weaken (fun _ _ _ _ => trivial), zX.at hz hS hU hW hFc⟩⟩ rfl hn hsize hst (lv_room hW) hdg ⟨by rw [Nat.zero_add]; exact hf.1, by rw [Nat.zero_add]; exact hf.2⟩) hS (fun q _ h => hFc q h) hFc (fun q _ h => hFc q h) (fun E ce q9 u t H1 locs1 ht hvm hpx hw hz1 hk1 hS hce hcv hcl => ?_) (fun r u t H1 locs ht hvm hw hB hz1 hk1 hS => ?_)
  · obtain ⟨hw, hP1, hK1, hD1⟩ := hw
    rw [ht] at hP1
    exact xq_thrW (vx_out (fun x hx => (hEx x hx).elim) hlocks hce hcv hcl (fun t ht ha => ⟨u, trivial, ⟨kx E u hw, by rw [ht]; exact hP1, va_K.moved ha hK, hD1.weaken (fun _ q9 _ h => hFc q9.1 h)⟩, hS.F ht⟩) hS.2.2 (by omega) (by omega))
  · obtain ⟨hP1, hK1, hD1⟩ := hB
    rw [ht] at hP1
    exact kk r u H1 locs hw ⟨hP1, hD1.weaken (fun _ q9 _ h => hFc q9.1 h), hS⟩
theorem x_callv {y : MethodName} {bytes : ByteArray} {maxL nL n : Nat} {ret : Option FieldType} {ws : List Cond} {rm : Room} {As : List Value} {post : XS → Prop} (X : xX p s m args c cc Ts dC dI kc own A) (hml : c.maxLocals = nL) (G : xH dC dI kc ad σ A s.heap H locs) (hA : ∀ q : Nat, s.heap.size ≤ q → A q) {C : String} {T9 : u_T} {N9 ci n0 : Nat} {fs : List Value} (hrv : (xW kc ad σ)[n0]? = some (ad n0, .inr (ci, fs))) (hcl : vwCl[ci]? = some (C, T9, N9)) (hM : Met l y ws rm (va_Pc (.ref (ad n0) :: As) (xPre dC dI kc ad H.size σ)) (va_Qv post (xAt dC dI kc ad (xA kc ad σ H.size)) (xA kc ad σ H.size)) 0 0 (xA kc ad σ H.size)) (cw : CallW R s args own C index y bytes maxL ret ws rm 0 0 n) (hn : As.length = n) (hsize : ls.size = nL) (hst : st0 = As.reverse ++ .ref (ad n0) :: rest) (hW : (rest.map fun v => v.category).sum ≤ 8) (hdg : decode cc pc = .ok (.invokevirtual index, 3)) (hf : cells ≤ R.cells ∧ slots ≤ R.slots) (kk : ∀ (u : XS) (H1 : Heap) (locs1 : List Loc), post u → xH dC dI kc ad u A s.heap H1 locs1 → W p l e R s m args below meth c H1 locs1 cells slots Q (F0 m (pc + 3) ls (rest))) : W p l e R s m args below meth c H locs cells slots Q (F0 m pc ls st0) := by
  obtain ⟨hx, hb, hts, hown, hK, hz⟩ := X
  obtain ⟨hP, hD, hS⟩ := G
  have hFc : ∀ q, xA kc ad σ H.size q → A q := fun q h => h.elim (fun ⟨k, e9, hk⟩ => hD.2 k (q, e9) hk) (fun h => hA q (Nat.le_trans hS.1 h))
  refine va_callv (va_runV (As := As) (rest := rest) ⟨hx, hb, hml, hown, hts⟩ hM cw ⟨fun a U g mk q => by obtain ⟨q0, q1, qP, qK, qD, qz⟩ := q; exact ⟨q0, q1, qP, va_K.moved (u := U) (U := U.calling g mk a) (Vm.Alike.refl U.vm) qK, qD, qz.blind⟩, va_recv hK hP (ci := ci) (q0 := n0) hcl hrv, fun U hU hW => ⟨rfl, by rw [hU], by rw [hU]; exact hP, va_K.moved hW.alike hK, hD.weaken (fun _ _ _ _ => trivial), zX.at hz hS hU hW hFc⟩⟩ rfl hn hsize hst (lv_room hW) hdg hf) hS (fun q _ h => hFc q h) hFc (fun u t H1 locs ht hvm hw hB hz1 hk1 hS => ?_)
  obtain ⟨hP1, hK1, hD1⟩ := hB
  rw [ht] at hP1
  exact kk u H1 locs hw ⟨hP1, hD1.weaken (fun _ q9 _ h => hFc q9.1 h), hS⟩
theorem y_callv {f : (String × XS) ⊕ XS} {α0 : Type} {f0 : (String × XS) ⊕ α0} {Qc0 : Array Value → State → Outcome → State → Prop} {y : MethodName} {bytes : ByteArray} {maxL nL n : Nat} {ret : Option FieldType} {ws : List Cond} {rm : Room} {As : List Value} (X : xX p s m args c cc Ts dC dI kc own A) (hml : c.maxLocals = nL) (G : xH dC dI kc ad σ A s.heap H locs) (hA : ∀ q : Nat, s.heap.size ≤ q → A q) (hEx : ∀ x ∈ c.exceptionTable.toList, False) (hlocks : meth.locks = false) {C : String} {T9 : u_T} {N9 ci n0 : Nat} {fs : List Value} (hrv : (xW kc ad σ)[n0]? = some (ad n0, .inr (ci, fs))) (hcl : vwCl[ci]? = some (C, T9, N9)) (hM : xq_Met l y ws rm (va_Pc (.ref (ad n0) :: As) (xPre dC dI kc ad H.size σ)) (va_Qv (fun u => f = .inr u) (xAt dC dI kc ad (xA kc ad σ H.size)) (xA kc ad σ H.size)) (xE f dC dI kc ad (xA kc ad σ H.size)) 0 0 1 6 (xA kc ad σ H.size)) (cw : CallW R s args own C index y bytes maxL ret ws rm 1 6 n) (hn : As.length = n) (hsize : ls.size = nL) (hst : st0 = As.reverse ++ .ref (ad n0) :: rest) (hW : (rest.map fun v => v.category).sum ≤ 8) (hdg : decode cc pc = .ok (.invokevirtual index, 3)) (hf : 1 ≤ R.cells ∧ 6 ≤ R.slots) (kx : ∀ (E : String) (u : XS), f = .inl (E, u) → f0 = .inl (E, u)) (kk : ∀ (u : XS) (H1 : Heap) (locs1 : List Loc), f = .inr u → xH dC dI kc ad u A s.heap H1 locs1 → W p l e R s m args below meth c H1 locs1 0 0 (xq_MQ below Qc0 (xE f0 dC dI kc ad A) args s 0 0 1 6 A) (F0 m (pc + 3) ls (rest))) : W p l e R s m args below meth c H locs 0 0 (xq_MQ below Qc0 (xE f0 dC dI kc ad A) args s 0 0 1 6 A) (F0 m pc ls st0) := by
  obtain ⟨hx, hb, hts, hown, hK, hz⟩ := X
  obtain ⟨hP, hD, hS⟩ := G
  have hFc : ∀ q, xA kc ad σ H.size q → A q := fun q h => h.elim (fun ⟨k, e9, hk⟩ => hD.2 k (q, e9) hk) (fun h => hA q (Nat.le_trans hS.1 h))
  refine xq_callv (mc := 0) (ms := 0) (mx := 1) (sx := 6) (xq_runV (As := As) (rest := rest) ⟨hx, hb, hml, hown, hts⟩ hM cw ⟨fun a U g mk q => by obtain ⟨q0, q1, qP, qK, qD, qz⟩ := q; exact ⟨q0, q1, qP, va_K.moved (u := U) (U := U.calling g mk a) (Vm.Alike.refl U.vm) qK, qD, qz.blind⟩, va_recv hK hP (ci := ci) (q0 := n0) hcl hrv, fun U hU hW => ⟨rfl, by rw [hU], by rw [hU]; exact hP, va_K.moved hW.alike hK, hD.weaken (fun _ _ _ _ => trivial), zX.at hz hS hU hW hFc⟩⟩ rfl hn hsize hst (lv_room hW) hdg ⟨by rw [Nat.zero_add]; exact hf.1, by rw [Nat.zero_add]; exact hf.2⟩) hS (fun q _ h => hFc q h) hFc (fun q _ h => hFc q h) (fun E ce q9 u t H1 locs1 ht hvm hpx hw hz1 hk1 hS hce hcv hcl => ?_) (fun u t H1 locs ht hvm hw hB hz1 hk1 hS => ?_)
  · obtain ⟨hw, hP1, hK1, hD1⟩ := hw
    rw [ht] at hP1
    exact xq_thrW (vx_out (fun x hx => (hEx x hx).elim) hlocks hce hcv hcl (fun t ht ha => ⟨u, trivial, ⟨kx E u hw, by rw [ht]; exact hP1, va_K.moved ha hK, hD1.weaken (fun _ q9 _ h => hFc q9.1 h)⟩, hS.F ht⟩) hS.2.2 (by omega) (by omega))
  · obtain ⟨hP1, hK1, hD1⟩ := hB
    rw [ht] at hP1
    exact kk u H1 locs hw ⟨hP1, hD1.weaken (fun _ q9 _ h => hFc q9.1 h), hS⟩
theorem x_callSv {y : MethodName} {bytes : ByteArray} {maxL nL n : Nat} {ret : Option FieldType} {ws : List Cond} {rm : Room} {As : List Value} {post : XS → Prop} (X : xX p s m args c cc Ts dC dI kc own A) (hml : c.maxLocals = nL) (G : xH dC dI kc ad σ A s.heap H locs) (hA : ∀ q : Nat, s.heap.size ≤ q → A q) (hM : Met l y ws rm (va_Pc (As) (xPre dC dI kc ad H.size σ)) (va_Qv post (xAt dC dI kc ad (xA kc ad σ H.size)) (xA kc ad σ H.size)) 0 0 (xA kc ad σ H.size)) (cw : CallB R s args own index y bytes maxL ret ws rm 0 0 n ∧ (Cond.static y).before args s = true) (hn : As.length = n) (hsize : ls.size = nL) (hst : st0 = As.reverse ++ rest) (hW : (rest.map fun v => v.category).sum ≤ 8) (hdg : decode cc pc = .ok (.invokestatic index, 3)) (hf : cells ≤ R.cells ∧ slots ≤ R.slots) (kk : ∀ (u : XS) (H1 : Heap) (locs1 : List Loc), post u → xH dC dI kc ad u A s.heap H1 locs1 → W p l e R s m args below meth c H1 locs1 cells slots Q (F0 m (pc + 3) ls (rest))) : W p l e R s m args below meth c H locs cells slots Q (F0 m pc ls st0) := by
  obtain ⟨hx, hb, hts, hown, hK, hz⟩ := X
  obtain ⟨hP, hD, hS⟩ := G
  have hFc : ∀ q, xA kc ad σ H.size q → A q := fun q h => h.elim (fun ⟨k, e9, hk⟩ => hD.2 k (q, e9) hk) (fun h => hA q (Nat.le_trans hS.1 h))
  refine va_callv (va_runS (As := As) (rest := rest) ⟨hx, hb, hml, hown, hts⟩ hM cw ⟨fun a U g mk q => by obtain ⟨q0, q1, qP, qK, qD, qz⟩ := q; exact ⟨q0, q1, qP, va_K.moved (u := U) (U := U.calling g mk a) (Vm.Alike.refl U.vm) qK, qD, qz.blind⟩, fun U hU hW => ⟨rfl, by rw [hU], by rw [hU]; exact hP, va_K.moved hW.alike hK, hD.weaken (fun _ _ _ _ => trivial), zX.at hz hS hU hW hFc⟩⟩ rfl hn hsize hst (lv_room hW) hdg hf) hS (fun q _ h => hFc q h) hFc (fun u t H1 locs ht hvm hw hB hz1 hk1 hS => ?_)
  obtain ⟨hP1, hK1, hD1⟩ := hB
  rw [ht] at hP1
  exact kk u H1 locs hw ⟨hP1, hD1.weaken (fun _ q9 _ h => hFc q9.1 h), hS⟩
theorem y_callSv {f : (String × XS) ⊕ XS} {α0 : Type} {f0 : (String × XS) ⊕ α0} {Qc0 : Array Value → State → Outcome → State → Prop} {y : MethodName} {bytes : ByteArray} {maxL nL n : Nat} {ret : Option FieldType} {ws : List Cond} {rm : Room} {As : List Value} (X : xX p s m args c cc Ts dC dI kc own A) (hml : c.maxLocals = nL) (G : xH dC dI kc ad σ A s.heap H locs) (hA : ∀ q : Nat, s.heap.size ≤ q → A q) (hEx : ∀ x ∈ c.exceptionTable.toList, False) (hlocks : meth.locks = false) (hM : xq_Met l y ws rm (va_Pc (As) (xPre dC dI kc ad H.size σ)) (va_Qv (fun u => f = .inr u) (xAt dC dI kc ad (xA kc ad σ H.size)) (xA kc ad σ H.size)) (xE f dC dI kc ad (xA kc ad σ H.size)) 0 0 1 6 (xA kc ad σ H.size)) (cw : CallB R s args own index y bytes maxL ret ws rm 1 6 n ∧ (Cond.static y).before args s = true) (hn : As.length = n) (hsize : ls.size = nL) (hst : st0 = As.reverse ++ rest) (hW : (rest.map fun v => v.category).sum ≤ 8) (hdg : decode cc pc = .ok (.invokestatic index, 3)) (hf : 1 ≤ R.cells ∧ 6 ≤ R.slots) (kx : ∀ (E : String) (u : XS), f = .inl (E, u) → f0 = .inl (E, u)) (kk : ∀ (u : XS) (H1 : Heap) (locs1 : List Loc), f = .inr u → xH dC dI kc ad u A s.heap H1 locs1 → W p l e R s m args below meth c H1 locs1 0 0 (xq_MQ below Qc0 (xE f0 dC dI kc ad A) args s 0 0 1 6 A) (F0 m (pc + 3) ls (rest))) : W p l e R s m args below meth c H locs 0 0 (xq_MQ below Qc0 (xE f0 dC dI kc ad A) args s 0 0 1 6 A) (F0 m pc ls st0) := by
  obtain ⟨hx, hb, hts, hown, hK, hz⟩ := X
  obtain ⟨hP, hD, hS⟩ := G
  have hFc : ∀ q, xA kc ad σ H.size q → A q := fun q h => h.elim (fun ⟨k, e9, hk⟩ => hD.2 k (q, e9) hk) (fun h => hA q (Nat.le_trans hS.1 h))
  refine xq_callv (mc := 0) (ms := 0) (mx := 1) (sx := 6) (xq_runS (As := As) (rest := rest) ⟨hx, hb, hml, hown, hts⟩ hM cw ⟨fun a U g mk q => by obtain ⟨q0, q1, qP, qK, qD, qz⟩ := q; exact ⟨q0, q1, qP, va_K.moved (u := U) (U := U.calling g mk a) (Vm.Alike.refl U.vm) qK, qD, qz.blind⟩, fun U hU hW => ⟨rfl, by rw [hU], by rw [hU]; exact hP, va_K.moved hW.alike hK, hD.weaken (fun _ _ _ _ => trivial), zX.at hz hS hU hW hFc⟩⟩ rfl hn hsize hst (lv_room hW) hdg ⟨by rw [Nat.zero_add]; exact hf.1, by rw [Nat.zero_add]; exact hf.2⟩) hS (fun q _ h => hFc q h) hFc (fun q _ h => hFc q h) (fun E ce q9 u t H1 locs1 ht hvm hpx hw hz1 hk1 hS hce hcv hcl => ?_) (fun u t H1 locs ht hvm hw hB hz1 hk1 hS => ?_)
  · obtain ⟨hw, hP1, hK1, hD1⟩ := hw
    rw [ht] at hP1
    exact xq_thrW (vx_out (fun x hx => (hEx x hx).elim) hlocks hce hcv hcl (fun t ht ha => ⟨u, trivial, ⟨kx E u hw, by rw [ht]; exact hP1, va_K.moved ha hK, hD1.weaken (fun _ q9 _ h => hFc q9.1 h)⟩, hS.F ht⟩) hS.2.2 (by omega) (by omega))
  · obtain ⟨hP1, hK1, hD1⟩ := hB
    rw [ht] at hP1
    exact kk u H1 locs hw ⟨hP1, hD1.weaken (fun _ q9 _ h => hFc q9.1 h), hS⟩
theorem x_callq {y : MethodName} {bytes : ByteArray} {maxL nL n : Nat} {ret : Option FieldType} {ws : List Cond} {rm : Room} {As : List Value} {post : Option Nat → XS → Prop} (X : xX p s m args c cc Ts dC dI kc own A) (hml : c.maxLocals = nL) (G : xH dC dI kc ad σ A s.heap H locs) (hA : ∀ q : Nat, s.heap.size ≤ q → A q) {C : String} {T9 : u_T} {N9 ci n0 : Nat} {fs : List Value} (hrv : (xW kc ad σ)[n0]? = some (ad n0, .inr (ci, fs))) (hcl : vwCl[ci]? = some (C, T9, N9)) (hM : Met l y ws rm (va_Pc (.ref (ad n0) :: As) (xPre dC dI kc ad H.size σ)) (va_Qq post (xAt dC dI kc ad (xA kc ad σ H.size)) (xA kc ad σ H.size)) 0 0 (xA kc ad σ H.size)) (cw : CallW R s args own C index y bytes maxL ret ws rm 0 0 n) (hn : As.length = n) (hsize : ls.size = nL) (hst : st0 = As.reverse ++ .ref (ad n0) :: rest) (hW : (rest.map fun v => v.category).sum ≤ 8) (hdg : decode cc pc = .ok (.invokevirtual index, 3)) (hf : cells ≤ R.cells ∧ slots ≤ R.slots) (kk : ∀ (r : Option Nat) (u : XS) (H1 : Heap) (locs1 : List Loc), post r u → xH dC dI kc ad u A s.heap H1 locs1 → W p l e R s m args below meth c H1 locs1 cells slots Q (F0 m (pc + 3) ls (va_rf r :: rest))) : W p l e R s m args below meth c H locs cells slots Q (F0 m pc ls st0) := by
  obtain ⟨hx, hb, hts, hown, hK, hz⟩ := X
  obtain ⟨hP, hD, hS⟩ := G
  have hFc : ∀ q, xA kc ad σ H.size q → A q := fun q h => h.elim (fun ⟨k, e9, hk⟩ => hD.2 k (q, e9) hk) (fun h => hA q (Nat.le_trans hS.1 h))
  refine va_callq (va_runV (As := As) (rest := rest) ⟨hx, hb, hml, hown, hts⟩ hM cw ⟨fun a U g mk q => by obtain ⟨q0, q1, qP, qK, qD, qz⟩ := q; exact ⟨q0, q1, qP, va_K.moved (u := U) (U := U.calling g mk a) (Vm.Alike.refl U.vm) qK, qD, qz.blind⟩, va_recv hK hP (ci := ci) (q0 := n0) hcl hrv, fun U hU hW => ⟨rfl, by rw [hU], by rw [hU]; exact hP, va_K.moved hW.alike hK, hD.weaken (fun _ _ _ _ => trivial), zX.at hz hS hU hW hFc⟩⟩ rfl hn hsize hst (lv_room hW) hdg hf) hS (fun q _ h => hFc q h) hFc (fun r u t H1 locs ht hvm hw hB hz1 hk1 hS => ?_)
  obtain ⟨hP1, hK1, hD1⟩ := hB
  rw [ht] at hP1
  exact kk r u H1 locs hw ⟨hP1, hD1.weaken (fun _ q9 _ h => hFc q9.1 h), hS⟩
theorem y_callq {f : (String × XS) ⊕ (Option Nat × XS)} {α0 : Type} {f0 : (String × XS) ⊕ α0} {Qc0 : Array Value → State → Outcome → State → Prop} {y : MethodName} {bytes : ByteArray} {maxL nL n : Nat} {ret : Option FieldType} {ws : List Cond} {rm : Room} {As : List Value} (X : xX p s m args c cc Ts dC dI kc own A) (hml : c.maxLocals = nL) (G : xH dC dI kc ad σ A s.heap H locs) (hA : ∀ q : Nat, s.heap.size ≤ q → A q) (hEx : ∀ x ∈ c.exceptionTable.toList, False) (hlocks : meth.locks = false) {C : String} {T9 : u_T} {N9 ci n0 : Nat} {fs : List Value} (hrv : (xW kc ad σ)[n0]? = some (ad n0, .inr (ci, fs))) (hcl : vwCl[ci]? = some (C, T9, N9)) (hM : xq_Met l y ws rm (va_Pc (.ref (ad n0) :: As) (xPre dC dI kc ad H.size σ)) (va_Qq (fun r u => ∃ o : Option Nat, r = o.map ad ∧ f = .inr (o, u)) (xAt dC dI kc ad (xA kc ad σ H.size)) (xA kc ad σ H.size)) (xE f dC dI kc ad (xA kc ad σ H.size)) 0 0 1 6 (xA kc ad σ H.size)) (cw : CallW R s args own C index y bytes maxL ret ws rm 1 6 n) (hn : As.length = n) (hsize : ls.size = nL) (hst : st0 = As.reverse ++ .ref (ad n0) :: rest) (hW : (rest.map fun v => v.category).sum ≤ 8) (hdg : decode cc pc = .ok (.invokevirtual index, 3)) (hf : 1 ≤ R.cells ∧ 6 ≤ R.slots) (kx : ∀ (E : String) (u : XS), f = .inl (E, u) → f0 = .inl (E, u)) (kk : ∀ (r : Option Nat) (u : XS) (H1 : Heap) (locs1 : List Loc), f = .inr (r, u) → xH dC dI kc ad u A s.heap H1 locs1 → W p l e R s m args below meth c H1 locs1 0 0 (xq_MQ below Qc0 (xE f0 dC dI kc ad A) args s 0 0 1 6 A) (F0 m (pc + 3) ls (va_rf (r.map ad) :: rest))) : W p l e R s m args below meth c H locs 0 0 (xq_MQ below Qc0 (xE f0 dC dI kc ad A) args s 0 0 1 6 A) (F0 m pc ls st0) := by
  obtain ⟨hx, hb, hts, hown, hK, hz⟩ := X
  obtain ⟨hP, hD, hS⟩ := G
  have hFc : ∀ q, xA kc ad σ H.size q → A q := fun q h => h.elim (fun ⟨k, e9, hk⟩ => hD.2 k (q, e9) hk) (fun h => hA q (Nat.le_trans hS.1 h))
  refine xq_callq (mc := 0) (ms := 0) (mx := 1) (sx := 6) (xq_runV (As := As) (rest := rest) ⟨hx, hb, hml, hown, hts⟩ hM cw ⟨fun a U g mk q => by obtain ⟨q0, q1, qP, qK, qD, qz⟩ := q; exact ⟨q0, q1, qP, va_K.moved (u := U) (U := U.calling g mk a) (Vm.Alike.refl U.vm) qK, qD, qz.blind⟩, va_recv hK hP (ci := ci) (q0 := n0) hcl hrv, fun U hU hW => ⟨rfl, by rw [hU], by rw [hU]; exact hP, va_K.moved hW.alike hK, hD.weaken (fun _ _ _ _ => trivial), zX.at hz hS hU hW hFc⟩⟩ rfl hn hsize hst (lv_room hW) hdg ⟨by rw [Nat.zero_add]; exact hf.1, by rw [Nat.zero_add]; exact hf.2⟩) hS (fun q _ h => hFc q h) hFc (fun q _ h => hFc q h) (fun E ce q9 u t H1 locs1 ht hvm hpx hw hz1 hk1 hS hce hcv hcl => ?_) (fun r u t H1 locs ht hvm hw hB hz1 hk1 hS => ?_)
  · obtain ⟨hw, hP1, hK1, hD1⟩ := hw
    rw [ht] at hP1
    exact xq_thrW (vx_out (fun x hx => (hEx x hx).elim) hlocks hce hcv hcl (fun t ht ha => ⟨u, trivial, ⟨kx E u hw, by rw [ht]; exact hP1, va_K.moved ha hK, hD1.weaken (fun _ q9 _ h => hFc q9.1 h)⟩, hS.F ht⟩) hS.2.2 (by omega) (by omega))
  · obtain ⟨hP1, hK1, hD1⟩ := hB
    rw [ht] at hP1
    obtain ⟨r, rfl, hw⟩ := hw
    exact kk r u H1 locs hw ⟨hP1, hD1.weaken (fun _ q9 _ h => hFc q9.1 h), hS⟩
theorem x_callSq {y : MethodName} {bytes : ByteArray} {maxL nL n : Nat} {ret : Option FieldType} {ws : List Cond} {rm : Room} {As : List Value} {post : Option Nat → XS → Prop} (X : xX p s m args c cc Ts dC dI kc own A) (hml : c.maxLocals = nL) (G : xH dC dI kc ad σ A s.heap H locs) (hA : ∀ q : Nat, s.heap.size ≤ q → A q) (hM : Met l y ws rm (va_Pc (As) (xPre dC dI kc ad H.size σ)) (va_Qq post (xAt dC dI kc ad (xA kc ad σ H.size)) (xA kc ad σ H.size)) 0 0 (xA kc ad σ H.size)) (cw : CallB R s args own index y bytes maxL ret ws rm 0 0 n ∧ (Cond.static y).before args s = true) (hn : As.length = n) (hsize : ls.size = nL) (hst : st0 = As.reverse ++ rest) (hW : (rest.map fun v => v.category).sum ≤ 8) (hdg : decode cc pc = .ok (.invokestatic index, 3)) (hf : cells ≤ R.cells ∧ slots ≤ R.slots) (kk : ∀ (r : Option Nat) (u : XS) (H1 : Heap) (locs1 : List Loc), post r u → xH dC dI kc ad u A s.heap H1 locs1 → W p l e R s m args below meth c H1 locs1 cells slots Q (F0 m (pc + 3) ls (va_rf r :: rest))) : W p l e R s m args below meth c H locs cells slots Q (F0 m pc ls st0) := by
  obtain ⟨hx, hb, hts, hown, hK, hz⟩ := X
  obtain ⟨hP, hD, hS⟩ := G
  have hFc : ∀ q, xA kc ad σ H.size q → A q := fun q h => h.elim (fun ⟨k, e9, hk⟩ => hD.2 k (q, e9) hk) (fun h => hA q (Nat.le_trans hS.1 h))
  refine va_callq (va_runS (As := As) (rest := rest) ⟨hx, hb, hml, hown, hts⟩ hM cw ⟨fun a U g mk q => by obtain ⟨q0, q1, qP, qK, qD, qz⟩ := q; exact ⟨q0, q1, qP, va_K.moved (u := U) (U := U.calling g mk a) (Vm.Alike.refl U.vm) qK, qD, qz.blind⟩, fun U hU hW => ⟨rfl, by rw [hU], by rw [hU]; exact hP, va_K.moved hW.alike hK, hD.weaken (fun _ _ _ _ => trivial), zX.at hz hS hU hW hFc⟩⟩ rfl hn hsize hst (lv_room hW) hdg hf) hS (fun q _ h => hFc q h) hFc (fun r u t H1 locs ht hvm hw hB hz1 hk1 hS => ?_)
  obtain ⟨hP1, hK1, hD1⟩ := hB
  rw [ht] at hP1
  exact kk r u H1 locs hw ⟨hP1, hD1.weaken (fun _ q9 _ h => hFc q9.1 h), hS⟩
theorem y_callSq {f : (String × XS) ⊕ (Option Nat × XS)} {α0 : Type} {f0 : (String × XS) ⊕ α0} {Qc0 : Array Value → State → Outcome → State → Prop} {y : MethodName} {bytes : ByteArray} {maxL nL n : Nat} {ret : Option FieldType} {ws : List Cond} {rm : Room} {As : List Value} (X : xX p s m args c cc Ts dC dI kc own A) (hml : c.maxLocals = nL) (G : xH dC dI kc ad σ A s.heap H locs) (hA : ∀ q : Nat, s.heap.size ≤ q → A q) (hEx : ∀ x ∈ c.exceptionTable.toList, False) (hlocks : meth.locks = false) (hM : xq_Met l y ws rm (va_Pc (As) (xPre dC dI kc ad H.size σ)) (va_Qq (fun r u => ∃ o : Option Nat, r = o.map ad ∧ f = .inr (o, u)) (xAt dC dI kc ad (xA kc ad σ H.size)) (xA kc ad σ H.size)) (xE f dC dI kc ad (xA kc ad σ H.size)) 0 0 1 6 (xA kc ad σ H.size)) (cw : CallB R s args own index y bytes maxL ret ws rm 1 6 n ∧ (Cond.static y).before args s = true) (hn : As.length = n) (hsize : ls.size = nL) (hst : st0 = As.reverse ++ rest) (hW : (rest.map fun v => v.category).sum ≤ 8) (hdg : decode cc pc = .ok (.invokestatic index, 3)) (hf : 1 ≤ R.cells ∧ 6 ≤ R.slots) (kx : ∀ (E : String) (u : XS), f = .inl (E, u) → f0 = .inl (E, u)) (kk : ∀ (r : Option Nat) (u : XS) (H1 : Heap) (locs1 : List Loc), f = .inr (r, u) → xH dC dI kc ad u A s.heap H1 locs1 → W p l e R s m args below meth c H1 locs1 0 0 (xq_MQ below Qc0 (xE f0 dC dI kc ad A) args s 0 0 1 6 A) (F0 m (pc + 3) ls (va_rf (r.map ad) :: rest))) : W p l e R s m args below meth c H locs 0 0 (xq_MQ below Qc0 (xE f0 dC dI kc ad A) args s 0 0 1 6 A) (F0 m pc ls st0) := by
  obtain ⟨hx, hb, hts, hown, hK, hz⟩ := X
  obtain ⟨hP, hD, hS⟩ := G
  have hFc : ∀ q, xA kc ad σ H.size q → A q := fun q h => h.elim (fun ⟨k, e9, hk⟩ => hD.2 k (q, e9) hk) (fun h => hA q (Nat.le_trans hS.1 h))
  refine xq_callq (mc := 0) (ms := 0) (mx := 1) (sx := 6) (xq_runS (As := As) (rest := rest) ⟨hx, hb, hml, hown, hts⟩ hM cw ⟨fun a U g mk q => by obtain ⟨q0, q1, qP, qK, qD, qz⟩ := q; exact ⟨q0, q1, qP, va_K.moved (u := U) (U := U.calling g mk a) (Vm.Alike.refl U.vm) qK, qD, qz.blind⟩, fun U hU hW => ⟨rfl, by rw [hU], by rw [hU]; exact hP, va_K.moved hW.alike hK, hD.weaken (fun _ _ _ _ => trivial), zX.at hz hS hU hW hFc⟩⟩ rfl hn hsize hst (lv_room hW) hdg ⟨by rw [Nat.zero_add]; exact hf.1, by rw [Nat.zero_add]; exact hf.2⟩) hS (fun q _ h => hFc q h) hFc (fun q _ h => hFc q h) (fun E ce q9 u t H1 locs1 ht hvm hpx hw hz1 hk1 hS hce hcv hcl => ?_) (fun r u t H1 locs ht hvm hw hB hz1 hk1 hS => ?_)
  · obtain ⟨hw, hP1, hK1, hD1⟩ := hw
    rw [ht] at hP1
    exact xq_thrW (vx_out (fun x hx => (hEx x hx).elim) hlocks hce hcv hcl (fun t ht ha => ⟨u, trivial, ⟨kx E u hw, by rw [ht]; exact hP1, va_K.moved ha hK, hD1.weaken (fun _ q9 _ h => hFc q9.1 h)⟩, hS.F ht⟩) hS.2.2 (by omega) (by omega))
  · obtain ⟨hP1, hK1, hD1⟩ := hB
    rw [ht] at hP1
    obtain ⟨r, rfl, hw⟩ := hw
    exact kk r u H1 locs hw ⟨hP1, hD1.weaken (fun _ q9 _ h => hFc q9.1 h), hS⟩
theorem y_callDi {f : String ⊕ Int32} {α0 : Type} {f0 : (String × XS) ⊕ α0} {Qc0 : Array Value → State → Outcome → State → Prop} {y : MethodName} {bytes : ByteArray} {maxL nL n : Nat} {ret : Option FieldType} {ws : List Cond} {rm : Room} {As : List Value} (X : xX p s m args c cc Ts dC dI kc own A) (hml : c.maxLocals = nL) (G : xH dC dI kc ad σ A s.heap H locs) (hA : ∀ q : Nat, s.heap.size ≤ q → A q) (hEx : ∀ x ∈ c.exceptionTable.toList, False) (hlocks : meth.locks = false) (hM : xq_Met l y ws rm (va_Pc As (dPre H.size)) (va_Qi (fun r (_ : Unit) => f = .inr r) (fun _ _ => True) (fun _ => False)) (dX f H.size) 0 0 1 6 (fun q => H.size ≤ q)) (cw : CallB R s args own index y bytes maxL ret ws rm 1 6 n ∧ (Cond.static y).before args s = true) (hn : As.length = n) (hsize : ls.size = nL) (hst : st0 = As.reverse ++ rest) (hW : (rest.map fun v => v.category).sum ≤ 8) (hdg : decode cc pc = .ok (.invokestatic index, 3)) (hf : 1 ≤ R.cells ∧ 6 ≤ R.slots) (kx : ∀ E : String, f = .inl E → f0 = .inl (E, σ)) (kk : ∀ (r : Int32) (H1 : Heap) (locs1 : List Loc), f = .inr r → xH dC dI kc ad σ A s.heap H1 locs1 → W p l e R s m args below meth c H1 locs1 0 0 (xq_MQ below Qc0 (xE f0 dC dI kc ad A) args s 0 0 1 6 A) (F0 m (pc + 3) ls (.int r :: rest))) : W p l e R s m args below meth c H locs 0 0 (xq_MQ below Qc0 (xE f0 dC dI kc ad A) args s 0 0 1 6 A) (F0 m pc ls st0) := by
  obtain ⟨hx, hb, hts, hown, hK, hz⟩ := X
  obtain ⟨hP, hD, hS⟩ := G
  have hFc : ∀ q, H.size ≤ q → A q := fun q h => hA q (Nat.le_trans hS.1 h)
  refine xq_calli (A0 := A) (A1 := fun _ => False) (free := fun q => H.size ≤ q) (AX := fun q => H.size ≤ q) (SX := Unit) (px := fun _ => True) (BX := fun E _ _ => f = .inl E) (S := Unit) (B := fun _ _ => True) (mx := 1) (sx := 6) (mc := 0) (ms := 0) (rest := rest) (xq_runS (As := As) ⟨hx, hb, hml, hown, hts⟩ hM cw ⟨fun a U g mk q => ⟨q.1, q.2.1, q.2.2.blind⟩, fun U hU hW => ⟨rfl, by rw [hU], zX.at hz hS hU hW hFc⟩⟩ rfl hn hsize hst (lv_room hW) hdg ⟨by rw [Nat.zero_add]; exact hf.1, by rw [Nat.zero_add]; exact hf.2⟩) hS (fun q _ h => h.elim) hFc (fun q h1 h2 => absurd h2 (Nat.not_le.mpr h1)) (fun E ce q9 u t H1 locs1 ht hvm hpx hw hz1 hk1 hS hce hcv hcl => ?_) (fun r u t H1 locs1 ht hvm hw hB hz1 hk1 hS => kk r H1 locs1 hw ⟨hP.kept (fun k q hq => hk1 _ (hP k q hq).lt (fun h => h)), hD, hS⟩)
  have hP1 : va_P (dC, dI) vwCl (xW kc ad σ) H1 := hP.kept (fun k q hq => hk1 _ (hP k q hq).lt (Nat.not_le.mpr (hP k q hq).lt))
  exact xq_thrW (vx_out (fun x hx => (hEx x hx).elim) hlocks hce hcv hcl (fun t ht ha => ⟨σ, trivial, ⟨kx E hw, by rw [ht]; exact hP1, va_K.moved ha hK, hD⟩, hS.F ht⟩) hS.2.2 (by omega) (by omega))
theorem y_callDl {f : String ⊕ Int64} {α0 : Type} {f0 : (String × XS) ⊕ α0} {Qc0 : Array Value → State → Outcome → State → Prop} {y : MethodName} {bytes : ByteArray} {maxL nL n : Nat} {ret : Option FieldType} {ws : List Cond} {rm : Room} {As : List Value} (X : xX p s m args c cc Ts dC dI kc own A) (hml : c.maxLocals = nL) (G : xH dC dI kc ad σ A s.heap H locs) (hA : ∀ q : Nat, s.heap.size ≤ q → A q) (hEx : ∀ x ∈ c.exceptionTable.toList, False) (hlocks : meth.locks = false) (hM : xq_Met l y ws rm (va_Pc As (dPre H.size)) (va_Ql (fun r (_ : Unit) => f = .inr r) (fun _ _ => True) (fun _ => False)) (dX f H.size) 0 0 1 6 (fun q => H.size ≤ q)) (cw : CallB R s args own index y bytes maxL ret ws rm 1 6 n ∧ (Cond.static y).before args s = true) (hn : As.length = n) (hsize : ls.size = nL) (hst : st0 = As.reverse ++ rest) (hW : (rest.map fun v => v.category).sum ≤ 8) (hdg : decode cc pc = .ok (.invokestatic index, 3)) (hf : 1 ≤ R.cells ∧ 6 ≤ R.slots) (kx : ∀ E : String, f = .inl E → f0 = .inl (E, σ)) (kk : ∀ (r : Int64) (H1 : Heap) (locs1 : List Loc), f = .inr r → xH dC dI kc ad σ A s.heap H1 locs1 → W p l e R s m args below meth c H1 locs1 0 0 (xq_MQ below Qc0 (xE f0 dC dI kc ad A) args s 0 0 1 6 A) (F0 m (pc + 3) ls (.long r :: rest))) : W p l e R s m args below meth c H locs 0 0 (xq_MQ below Qc0 (xE f0 dC dI kc ad A) args s 0 0 1 6 A) (F0 m pc ls st0) := by
  obtain ⟨hx, hb, hts, hown, hK, hz⟩ := X
  obtain ⟨hP, hD, hS⟩ := G
  have hFc : ∀ q, H.size ≤ q → A q := fun q h => hA q (Nat.le_trans hS.1 h)
  refine xq_calll (A0 := A) (A1 := fun _ => False) (free := fun q => H.size ≤ q) (AX := fun q => H.size ≤ q) (SX := Unit) (px := fun _ => True) (BX := fun E _ _ => f = .inl E) (S := Unit) (B := fun _ _ => True) (mx := 1) (sx := 6) (mc := 0) (ms := 0) (rest := rest) (xq_runS (As := As) ⟨hx, hb, hml, hown, hts⟩ hM cw ⟨fun a U g mk q => ⟨q.1, q.2.1, q.2.2.blind⟩, fun U hU hW => ⟨rfl, by rw [hU], zX.at hz hS hU hW hFc⟩⟩ rfl hn hsize hst (lv_room hW) hdg ⟨by rw [Nat.zero_add]; exact hf.1, by rw [Nat.zero_add]; exact hf.2⟩) hS (fun q _ h => h.elim) hFc (fun q h1 h2 => absurd h2 (Nat.not_le.mpr h1)) (fun E ce q9 u t H1 locs1 ht hvm hpx hw hz1 hk1 hS hce hcv hcl => ?_) (fun r u t H1 locs1 ht hvm hw hB hz1 hk1 hS => kk r H1 locs1 hw ⟨hP.kept (fun k q hq => hk1 _ (hP k q hq).lt (fun h => h)), hD, hS⟩)
  have hP1 : va_P (dC, dI) vwCl (xW kc ad σ) H1 := hP.kept (fun k q hq => hk1 _ (hP k q hq).lt (Nat.not_le.mpr (hP k q hq).lt))
  exact xq_thrW (vx_out (fun x hx => (hEx x hx).elim) hlocks hce hcv hcl (fun t ht ha => ⟨σ, trivial, ⟨kx E hw, by rw [ht]; exact hP1, va_K.moved ha hK, hD⟩, hS.F ht⟩) hS.2.2 (by omega) (by omega))
theorem y_kept (X : xX p s m args c cc Ts dC dI kc own B) (G : xH dC dI kc ad σ A s.heap H locs) {t : State} (ha : s.vm.Alike t.vm) (hsz : H.size ≤ t.heap.size) (hk : ∀ q : Nat, q < H.size → t.heap[q]? = H[q]?) : xAt dC dI kc ad A σ t ∧ va_F A s t :=
  ⟨⟨G.1.kept (fun k q hq => hk _ (G.1 k q hq).lt), va_K.moved ha X.2.2.2.2.1, G.2.1⟩, Nat.le_trans G.2.2.1 hsz, fun q h1 h2 => (hk q (Nat.lt_of_lt_of_le h1 G.2.2.1)).trans (G.2.2.2.1 q h1 h2)⟩
theorem x_ofW {y : MethodName} {ws ws' : List Cond} {rm : Room} {vs : List Value} {Qc : Array Value → State → Outcome → State → Prop} {mc ms maxL sz : Nat} {ret : Option FieldType} (hy : plainName y.cls = true) (hw : ws = Cond.code y cc maxL ret :: ws') (hcls : y.cls = own) (hvs : (lg_sl vs).length ≤ maxL)
    (body : ∀ (p : Program) (e : Env) (s : State) (m : MethodId) (below : List Frame) (meth : Method) (c : Code), xX p s m vs.toArray c cc ws dC dI kc own (xA kc ad σ sz) → xH dC dI kc ad σ (xA kc ad σ sz) s.heap s.heap [] → (∀ q : Nat, s.heap.size ≤ q → xA kc ad σ sz q) → meth.sig.returnType = ret → meth.locks = false → c.maxLocals = maxL → ∀ ls : Array Slot, lv_has ls maxL (lv_args 0 vs) → W p l e rm s m vs.toArray below meth c s.heap [] 0 0 (MQ below Qc vs.toArray s mc ms (xA kc ad σ sz)) (F0 m 0 ls [])) :
    Met l y ws rm (va_Pc vs (xPre dC dI kc ad sz σ)) Qc mc ms (xA kc ad σ sz) := by
  refine Met.ofW (cc := cc) (maxL := maxL) (ret := ret) hy hw ?_
  intro p e s m args below meth c s₁ B hml hv
  obtain ⟨rfl, hsz, hP, hK, hD0, hz⟩ := hv
  subst hsz
  have hown : s.vm.findClass y.cls = some m.cls := findClass_of_methodNamed B.named
  rw [hcls] at hown
  rw [lg_entry_eq]
  exact body p e s m below meth c ⟨B.exec, B.bytes, atoms_spec (ws := ws) B.pre, hown, hK, hz⟩ ⟨hP, hD0.self, va_S.rf⟩ (fun q h => Or.inr h) B.returns B.notSynchronized hml _ (lv_entry vs hvs)
theorem y_ofW {y : MethodName} {ws ws' : List Cond} {rm : Room} {vs : List Value} {Qc : Array Value → State → Outcome → State → Prop} {XC : String → State → State → Prop} {mx sx maxL sz : Nat} {ret : Option FieldType} (hy : plainName y.cls = true) (hw : ws = Cond.code y cc maxL ret :: ws') (hcls : y.cls = own) (hvs : (lg_sl vs).length ≤ maxL)
    (body : ∀ (p : Program) (e : Env) (s : State) (m : MethodId) (below : List Frame) (meth : Method) (c : Code), xX p s m vs.toArray c cc ws dC dI kc own (xA kc ad σ sz) → xH dC dI kc ad σ (xA kc ad σ sz) s.heap s.heap [] → (∀ q : Nat, s.heap.size ≤ q → xA kc ad σ sz q) → meth.sig.returnType = ret → meth.locks = false → c.maxLocals = maxL → (∀ x ∈ c.exceptionTable.toList, False) → ∀ ls : Array Slot, lv_has ls maxL (lv_args 0 vs) → W p l e rm s m vs.toArray below meth c s.heap [] 0 0 (xq_MQ below Qc XC vs.toArray s 0 0 mx sx (xA kc ad σ sz)) (F0 m 0 ls [])) :
    xq_Met l y ws rm (va_Pc vs (xPre dC dI kc ad sz σ)) Qc XC 0 0 mx sx (xA kc ad σ sz) := by
  refine xq_ofW (cc := cc) (maxL := maxL) (ret := ret) hy hw ?_
  intro p e s m args below meth c s₁ B hml hEx hv
  obtain ⟨rfl, hsz, hP, hK, hD0, hz⟩ := hv
  subst hsz
  have hown : s.vm.findClass y.cls = some m.cls := findClass_of_methodNamed B.named
  rw [hcls] at hown
  have hts := atoms_spec (ws := ws) B.pre
  rw [lg_entry_eq]
  exact body p e s m below meth c ⟨B.exec, B.bytes, hts, hown, hK, hz⟩ ⟨hP, hD0.self, va_S.rf⟩ (fun q h => Or.inr h) B.returns B.notSynchronized hml hEx _ (lv_entry vs hvs)
end XB1
end
section
theorem row_in {i : Int32} (h0 : ¬ i < 0) (h1 : i < 160) : vp_in i 160 := by
  rw [vp_in_iff]
  rw [Int32.lt_iff_toInt_lt] at h0 h1
  have z0 : (0 : Int32).toInt = 0 := rfl
  have z1 : (160 : Int32).toInt = 160 := rfl
  omega
def Xrow_charAt (σ : XS) (c0 : Nat) (i0 : Int32) : Int32 := if i0 < 0 then 0 else if (σ.1 c0) ≤ i0 then 0 else if i0 < 160 then ((σ.2.1 (c0 + 1) i0.toNatClampNeg)) else 0
set_option maxHeartbeats 4000000 in
set_option maxRecDepth 100000 in
theorem c_Xrow_charAt (l : Launch) (dC : Nat → ClassId) (dI : Nat → Nat → Nat) (kc : Nat → ClassId) (ad : Nat → Nat) (sz : Nat) (σ : XS) (c0 : Nat) (i0 : Int32) (h0 : xv σ c0) : Met l yX2_charAt wsX2_charAt ({ frames := 0, cells := 0, slots := 0, locals := 0 } : Room) (va_Pc [.ref (ad c0), .int i0] (xPre dC dI kc ad sz σ)) (va_Qi (fun r u => r = Xrow_charAt σ c0 i0 ∧ u = σ) (xAt dC dI kc ad (xA kc ad σ sz)) (xA kc ad σ sz)) 0 0 (xA kc ad σ sz) := by
  refine x_ofW (cc := cX2_charAt) (maxL := 2) (ret := (some .int)) (by decide) rfl rfl (Nat.le_of_ble_eq_true rfl) ?_
  intro p e s m below meth c X G hA hr hlocks hml ls hl
  have hl : lv_has ls 2 [(0, .ref (ad c0)), (1, .int i0)] := hl
  have hx := X.1
  have hb := X.2.1
  have hts := X.2.2.1
  have hown := X.2.2.2.1
  have hz := X.2.2.2.2.2
  have hin2 : ∀ w ∈ wsX20, w ∈ wsX2_charAt := (fun w hw => List.mem_cons_of_mem _ (List.mem_append_right _ hw))
  refine lv_iload_n hx hb dX2_charAt_0 rfl (lv_at hl 1 rfl) ?_
  refine lv_if_lt (tgt := 21) hx hb dX2_charAt_1 (by decide) (fun c_1 => ?_) (fun c_1 => ?_)
  · have c_1 : i0 < 0 := c_1
    refine lv_iconst (v := 0) hx hb dX2_charAt_21 (by decide) ?_
    refine lv_goto (tgt := 31) hx hb dX2_charAt_22 (by decide) ?_
    exact x_iret (v := 0) X G hr hlocks ⟨(by simp only [Xrow_charAt, eq_true c_1, ↓reduceIte]), rfl⟩ dX2_charAt_31
  · have c_1 : ¬ (i0 < 0) := c_1
    refine lv_iload_n hx hb dX2_charAt_4 rfl (lv_at hl 1 rfl) ?_
    refine lv_aload_n hx hb dX2_charAt_5 rfl (lv_at hl 0 rfl) ?_
    refine x_rget_1 X G hin2 h0 (by decide +kernel) dX2_charAt_6 ?_
    refine lv_icmp_ge (tgt := 21) hx hb dX2_charAt_9 (by decide) (fun c_9 => ?_) (fun c_9 => ?_)
    · have c_9 : (σ.1 c0) ≤ i0 := c_9
      refine lv_iconst (v := 0) hx hb dX2_charAt_21 (by decide) ?_
      refine lv_goto (tgt := 31) hx hb dX2_charAt_22 (by decide) ?_
      exact x_iret (v := 0) X G hr hlocks ⟨(by simp only [Xrow_charAt, eq_false c_1, eq_true c_9, ↓reduceIte]), rfl⟩ dX2_charAt_31
    · have c_9 : ¬ ((σ.1 c0) ≤ i0) := c_9
      refine lv_iload_n hx hb dX2_charAt_12 rfl (lv_at hl 1 rfl) ?_
      refine lv_aload_n hx hb dX2_charAt_13 rfl (lv_at hl 0 rfl) ?_
      refine x_rget_0 X G hin2 h0 (by decide +kernel) dX2_charAt_14 ?_
      refine x_alenB X G h0 dX2_charAt_17 ?_
      refine lv_icmp_lt (tgt := 25) hx hb dX2_charAt_18 (by decide) (fun c_18 => ?_) (fun c_18 => ?_)
      · have c_18 : i0 < 160 := c_18
        refine lv_aload_n hx hb dX2_charAt_25 rfl (lv_at hl 0 rfl) ?_
        refine x_rget_0 X G hin2 h0 (by decide +kernel) dX2_charAt_26 ?_
        refine lv_iload_n hx hb dX2_charAt_29 rfl (lv_at hl 1 rfl) ?_
        refine x_bld X G h0 (row_in c_1 c_18) dX2_charAt_30 ?_
        exact x_iret (v := (σ.2.1 (c0 + 1) i0.toNatClampNeg)) X G hr hlocks ⟨(by simp only [Xrow_charAt, eq_false c_1, eq_false c_9, eq_true c_18, ↓reduceIte]), rfl⟩ dX2_charAt_31
      · have c_18 : ¬ (i0 < 160) := c_18
        refine lv_iconst (v := 0) hx hb dX2_charAt_21 (by decide) ?_
        refine lv_goto (tgt := 31) hx hb dX2_charAt_22 (by decide) ?_
        exact x_iret (v := 0) X G hr hlocks ⟨(by simp only [Xrow_charAt, eq_false c_1, eq_false c_9, eq_false c_18, ↓reduceIte]), rfl⟩ dX2_charAt_31
def Xrow_append (σ : XS) (c0 : Nat) (i0 : Int32) : XS := if 160 ≤ (σ.1 c0) then σ else (xi (xa σ (c0 + 1) (σ.1 c0).toNatClampNeg (vp_nar .byte i0.toInt8.toInt32)) c0 (((xa σ (c0 + 1) (σ.1 c0).toNatClampNeg (vp_nar .byte i0.toInt8.toInt32)).1 c0) + 1))
set_option maxHeartbeats 4000000 in
set_option maxRecDepth 100000 in
theorem c_Xrow_append (l : Launch) (dC : Nat → ClassId) (dI : Nat → Nat → Nat) (kc : Nat → ClassId) (ad : Nat → Nat) (sz : Nat) (σ : XS) (c0 : Nat) (i0 : Int32) (h0 : xv σ c0) (hsz : ¬ σ.1 c0 < 0) : Met l yX2_append wsX2_append ({ frames := 0, cells := 0, slots := 0, locals := 0 } : Room) (va_Pc [.ref (ad c0), .int i0] (xPre dC dI kc ad sz σ)) (va_Qv (fun u => Xrow_append σ c0 i0 = u) (xAt dC dI kc ad (xA kc ad σ sz)) (xA kc ad σ sz)) 0 0 (xA kc ad σ sz) := by
  refine x_ofW (cc := cX2_append) (maxL := 2) (ret := none) (by decide) rfl rfl (Nat.le_of_ble_eq_true rfl) ?_
  intro p e s m below meth c X G hA hr hlocks hml ls hl
  have hl : lv_has ls 2 [(0, .ref (ad c0)), (1, .int i0)] := hl
  have hx := X.1
  have hb := X.2.1
  have hts := X.2.2.1
  have hown := X.2.2.2.1
  have hz := X.2.2.2.2.2
  have hin2 : ∀ w ∈ wsX20, w ∈ wsX2_append := (fun w hw => List.mem_cons_of_mem _ (List.mem_append_right _ hw))
  refine lv_aload_n hx hb dX2_append_0 rfl (lv_at hl 0 rfl) ?_
  refine x_rget_1 X G hin2 h0 (by decide +kernel) dX2_append_1 ?_
  refine lv_aload_n hx hb dX2_append_4 rfl (lv_at hl 0 rfl) ?_
  refine x_rget_0 X G hin2 h0 (by decide +kernel) dX2_append_5 ?_
  refine x_alenB X G h0 dX2_append_8 ?_
  refine lv_icmp_ge (tgt := 33) hx hb dX2_append_9 (by decide) (fun c_9 => ?_) (fun c_9 => ?_)
  · have c_9 : 160 ≤ (σ.1 c0) := c_9
    exact x_vret X G hr hlocks (by simp only [Xrow_append, eq_true c_9, ↓reduceIte]) dX2_append_33
  · have c_9 : ¬ (160 ≤ (σ.1 c0)) := c_9
    refine lv_aload_n hx hb dX2_append_12 rfl (lv_at hl 0 rfl) ?_
    refine x_rget_0 X G hin2 h0 (by decide +kernel) dX2_append_13 ?_
    refine lv_aload_n hx hb dX2_append_16 rfl (lv_at hl 0 rfl) ?_
    refine x_rget_1 X G hin2 h0 (by decide +kernel) dX2_append_17 ?_
    refine lv_iload_n hx hb dX2_append_20 rfl (lv_at hl 1 rfl) ?_
    refine lv_i2b hx hb dX2_append_21 rfl ?_
    refine x_bst X G h0 (row_in hsz (Int32.not_le.mp c_9)) dX2_append_22 (fun H locs G => ?_)
    have G : xH dC dI kc ad (xa σ (c0 + 1) (σ.1 c0).toNatClampNeg (vp_nar .byte i0.toInt8.toInt32)) _ s.heap H locs := G
    refine lv_aload_n hx hb dX2_append_23 rfl (lv_at hl 0 rfl) ?_
    refine lv_dup hx hb dX2_append_24 rfl ?_
    refine x_rget_1 X G hin2 h0 (by decide +kernel) dX2_append_25 ?_
    refine lv_iconst (v := 1) hx hb dX2_append_28 (by decide) ?_
    refine lv_iadd hx hb dX2_append_29 ?_
    refine x_rput_1 X G hin2 h0 (by decide +kernel) dX2_append_30 (fun H locs G => ?_)
    have G : xH dC dI kc ad (xi (xa σ (c0 + 1) (σ.1 c0).toNatClampNeg (vp_nar .byte i0.toInt8.toInt32)) c0 (((xa σ (c0 + 1) (σ.1 c0).toNatClampNeg (vp_nar .byte i0.toInt8.toInt32)).1 c0) + 1)) _ s.heap H locs := G
    exact x_vret X G hr hlocks (by simp only [Xrow_append, eq_false c_9, ↓reduceIte]) dX2_append_33
def Xsh_isFull (σ : XS) (c0 : Nat) : Int32 := if (σ.1 c0) < (Int32.ofNat (xlen c0)) then 0 else 1
set_option maxHeartbeats 4000000 in
set_option maxRecDepth 100000 in
theorem c_Xsh_isFull (l : Launch) (dC : Nat → ClassId) (dI : Nat → Nat → Nat) (kc : Nat → ClassId) (ad : Nat → Nat) (sz : Nat) (σ : XS) (c0 : Nat) (h0 : c0 ∈ shN) : Met l yX3_isFull wsX3_isFull ({ frames := 0, cells := 0, slots := 0, locals := 0 } : Room) (va_Pc [.ref (ad c0)] (xPre dC dI kc ad sz σ)) (va_Qi (fun r u => r = Xsh_isFull σ c0 ∧ u = σ) (xAt dC dI kc ad (xA kc ad σ sz)) (xA kc ad σ sz)) 0 0 (xA kc ad σ sz) := by
  refine x_ofW (cc := cX3_isFull) (maxL := 1) (ret := (some .boolean)) (by decide) rfl rfl (Nat.le_of_ble_eq_true rfl) ?_
  intro p e s m below meth c X G hA hr hlocks hml ls hl
  have hl : lv_has ls 1 [(0, .ref (ad c0))] := hl
  have hx := X.1
  have hb := X.2.1
  have hts := X.2.2.1
  have hown := X.2.2.2.1
  have hz := X.2.2.2.2.2
  have hin3 : ∀ w ∈ wsX30, w ∈ wsX3_isFull := (fun w hw => List.mem_cons_of_mem _ (List.mem_append_right _ hw))
  refine lv_aload_n hx hb dX3_isFull_0 rfl (lv_at hl 0 rfl) ?_
  refine x_sget_4 X G hin3 h0 (by decide +kernel) dX3_isFull_1 ?_
  refine lv_aload_n hx hb dX3_isFull_4 rfl (lv_at hl 0 rfl) ?_
  refine x_sget_0 X G hin3 h0 (by decide +kernel) dX3_isFull_5 ?_
  refine x_alenJ X G (xJ_sh h0) dX3_isFull_8 ?_
  refine lv_icmp_lt (tgt := 16) hx hb dX3_isFull_9 (by decide) (fun c_9 => ?_) (fun c_9 => ?_)
  · have c_9 : (σ.1 c0) < (Int32.ofNat (xlen c0)) := c_9
    refine lv_iconst (v := 0) hx hb dX3_isFull_16 (by decide) ?_
    exact x_zret (v := 0) X G hr hlocks rfl ⟨(by simp only [Xsh_isFull, eq_true c_9, ↓reduceIte]), rfl⟩ dX3_isFull_17
  · have c_9 : ¬ ((σ.1 c0) < (Int32.ofNat (xlen c0))) := c_9
    refine lv_iconst (v := 1) hx hb dX3_isFull_12 (by decide) ?_
    refine lv_goto (tgt := 17) hx hb dX3_isFull_13 (by decide) ?_
    exact x_zret (v := 1) X G hr hlocks rfl ⟨(by simp only [Xsh_isFull, eq_false c_9, ↓reduceIte]), rfl⟩ dX3_isFull_17
def Xsh_has (σ : XS) (c0 : Nat) (i0 : Int32) : Int32 := if i0 < 0 then 0 else if (σ.1 c0) ≤ i0 then 0 else if (Int32.ofNat (xlen c0)) ≤ i0 then 0 else 1
theorem has_in {σ : XS} {c0 : Nat} {i0 : Int32} (hs : c0 ∈ shN) (h : ¬ Xsh_has σ c0 i0 = 0) : vp_in i0 (xlen c0) := by
  unfold Xsh_has at h
  by_cases h1 : i0 < 0
  · exact absurd (by simp only [h1, ↓reduceIte]) h
  · by_cases h2 : σ.1 c0 ≤ i0
    · exact absurd (by simp only [h1, h2, ↓reduceIte]) h
    · by_cases h3 : Int32.ofNat (xlen c0) ≤ i0
      · exact absurd (by simp only [h1, h2, h3, ↓reduceIte]) h
      · exact sh_in hs h1 (Int32.not_le.mp h3)
set_option maxHeartbeats 4000000 in
set_option maxRecDepth 100000 in
theorem c_Xsh_has (l : Launch) (dC : Nat → ClassId) (dI : Nat → Nat → Nat) (kc : Nat → ClassId) (ad : Nat → Nat) (sz : Nat) (σ : XS) (c0 : Nat) (i0 : Int32) (h0 : c0 ∈ shN) : Met l yX3_has wsX3_has ({ frames := 0, cells := 0, slots := 0, locals := 0 } : Room) (va_Pc [.ref (ad c0), .int i0] (xPre dC dI kc ad sz σ)) (va_Qi (fun r u => r = Xsh_has σ c0 i0 ∧ u = σ) (xAt dC dI kc ad (xA kc ad σ sz)) (xA kc ad σ sz)) 0 0 (xA kc ad σ sz) := by
  refine x_ofW (cc := cX3_has) (maxL := 2) (ret := (some .boolean)) (by decide) rfl rfl (Nat.le_of_ble_eq_true rfl) ?_
  intro p e s m below meth c X G hA hr hlocks hml ls hl
  have hl : lv_has ls 2 [(0, .ref (ad c0)), (1, .int i0)] := hl
  have hx := X.1
  have hb := X.2.1
  have hts := X.2.2.1
  have hown := X.2.2.2.1
  have hz := X.2.2.2.2.2
  have hin3 : ∀ w ∈ wsX30, w ∈ wsX3_has := (fun w hw => List.mem_cons_of_mem _ (List.mem_append_right _ hw))
  refine lv_iload_n hx hb dX3_has_0 rfl (lv_at hl 1 rfl) ?_
  refine lv_if_lt (tgt := 25) hx hb dX3_has_1 (by decide) (fun c_1 => ?_) (fun c_1 => ?_)
  · have c_1 : i0 < 0 := c_1
    refine lv_iconst (v := 0) hx hb dX3_has_25 (by decide) ?_
    exact x_zret (v := 0) X G hr hlocks rfl ⟨(by simp only [Xsh_has, eq_true c_1, ↓reduceIte]), rfl⟩ dX3_has_26
  · have c_1 : ¬ (i0 < 0) := c_1
    refine lv_iload_n hx hb dX3_has_4 rfl (lv_at hl 1 rfl) ?_
    refine lv_aload_n hx hb dX3_has_5 rfl (lv_at hl 0 rfl) ?_
    refine x_sget_4 X G hin3 h0 (by decide +kernel) dX3_has_6 ?_
    refine lv_icmp_ge (tgt := 25) hx hb dX3_has_9 (by decide) (fun c_9 => ?_) (fun c_9 => ?_)
    · have c_9 : (σ.1 c0) ≤ i0 := c_9
      refine lv_iconst (v := 0) hx hb dX3_has_25 (by decide) ?_
      exact x_zret (v := 0) X G hr hlocks rfl ⟨(by simp only [Xsh_has, eq_false c_1, eq_true c_9, ↓reduceIte]), rfl⟩ dX3_has_26
    · have c_9 : ¬ ((σ.1 c0) ≤ i0) := c_9
      refine lv_iload_n hx hb dX3_has_12 rfl (lv_at hl 1 rfl) ?_
      refine lv_aload_n hx hb dX3_has_13 rfl (lv_at hl 0 rfl) ?_
      refine x_sget_0 X G hin3 h0 (by decide +kernel) dX3_has_14 ?_
      refine x_alenJ X G (xJ_sh h0) dX3_has_17 ?_
      refine lv_icmp_ge (tgt := 25) hx hb dX3_has_18 (by decide) (fun c_18 => ?_) (fun c_18 => ?_)
      · have c_18 : (Int32.ofNat (xlen c0)) ≤ i0 := c_18
        refine lv_iconst (v := 0) hx hb dX3_has_25 (by decide) ?_
        exact x_zret (v := 0) X G hr hlocks rfl ⟨(by simp only [Xsh_has, eq_false c_1, eq_false c_9, eq_true c_18, ↓reduceIte]), rfl⟩ dX3_has_26
      · have c_18 : ¬ ((Int32.ofNat (xlen c0)) ≤ i0) := c_18
        refine lv_iconst (v := 1) hx hb dX3_has_21 (by decide) ?_
        refine lv_goto (tgt := 26) hx hb dX3_has_22 (by decide) ?_
        exact x_zret (v := 1) X G hr hlocks rfl ⟨(by simp only [Xsh_has, eq_false c_1, eq_false c_9, eq_false c_18, ↓reduceIte]), rfl⟩ dX3_has_26
def Xsh_slotBelowTop (σ : XS) (c0 : Nat) (i0 : Int32) : Int32 := if i0 < 0 then (-1) else if i0 < (σ.1 c0) then ((((σ.1 c0) - 1) - i0)) else (-1)
set_option maxHeartbeats 4000000 in
set_option maxRecDepth 100000 in
theorem c_Xsh_slotBelowTop (l : Launch) (dC : Nat → ClassId) (dI : Nat → Nat → Nat) (kc : Nat → ClassId) (ad : Nat → Nat) (sz : Nat) (σ : XS) (c0 : Nat) (i0 : Int32) (h0 : c0 ∈ shN) : Met l yX3_slotBelowTop wsX3_slotBelowTop ({ frames := 0, cells := 0, slots := 0, locals := 0 } : Room) (va_Pc [.ref (ad c0), .int i0] (xPre dC dI kc ad sz σ)) (va_Qi (fun r u => r = Xsh_slotBelowTop σ c0 i0 ∧ u = σ) (xAt dC dI kc ad (xA kc ad σ sz)) (xA kc ad σ sz)) 0 0 (xA kc ad σ sz) := by
  refine x_ofW (cc := cX3_slotBelowTop) (maxL := 2) (ret := (some .int)) (by decide) rfl rfl (Nat.le_of_ble_eq_true rfl) ?_
  intro p e s m below meth c X G hA hr hlocks hml ls hl
  have hl : lv_has ls 2 [(0, .ref (ad c0)), (1, .int i0)] := hl
  have hx := X.1
  have hb := X.2.1
  have hts := X.2.2.1
  have hown := X.2.2.2.1
  have hz := X.2.2.2.2.2
  have hin3 : ∀ w ∈ wsX30, w ∈ wsX3_slotBelowTop := (fun w hw => List.mem_cons_of_mem _ (List.mem_append_right _ hw))
  refine lv_iload_n hx hb dX3_slotBelowTop_0 rfl (lv_at hl 1 rfl) ?_
  refine lv_if_lt (tgt := 12) hx hb dX3_slotBelowTop_1 (by decide) (fun c_1 => ?_) (fun c_1 => ?_)
  · have c_1 : i0 < 0 := c_1
    refine lv_iconst (v := -1) hx hb dX3_slotBelowTop_12 (by decide) ?_
    refine lv_goto (tgt := 24) hx hb dX3_slotBelowTop_13 (by decide) ?_
    exact x_iret (v := (-1)) X G hr hlocks ⟨(by simp only [Xsh_slotBelowTop, eq_true c_1, ↓reduceIte]), rfl⟩ dX3_slotBelowTop_24
  · have c_1 : ¬ (i0 < 0) := c_1
    refine lv_iload_n hx hb dX3_slotBelowTop_4 rfl (lv_at hl 1 rfl) ?_
    refine lv_aload_n hx hb dX3_slotBelowTop_5 rfl (lv_at hl 0 rfl) ?_
    refine x_sget_4 X G hin3 h0 (by decide +kernel) dX3_slotBelowTop_6 ?_
    refine lv_icmp_lt (tgt := 16) hx hb dX3_slotBelowTop_9 (by decide) (fun c_9 => ?_) (fun c_9 => ?_)
    · have c_9 : i0 < (σ.1 c0) := c_9
      refine lv_aload_n hx hb dX3_slotBelowTop_16 rfl (lv_at hl 0 rfl) ?_
      refine x_sget_4 X G hin3 h0 (by decide +kernel) dX3_slotBelowTop_17 ?_
      refine lv_iconst (v := 1) hx hb dX3_slotBelowTop_20 (by decide) ?_
      refine lv_isub hx hb dX3_slotBelowTop_21 ?_
      refine lv_iload_n hx hb dX3_slotBelowTop_22 rfl (lv_at hl 1 rfl) ?_
      refine lv_isub hx hb dX3_slotBelowTop_23 ?_
      exact x_iret (v := (((σ.1 c0) - 1) - i0)) X G hr hlocks ⟨(by simp only [Xsh_slotBelowTop, eq_false c_1, eq_true c_9, ↓reduceIte]), rfl⟩ dX3_slotBelowTop_24
    · have c_9 : ¬ (i0 < (σ.1 c0)) := c_9
      refine lv_iconst (v := -1) hx hb dX3_slotBelowTop_12 (by decide) ?_
      refine lv_goto (tgt := 24) hx hb dX3_slotBelowTop_13 (by decide) ?_
      exact x_iret (v := (-1)) X G hr hlocks ⟨(by simp only [Xsh_slotBelowTop, eq_false c_1, eq_false c_9, ↓reduceIte]), rfl⟩ dX3_slotBelowTop_24
def Xsh_valueAt (σ : XS) (c0 : Nat) (i0 : Int32) : Int64 := if (Xsh_has σ c0 i0) = 0 then 0 else (σ.2.2.1 ((c0 + 1)) i0.toNatClampNeg)
set_option maxHeartbeats 4000000 in
set_option maxRecDepth 100000 in
theorem c_Xsh_valueAt (l : Launch) (dC : Nat → ClassId) (dI : Nat → Nat → Nat) (kc : Nat → ClassId) (ad : Nat → Nat) (sz : Nat) (σ : XS) (c0 : Nat) (i0 : Int32) (h0 : c0 ∈ shN) : Met l yX3_valueAt wsX3_valueAt ({ frames := 1, cells := 0, slots := 0, locals := 21 } : Room) (va_Pc [.ref (ad c0), .int i0] (xPre dC dI kc ad sz σ)) (va_Ql (fun r u => r = Xsh_valueAt σ c0 i0 ∧ u = σ) (xAt dC dI kc ad (xA kc ad σ sz)) (xA kc ad σ sz)) 0 0 (xA kc ad σ sz) := by
  refine x_ofW (cc := cX3_valueAt) (maxL := 2) (ret := (some .long)) (by decide) rfl rfl (Nat.le_of_ble_eq_true rfl) ?_
  intro p e s m below meth c X G hA hr hlocks hml ls hl
  have hl : lv_has ls 2 [(0, .ref (ad c0)), (1, .int i0)] := hl
  have hx := X.1
  have hb := X.2.1
  have hts := X.2.2.1
  have hown := X.2.2.2.1
  have hz := X.2.2.2.2.2
  have hin3 : ∀ w ∈ wsX30, w ∈ wsX3_valueAt := (fun w hw => List.mem_cons_of_mem _ (List.mem_append_right _ hw))
  refine lv_aload_n hx hb dX3_valueAt_0 rfl (lv_at hl 0 rfl) ?_
  refine lv_iload_n hx hb dX3_valueAt_1 rfl (lv_at hl 1 rfl) ?_
  refine x_calli (As := [.int i0]) (rest := []) X hml G hA (xW_sh h0) rfl (c_Xsh_has l dC dI kc ad _ σ c0 i0 h0) (cwV 1 hts gX3_valueAt_X3_has rfl rfl rfl (by decide +kernel) ⟨Nat.le_of_ble_eq_true rfl, Nat.le_of_ble_eq_true rfl⟩) rfl hl.1 rfl (Nat.le_of_ble_eq_true rfl) dX3_valueAt_2 ⟨Nat.zero_le _, Nat.zero_le _⟩ (fun r_2 u_2 H locs hw_2 G => ?_)
  obtain ⟨rfl, hu_2⟩ := hw_2
  rw [hu_2] at G
  refine lv_if_eq (tgt := 17) hx hb dX3_valueAt_5 (by decide) (fun c_5 => ?_) (fun c_5 => ?_)
  · have c_5 : (Xsh_has σ c0 i0) = 0 := c_5
    refine lv_lconst (v := 0) hx hb dX3_valueAt_17 (by decide) ?_
    exact x_lret (v := 0) X G hr hlocks ⟨(by simp only [Xsh_valueAt, eq_true c_5, ↓reduceIte]), rfl⟩ dX3_valueAt_18
  · have c_5 : ¬ ((Xsh_has σ c0 i0) = 0) := c_5
    refine lv_aload_n hx hb dX3_valueAt_8 rfl (lv_at hl 0 rfl) ?_
    refine x_sget_0 X G hin3 h0 (by decide +kernel) dX3_valueAt_9 ?_
    refine lv_iload_n hx hb dX3_valueAt_12 rfl (lv_at hl 1 rfl) ?_
    refine x_lld X G (xJ_sh h0) (has_in h0 c_5) dX3_valueAt_13 ?_
    refine lv_goto (tgt := 18) hx hb dX3_valueAt_14 (by decide) ?_
    exact x_lret (v := (σ.2.2.1 ((c0 + 1)) i0.toNatClampNeg)) X G hr hlocks ⟨(by simp only [Xsh_valueAt, eq_false c_5, ↓reduceIte]), rfl⟩ dX3_valueAt_18
def Xsh_placesAt (σ : XS) (c0 : Nat) (i0 : Int32) : Int32 := if (Xsh_has σ c0 i0) = 0 then (-2) else (σ.2.1 ((c0 + 2)) i0.toNatClampNeg)
set_option maxHeartbeats 4000000 in
set_option maxRecDepth 100000 in
theorem c_Xsh_placesAt (l : Launch) (dC : Nat → ClassId) (dI : Nat → Nat → Nat) (kc : Nat → ClassId) (ad : Nat → Nat) (sz : Nat) (σ : XS) (c0 : Nat) (i0 : Int32) (h0 : c0 ∈ shN) : Met l yX3_placesAt wsX3_placesAt ({ frames := 1, cells := 0, slots := 0, locals := 21 } : Room) (va_Pc [.ref (ad c0), .int i0] (xPre dC dI kc ad sz σ)) (va_Qi (fun r u => r = Xsh_placesAt σ c0 i0 ∧ u = σ) (xAt dC dI kc ad (xA kc ad σ sz)) (xA kc ad σ sz)) 0 0 (xA kc ad σ sz) := by
  refine x_ofW (cc := cX3_placesAt) (maxL := 2) (ret := (some .int)) (by decide) rfl rfl (Nat.le_of_ble_eq_true rfl) ?_
  intro p e s m below meth c X G hA hr hlocks hml ls hl
  have hl : lv_has ls 2 [(0, .ref (ad c0)), (1, .int i0)] := hl
  have hx := X.1
  have hb := X.2.1
  have hts := X.2.2.1
  have hown := X.2.2.2.1
  have hz := X.2.2.2.2.2
  have hin3 : ∀ w ∈ wsX30, w ∈ wsX3_placesAt := (fun w hw => List.mem_cons_of_mem _ (List.mem_append_right _ hw))
  refine lv_aload_n hx hb dX3_placesAt_0 rfl (lv_at hl 0 rfl) ?_
  refine lv_iload_n hx hb dX3_placesAt_1 rfl (lv_at hl 1 rfl) ?_
  refine x_calli (As := [.int i0]) (rest := []) X hml G hA (xW_sh h0) rfl (c_Xsh_has l dC dI kc ad _ σ c0 i0 h0) (cwV 1 hts gX3_placesAt_X3_has rfl rfl rfl (by decide +kernel) ⟨Nat.le_of_ble_eq_true rfl, Nat.le_of_ble_eq_true rfl⟩) rfl hl.1 rfl (Nat.le_of_ble_eq_true rfl) dX3_placesAt_2 ⟨Nat.zero_le _, Nat.zero_le _⟩ (fun r_2 u_2 H locs hw_2 G => ?_)
  obtain ⟨rfl, hu_2⟩ := hw_2
  rw [hu_2] at G
  refine lv_if_eq (tgt := 17) hx hb dX3_placesAt_5 (by decide) (fun c_5 => ?_) (fun c_5 => ?_)
  · have c_5 : (Xsh_has σ c0 i0) = 0 := c_5
    refine lv_bipush (v := -2) hx hb dX3_placesAt_17 (by decide) ?_
    exact x_iret (v := (-2)) X G hr hlocks ⟨(by simp only [Xsh_placesAt, eq_true c_5, ↓reduceIte]), rfl⟩ dX3_placesAt_19
  · have c_5 : ¬ ((Xsh_has σ c0 i0) = 0) := c_5
    refine lv_aload_n hx hb dX3_placesAt_8 rfl (lv_at hl 0 rfl) ?_
    refine x_sget_1 X G hin3 h0 (by decide +kernel) dX3_placesAt_9 ?_
    refine lv_iload_n hx hb dX3_placesAt_12 rfl (lv_at hl 1 rfl) ?_
    refine x_ild X G (xI_sh2 h0) (has_in h0 c_5) dX3_placesAt_13 ?_
    refine lv_goto (tgt := 19) hx hb dX3_placesAt_14 (by decide) ?_
    exact x_iret (v := (σ.2.1 ((c0 + 2)) i0.toNatClampNeg)) X G hr hlocks ⟨(by simp only [Xsh_placesAt, eq_false c_5, ↓reduceIte]), rfl⟩ dX3_placesAt_19
def Xsh_rowAt (σ : XS) (c0 : Nat) (i0 : Int32) : Option Nat := if (Xsh_has σ c0 i0) = 0 then (((none : Option Nat))) else ((σ.2.2.2.1 ((c0 + 3)) i0.toNatClampNeg))
set_option maxHeartbeats 4000000 in
set_option maxRecDepth 100000 in
theorem c_Xsh_rowAt (l : Launch) (dC : Nat → ClassId) (dI : Nat → Nat → Nat) (kc : Nat → ClassId) (ad : Nat → Nat) (sz : Nat) (σ : XS) (c0 : Nat) (i0 : Int32) (h0 : c0 ∈ shN) : Met l yX3_rowAt wsX3_rowAt ({ frames := 1, cells := 0, slots := 0, locals := 21 } : Room) (va_Pc [.ref (ad c0), .int i0] (xPre dC dI kc ad sz σ)) (va_Qq (fun r u => ∃ o : Option Nat, r = o.map ad ∧ o = Xsh_rowAt σ c0 i0 ∧ u = σ) (xAt dC dI kc ad (xA kc ad σ sz)) (xA kc ad σ sz)) 0 0 (xA kc ad σ sz) := by
  refine x_ofW (cc := cX3_rowAt) (maxL := 2) (ret := (some (.object "DeskStack$Row"))) (by decide) rfl rfl (Nat.le_of_ble_eq_true rfl) ?_
  intro p e s m below meth c X G hA hr hlocks hml ls hl
  have hl : lv_has ls 2 [(0, .ref (ad c0)), (1, .int i0)] := hl
  have hx := X.1
  have hb := X.2.1
  have hts := X.2.2.1
  have hown := X.2.2.2.1
  have hz := X.2.2.2.2.2
  have hin3 : ∀ w ∈ wsX30, w ∈ wsX3_rowAt := (fun w hw => List.mem_cons_of_mem _ (List.mem_append_right _ hw))
  refine lv_aload_n hx hb dX3_rowAt_0 rfl (lv_at hl 0 rfl) ?_
  refine lv_iload_n hx hb dX3_rowAt_1 rfl (lv_at hl 1 rfl) ?_
  refine x_calli (As := [.int i0]) (rest := []) X hml G hA (xW_sh h0) rfl (c_Xsh_has l dC dI kc ad _ σ c0 i0 h0) (cwV 1 hts gX3_rowAt_X3_has rfl rfl rfl (by decide +kernel) ⟨Nat.le_of_ble_eq_true rfl, Nat.le_of_ble_eq_true rfl⟩) rfl hl.1 rfl (Nat.le_of_ble_eq_true rfl) dX3_rowAt_2 ⟨Nat.zero_le _, Nat.zero_le _⟩ (fun r_2 u_2 H locs hw_2 G => ?_)
  obtain ⟨rfl, hu_2⟩ := hw_2
  rw [hu_2] at G
  refine lv_if_eq (tgt := 17) hx hb dX3_rowAt_5 (by decide) (fun c_5 => ?_) (fun c_5 => ?_)
  · have c_5 : (Xsh_has σ c0 i0) = 0 := c_5
    refine lv_null hx hb dX3_rowAt_17 ?_
    exact x_qret (o := ((none : Option Nat)).map ad) X G hr hlocks ⟨((none : Option Nat)), rfl, ⟨(by simp only [Xsh_rowAt, eq_true c_5, ↓reduceIte]), rfl⟩⟩ dX3_rowAt_18
  · have c_5 : ¬ ((Xsh_has σ c0 i0) = 0) := c_5
    refine lv_aload_n hx hb dX3_rowAt_8 rfl (lv_at hl 0 rfl) ?_
    refine x_sget_2 X G hin3 h0 (by decide +kernel) dX3_rowAt_9 ?_
    refine lv_iload_n hx hb dX3_rowAt_12 rfl (lv_at hl 1 rfl) ?_
    refine x_qld X G (xQ_sh h0) (has_in h0 c_5) dX3_rowAt_13 ?_
    refine lv_goto (tgt := 18) hx hb dX3_rowAt_14 (by decide) ?_
    exact x_qret (o := ((σ.2.2.2.1 ((c0 + 3)) i0.toNatClampNeg)).map ad) X G hr hlocks ⟨((σ.2.2.2.1 ((c0 + 3)) i0.toNatClampNeg)), rfl, ⟨(by simp only [Xsh_rowAt, eq_false c_5, ↓reduceIte]), rfl⟩⟩ dX3_rowAt_18
def Xsh_startAt (σ : XS) (c0 : Nat) (i0 : Int32) : Int32 := if (Xsh_has σ c0 i0) = 0 then 0 else (σ.2.1 ((c0 + 4)) i0.toNatClampNeg)
set_option maxHeartbeats 4000000 in
set_option maxRecDepth 100000 in
theorem c_Xsh_startAt (l : Launch) (dC : Nat → ClassId) (dI : Nat → Nat → Nat) (kc : Nat → ClassId) (ad : Nat → Nat) (sz : Nat) (σ : XS) (c0 : Nat) (i0 : Int32) (h0 : c0 ∈ shN) : Met l yX3_startAt wsX3_startAt ({ frames := 1, cells := 0, slots := 0, locals := 21 } : Room) (va_Pc [.ref (ad c0), .int i0] (xPre dC dI kc ad sz σ)) (va_Qi (fun r u => r = Xsh_startAt σ c0 i0 ∧ u = σ) (xAt dC dI kc ad (xA kc ad σ sz)) (xA kc ad σ sz)) 0 0 (xA kc ad σ sz) := by
  refine x_ofW (cc := cX3_startAt) (maxL := 2) (ret := (some .int)) (by decide) rfl rfl (Nat.le_of_ble_eq_true rfl) ?_
  intro p e s m below meth c X G hA hr hlocks hml ls hl
  have hl : lv_has ls 2 [(0, .ref (ad c0)), (1, .int i0)] := hl
  have hx := X.1
  have hb := X.2.1
  have hts := X.2.2.1
  have hown := X.2.2.2.1
  have hz := X.2.2.2.2.2
  have hin3 : ∀ w ∈ wsX30, w ∈ wsX3_startAt := (fun w hw => List.mem_cons_of_mem _ (List.mem_append_right _ hw))
  refine lv_aload_n hx hb dX3_startAt_0 rfl (lv_at hl 0 rfl) ?_
  refine lv_iload_n hx hb dX3_startAt_1 rfl (lv_at hl 1 rfl) ?_
  refine x_calli (As := [.int i0]) (rest := []) X hml G hA (xW_sh h0) rfl (c_Xsh_has l dC dI kc ad _ σ c0 i0 h0) (cwV 1 hts gX3_startAt_X3_has rfl rfl rfl (by decide +kernel) ⟨Nat.le_of_ble_eq_true rfl, Nat.le_of_ble_eq_true rfl⟩) rfl hl.1 rfl (Nat.le_of_ble_eq_true rfl) dX3_startAt_2 ⟨Nat.zero_le _, Nat.zero_le _⟩ (fun r_2 u_2 H locs hw_2 G => ?_)
  obtain ⟨rfl, hu_2⟩ := hw_2
  rw [hu_2] at G
  refine lv_if_eq (tgt := 17) hx hb dX3_startAt_5 (by decide) (fun c_5 => ?_) (fun c_5 => ?_)
  · have c_5 : (Xsh_has σ c0 i0) = 0 := c_5
    refine lv_iconst (v := 0) hx hb dX3_startAt_17 (by decide) ?_
    exact x_iret (v := 0) X G hr hlocks ⟨(by simp only [Xsh_startAt, eq_true c_5, ↓reduceIte]), rfl⟩ dX3_startAt_18
  · have c_5 : ¬ ((Xsh_has σ c0 i0) = 0) := c_5
    refine lv_aload_n hx hb dX3_startAt_8 rfl (lv_at hl 0 rfl) ?_
    refine x_sget_3 X G hin3 h0 (by decide +kernel) dX3_startAt_9 ?_
    refine lv_iload_n hx hb dX3_startAt_12 rfl (lv_at hl 1 rfl) ?_
    refine x_ild X G (xI_sh4 h0) (has_in h0 c_5) dX3_startAt_13 ?_
    refine lv_goto (tgt := 18) hx hb dX3_startAt_14 (by decide) ?_
    exact x_iret (v := (σ.2.1 ((c0 + 4)) i0.toNatClampNeg)) X G hr hlocks ⟨(by simp only [Xsh_startAt, eq_false c_5, ↓reduceIte]), rfl⟩ dX3_startAt_18
def Xsh_set (σ : XS) (c0 : Nat) (i0 : Int32) (b0 : Int64) (p0 : Int32) (r0 : Option Nat) (s0 : Int32) : XS := if (Xsh_has σ c0 i0) = 0 then σ else (xa (xr (xa (xb σ ((c0 + 1)) i0.toNatClampNeg b0) ((c0 + 2)) i0.toNatClampNeg p0) ((c0 + 3)) i0.toNatClampNeg r0) ((c0 + 4)) i0.toNatClampNeg s0)
set_option maxHeartbeats 4000000 in
set_option maxRecDepth 100000 in
theorem c_Xsh_set (l : Launch) (dC : Nat → ClassId) (dI : Nat → Nat → Nat) (kc : Nat → ClassId) (ad : Nat → Nat) (sz : Nat) (σ : XS) (c0 : Nat) (i0 : Int32) (b0 : Int64) (p0 : Int32) (r0 : Option Nat) (s0 : Int32) (h0 : c0 ∈ shN) (hr0 : ∀ n, r0 = some n → xv σ n) : Met l yX3_set wsX3_set ({ frames := 1, cells := 0, slots := 0, locals := 21 } : Room) (va_Pc [.ref (ad c0), .int i0, .long b0, .int p0, va_rf (r0.map ad), .int s0] (xPre dC dI kc ad sz σ)) (va_Qv (fun u => Xsh_set σ c0 i0 b0 p0 r0 s0 = u) (xAt dC dI kc ad (xA kc ad σ sz)) (xA kc ad σ sz)) 0 0 (xA kc ad σ sz) := by
  refine x_ofW (cc := cX3_set) (maxL := 7) (ret := none) (by decide) rfl rfl (by cases r0 <;> exact Nat.le_of_ble_eq_true rfl) ?_
  intro p e s m below meth c X G hA hr hlocks hml ls hl
  have hl : lv_has ls 7 [(0, .ref (ad c0)), (1, .int i0), (2, .long b0), (4, .int p0), (5, va_rf (r0.map ad)), (6, .int s0)] := by cases r0 <;> exact hl
  have hx := X.1
  have hb := X.2.1
  have hts := X.2.2.1
  have hown := X.2.2.2.1
  have hz := X.2.2.2.2.2
  have hin3 : ∀ w ∈ wsX30, w ∈ wsX3_set := (fun w hw => List.mem_cons_of_mem _ (List.mem_append_right _ hw))
  refine lv_aload_n hx hb dX3_set_0 rfl (lv_at hl 0 rfl) ?_
  refine lv_iload_n hx hb dX3_set_1 rfl (lv_at hl 1 rfl) ?_
  refine x_calli (As := [.int i0]) (rest := []) X hml G hA (xW_sh h0) rfl (c_Xsh_has l dC dI kc ad _ σ c0 i0 h0) (cwV 1 hts gX3_set_X3_has rfl rfl rfl (by decide +kernel) ⟨Nat.le_of_ble_eq_true rfl, Nat.le_of_ble_eq_true rfl⟩) rfl hl.1 rfl (Nat.le_of_ble_eq_true rfl) dX3_set_2 ⟨Nat.zero_le _, Nat.zero_le _⟩ (fun r_2 u_2 H locs hw_2 G => ?_)
  obtain ⟨rfl, hu_2⟩ := hw_2
  rw [hu_2] at G
  refine lv_if_eq (tgt := 39) hx hb dX3_set_5 (by decide) (fun c_5 => ?_) (fun c_5 => ?_)
  · have c_5 : (Xsh_has σ c0 i0) = 0 := c_5
    exact x_vret X G hr hlocks (by simp only [Xsh_set, eq_true c_5, ↓reduceIte]) dX3_set_39
  · have c_5 : ¬ ((Xsh_has σ c0 i0) = 0) := c_5
    refine lv_aload_n hx hb dX3_set_8 rfl (lv_at hl 0 rfl) ?_
    refine x_sget_0 X G hin3 h0 (by decide +kernel) dX3_set_9 ?_
    refine lv_iload_n hx hb dX3_set_12 rfl (lv_at hl 1 rfl) ?_
    refine lv_lload_n hx hb dX3_set_13 rfl (lv_at hl 2 rfl) ?_
    refine x_lst X G (xJ_sh h0) (has_in h0 c_5) dX3_set_14 (fun H locs G => ?_)
    have G : xH dC dI kc ad (xb σ ((c0 + 1)) i0.toNatClampNeg b0) _ s.heap H locs := G
    refine lv_aload_n hx hb dX3_set_15 rfl (lv_at hl 0 rfl) ?_
    refine x_sget_1 X G hin3 h0 (by decide +kernel) dX3_set_16 ?_
    refine lv_iload_n hx hb dX3_set_19 rfl (lv_at hl 1 rfl) ?_
    refine lv_iload hx hb dX3_set_20 (lv_at hl 3 rfl) ?_
    refine x_ist X G (xI_sh2 h0) (has_in h0 c_5) dX3_set_22 (fun H locs G => ?_)
    have G : xH dC dI kc ad (xa (xb σ ((c0 + 1)) i0.toNatClampNeg b0) ((c0 + 2)) i0.toNatClampNeg p0) _ s.heap H locs := G
    refine lv_aload_n hx hb dX3_set_23 rfl (lv_at hl 0 rfl) ?_
    refine x_sget_2 X G hin3 h0 (by decide +kernel) dX3_set_24 ?_
    refine lv_iload_n hx hb dX3_set_27 rfl (lv_at hl 1 rfl) ?_
    refine x_aloadq hx hb dX3_set_28 (lv_at hl 4 rfl) ?_
    refine x_qst (v := r0) X G (xQ_sh h0) hr0 (has_in h0 c_5) dX3_set_30 (fun H locs G => ?_)
    have G : xH dC dI kc ad (xr (xa (xb σ ((c0 + 1)) i0.toNatClampNeg b0) ((c0 + 2)) i0.toNatClampNeg p0) ((c0 + 3)) i0.toNatClampNeg r0) _ s.heap H locs := G
    refine lv_aload_n hx hb dX3_set_31 rfl (lv_at hl 0 rfl) ?_
    refine x_sget_3 X G hin3 h0 (by decide +kernel) dX3_set_32 ?_
    refine lv_iload_n hx hb dX3_set_35 rfl (lv_at hl 1 rfl) ?_
    refine lv_iload hx hb dX3_set_36 (lv_at hl 5 rfl) ?_
    refine x_ist X G (xI_sh4 h0) (has_in h0 c_5) dX3_set_38 (fun H locs G => ?_)
    have G : xH dC dI kc ad (xa (xr (xa (xb σ ((c0 + 1)) i0.toNatClampNeg b0) ((c0 + 2)) i0.toNatClampNeg p0) ((c0 + 3)) i0.toNatClampNeg r0) ((c0 + 4)) i0.toNatClampNeg s0) _ s.heap H locs := G
    exact x_vret X G hr hlocks (by simp only [Xsh_set, eq_false c_5, ↓reduceIte]) dX3_set_39
def Xsh_drop (σ : XS) (c0 : Nat) (i0 : Int32) : XS := (xi σ c0 (if (0 : Int32) < ((σ.1 c0) - i0) then ((σ.1 c0) - i0) else (0 : Int32)))
set_option maxHeartbeats 4000000 in
set_option maxRecDepth 100000 in
theorem c_Xsh_drop (l : Launch) (dC : Nat → ClassId) (dI : Nat → Nat → Nat) (kc : Nat → ClassId) (ad : Nat → Nat) (sz : Nat) (σ : XS) (c0 : Nat) (i0 : Int32) (h0 : c0 ∈ shN) : Met l yX3_drop wsX3_drop ({ frames := 1, cells := 0, slots := 0, locals := 14 } : Room) (va_Pc [.ref (ad c0), .int i0] (xPre dC dI kc ad sz σ)) (va_Qv (fun u => Xsh_drop σ c0 i0 = u) (xAt dC dI kc ad (xA kc ad σ sz)) (xA kc ad σ sz)) 0 0 (xA kc ad σ sz) := by
  refine x_ofW (cc := cX3_drop) (maxL := 2) (ret := none) (by decide) rfl rfl (Nat.le_of_ble_eq_true rfl) ?_
  intro p e s m below meth c X G hA hr hlocks hml ls hl
  have hl : lv_has ls 2 [(0, .ref (ad c0)), (1, .int i0)] := hl
  have hx := X.1
  have hb := X.2.1
  have hts := X.2.2.1
  have hown := X.2.2.2.1
  have hz := X.2.2.2.2.2
  have hin3 : ∀ w ∈ wsX30, w ∈ wsX3_drop := (fun w hw => List.mem_cons_of_mem _ (List.mem_append_right _ hw))
  refine lv_aload_n hx hb dX3_drop_0 rfl (lv_at hl 0 rfl) ?_
  refine lv_iconst (v := 0) hx hb dX3_drop_1 (by decide) ?_
  refine lv_aload_n hx hb dX3_drop_2 rfl (lv_at hl 0 rfl) ?_
  refine x_sget_4 X G hin3 h0 (by decide +kernel) dX3_drop_3 ?_
  refine lv_iload_n hx hb dX3_drop_6 rfl (lv_at hl 1 rfl) ?_
  refine lv_isub hx hb dX3_drop_7 ?_
  refine va_mmax (own := RX3) hx hb (hml.trans hl.1.symm) hown (hts (.methodLink RX3 73 Lib.Math.max.name) (by decide +kernel)) (hts (.static Lib.Math.max.name) (by decide +kernel)) (hts (.initialized "java/lang/Math") (by decide +kernel)) (hts (.code Lib.Math.max.name Lib.Math.max.code 2 (some .int)) (by decide +kernel)) (Nat.le_of_ble_eq_true rfl) (Nat.le_of_ble_eq_true rfl) (Nat.le_of_ble_eq_true rfl) (Nat.le_of_ble_eq_true rfl) dX3_drop_8 ?_
  refine x_sput_4 X G hin3 h0 (by decide +kernel) dX3_drop_11 (fun H locs G => ?_)
  have G : xH dC dI kc ad (xi σ c0 (if (0 : Int32) < ((σ.1 c0) - i0) then ((σ.1 c0) - i0) else (0 : Int32))) _ s.heap H locs := G
  exact x_vret X G hr hlocks (by simp only [Xsh_drop, ↓reduceIte]) dX3_drop_14
def Xsh_clear (σ : XS) (c0 : Nat) : XS := (xi σ c0 0)
set_option maxHeartbeats 4000000 in
set_option maxRecDepth 100000 in
theorem c_Xsh_clear (l : Launch) (dC : Nat → ClassId) (dI : Nat → Nat → Nat) (kc : Nat → ClassId) (ad : Nat → Nat) (sz : Nat) (σ : XS) (c0 : Nat) (h0 : c0 ∈ shN) : Met l yX3_clear wsX3_clear ({ frames := 0, cells := 0, slots := 0, locals := 0 } : Room) (va_Pc [.ref (ad c0)] (xPre dC dI kc ad sz σ)) (va_Qv (fun u => Xsh_clear σ c0 = u) (xAt dC dI kc ad (xA kc ad σ sz)) (xA kc ad σ sz)) 0 0 (xA kc ad σ sz) := by
  refine x_ofW (cc := cX3_clear) (maxL := 1) (ret := none) (by decide) rfl rfl (Nat.le_of_ble_eq_true rfl) ?_
  intro p e s m below meth c X G hA hr hlocks hml ls hl
  have hl : lv_has ls 1 [(0, .ref (ad c0))] := hl
  have hx := X.1
  have hb := X.2.1
  have hts := X.2.2.1
  have hown := X.2.2.2.1
  have hz := X.2.2.2.2.2
  have hin3 : ∀ w ∈ wsX30, w ∈ wsX3_clear := (fun w hw => List.mem_cons_of_mem _ (List.mem_append_right _ hw))
  refine lv_aload_n hx hb dX3_clear_0 rfl (lv_at hl 0 rfl) ?_
  refine lv_iconst (v := 0) hx hb dX3_clear_1 (by decide) ?_
  refine x_sput_4 X G hin3 h0 (by decide +kernel) dX3_clear_2 (fun H locs G => ?_)
  have G : xH dC dI kc ad (xi σ c0 0) _ s.heap H locs := G
  exact x_vret X G hr hlocks (by simp only [Xsh_clear, ↓reduceIte]) dX3_clear_5
def Xsh_put (σ : XS) (c0 : Nat) (b0 : Int64) (p0 : Int32) (r0 : Option Nat) (s0 : Int32) : (String × XS) ⊕ XS := if (Xsh_isFull σ c0) = 0 then (let q_40 := Xsh_set (xi σ c0 ((σ.1 c0) + 1)) c0 (((xi σ c0 ((σ.1 c0) + 1)).1 c0) - 1) b0 p0 r0 s0; .inr q_40) else .inl ("java/lang/UnsupportedOperationException", σ)
set_option maxHeartbeats 4000000 in
set_option maxRecDepth 100000 in
theorem c_Xsh_put (l : Launch) (hl9 : l.stackTraces = false) (dC : Nat → ClassId) (dI : Nat → Nat → Nat) (kc : Nat → ClassId) (ad : Nat → Nat) (sz : Nat) (σ : XS) (c0 : Nat) (b0 : Int64) (p0 : Int32) (r0 : Option Nat) (s0 : Int32) (h0 : c0 ∈ shN) (hr0 : ∀ n, r0 = some n → xv σ n) : xq_Met l yX3_put wsX3_put ({ frames := 6, cells := 1, slots := 6, locals := 82 } : Room) (va_Pc [.ref (ad c0), .long b0, .int p0, va_rf (r0.map ad), .int s0] (xPre dC dI kc ad sz σ)) (va_Qv (fun u => Xsh_put σ c0 b0 p0 r0 s0 = .inr u) (xAt dC dI kc ad (xA kc ad σ sz)) (xA kc ad σ sz)) (xE (Xsh_put σ c0 b0 p0 r0 s0) dC dI kc ad (xA kc ad σ sz)) 0 0 1 6 (xA kc ad σ sz) := by
  refine y_ofW (cc := cX3_put) (maxL := 6) (ret := none) (by decide) rfl rfl (by cases r0 <;> exact Nat.le_of_ble_eq_true rfl) ?_
  intro p e s m below meth c X G hA hr hlocks hml hEx ls hl
  have hl : lv_has ls 6 [(0, .ref (ad c0)), (1, .long b0), (3, .int p0), (4, va_rf (r0.map ad)), (5, .int s0)] := by cases r0 <;> exact hl
  have hx := X.1
  have hb := X.2.1
  have hts := X.2.2.1
  have hown := X.2.2.2.1
  have hz := X.2.2.2.2.2
  have hin3 : ∀ w ∈ wsX30, w ∈ wsX3_put := (fun w hw => List.mem_cons_of_mem _ (List.mem_append_left _ (List.mem_append_right _ hw)))
  refine lv_aload_n hx hb dX3_put_0 rfl (lv_at hl 0 rfl) ?_
  refine x_calli (As := []) (rest := []) X hml G hA (xW_sh h0) rfl (c_Xsh_isFull l dC dI kc ad _ σ c0 h0) (cwV 0 hts gX3_put_X3_isFull rfl rfl rfl (by decide +kernel) ⟨Nat.le_of_ble_eq_true rfl, Nat.le_of_ble_eq_true rfl⟩) rfl hl.1 rfl (Nat.le_of_ble_eq_true rfl) dX3_put_1 ⟨Nat.zero_le _, Nat.zero_le _⟩ (fun r_1 u_1 H locs hw_1 G => ?_)
  obtain ⟨rfl, hu_1⟩ := hw_1
  rw [hu_1] at G
  refine lv_if_eq (tgt := 17) hx hb dX3_put_4 (by decide) (fun c_4 => ?_) (fun c_4 => ?_)
  · have c_4 : (Xsh_isFull σ c0) = 0 := c_4
    refine lv_aload_n hx hb dX3_put_17 rfl (lv_at hl 0 rfl) ?_
    refine lv_dup hx hb dX3_put_18 rfl ?_
    refine x_sget_4 X G hin3 h0 (by decide +kernel) dX3_put_19 ?_
    refine lv_iconst (v := 1) hx hb dX3_put_22 (by decide) ?_
    refine lv_iadd hx hb dX3_put_23 ?_
    refine x_sput_4 X G hin3 h0 (by decide +kernel) dX3_put_24 (fun H locs G => ?_)
    have G : xH dC dI kc ad (xi σ c0 ((σ.1 c0) + 1)) _ s.heap H locs := G
    refine lv_aload_n hx hb dX3_put_27 rfl (lv_at hl 0 rfl) ?_
    refine lv_aload_n hx hb dX3_put_28 rfl (lv_at hl 0 rfl) ?_
    refine x_sget_4 X G hin3 h0 (by decide +kernel) dX3_put_29 ?_
    refine lv_iconst (v := 1) hx hb dX3_put_32 (by decide) ?_
    refine lv_isub hx hb dX3_put_33 ?_
    refine lv_lload_n hx hb dX3_put_34 rfl (lv_at hl 1 rfl) ?_
    refine lv_iload_n hx hb dX3_put_35 rfl (lv_at hl 2 rfl) ?_
    refine x_aloadq hx hb dX3_put_36 (lv_at hl 3 rfl) ?_
    refine lv_iload hx hb dX3_put_38 (lv_at hl 4 rfl) ?_
    refine x_callv (As := [.int (((xi σ c0 ((σ.1 c0) + 1)).1 c0) - 1), .long b0, .int p0, va_rf (r0.map ad), .int s0]) (rest := []) X hml G hA (xW_sh h0) rfl (c_Xsh_set l dC dI kc ad _ (xi σ c0 ((σ.1 c0) + 1)) c0 (((xi σ c0 ((σ.1 c0) + 1)).1 c0) - 1) b0 p0 r0 s0 h0 hr0) (cwV 5 hts gX3_put_X3_set rfl rfl rfl (by decide +kernel) ⟨Nat.le_of_ble_eq_true rfl, Nat.le_of_ble_eq_true rfl⟩) rfl hl.1 rfl (Nat.le_of_ble_eq_true rfl) dX3_put_40 ⟨Nat.zero_le _, Nat.zero_le _⟩ (fun u_40 H locs hw_40 G => ?_)
    exact xq_ret (x_vret X G hr hlocks (by simp only [Xsh_put, eq_true c_4, hw_40, ↓reduceIte]) dX3_put_43)
  · have c_4 : ¬ ((Xsh_isFull σ c0) = 0) := c_4
    obtain ⟨sa, hstr⟩ := zstr hz (own := RX3) (k := 64) (text := "too many items") (by decide +kernel)
    exact xq_thr (vx_throwS (own := RX3) (cls := "java/lang/UnsupportedOperationException") (text := "too many items") (names := ["java/lang/RuntimeException", "java/lang/Exception"]) hx hb hl9 hown (by decide +kernel) (by decide +kernel) (hts (.classLink RX3 62 "java/lang/UnsupportedOperationException") (by decide +kernel)) (hts (.initialized "java/lang/UnsupportedOperationException") (by decide +kernel)) hstr (zhat hz hts (by decide +kernel) (fun w hw => List.mem_cons_of_mem _ (List.mem_append_right _ hw)) (by decide +kernel)) (by decide +kernel) hz.2.1 hz.2.2.1 G.2.2 (hl.1.trans hml.symm) dX3_put_7 dX3_put_10 dX3_put_11 dX3_put_13 dX3_put_16 (fun x hx => (hEx x hx).elim) (Nat.le_of_ble_eq_true rfl) (Nat.le_of_ble_eq_true rfl) (Nat.le_of_ble_eq_true rfl) (Nat.le_of_ble_eq_true rfl) hlocks (fun t ha hsz hk => ⟨σ, trivial, ⟨(by simp only [Xsh_put, eq_false c_4, ↓reduceIte]), (y_kept X G ha hsz hk).1⟩, (y_kept X G ha hsz hk).2⟩) G.2.2.2.2 (Nat.le_of_ble_eq_true rfl) (Nat.le_of_ble_eq_true rfl))
def Xsh_putNumber (σ : XS) (c0 : Nat) (b0 : Int64) (p0 : Int32) : (String × XS) ⊕ XS := (match Xsh_put σ c0 b0 p0 ((none : Option Nat)) 0 with | .inl e9 => .inl e9 | .inr u5 => .inr u5)
set_option maxHeartbeats 4000000 in
set_option maxRecDepth 100000 in
theorem c_Xsh_putNumber (l : Launch) (hl9 : l.stackTraces = false) (dC : Nat → ClassId) (dI : Nat → Nat → Nat) (kc : Nat → ClassId) (ad : Nat → Nat) (sz : Nat) (σ : XS) (c0 : Nat) (b0 : Int64) (p0 : Int32) (h0 : c0 ∈ shN) : xq_Met l yX3_putNumber wsX3_putNumber ({ frames := 7, cells := 1, slots := 6, locals := 107 } : Room) (va_Pc [.ref (ad c0), .long b0, .int p0] (xPre dC dI kc ad sz σ)) (va_Qv (fun u => Xsh_putNumber σ c0 b0 p0 = .inr u) (xAt dC dI kc ad (xA kc ad σ sz)) (xA kc ad σ sz)) (xE (Xsh_putNumber σ c0 b0 p0) dC dI kc ad (xA kc ad σ sz)) 0 0 1 6 (xA kc ad σ sz) := by
  refine y_ofW (cc := cX3_putNumber) (maxL := 4) (ret := none) (by decide) rfl rfl (Nat.le_of_ble_eq_true rfl) ?_
  intro p e s m below meth c X G hA hr hlocks hml hEx ls hl
  have hl : lv_has ls 4 [(0, .ref (ad c0)), (1, .long b0), (3, .int p0)] := hl
  have hx := X.1
  have hb := X.2.1
  have hts := X.2.2.1
  have hown := X.2.2.2.1
  have hz := X.2.2.2.2.2
  have hin3 : ∀ w ∈ wsX30, w ∈ wsX3_putNumber := (fun w hw => List.mem_cons_of_mem _ (List.mem_append_left _ (List.mem_append_right _ hw)))
  refine lv_aload_n hx hb dX3_putNumber_0 rfl (lv_at hl 0 rfl) ?_
  refine lv_lload_n hx hb dX3_putNumber_1 rfl (lv_at hl 1 rfl) ?_
  refine lv_iload_n hx hb dX3_putNumber_2 rfl (lv_at hl 2 rfl) ?_
  refine lv_null hx hb dX3_putNumber_3 ?_
  refine lv_iconst (v := 0) hx hb dX3_putNumber_4 (by decide) ?_
  refine y_callv (As := [.long b0, .int p0, va_rf (((none : Option Nat)).map ad), .int 0]) (rest := []) X hml G hA hEx hlocks (xW_sh h0) rfl (c_Xsh_put l hl9 dC dI kc ad _ σ c0 b0 p0 ((none : Option Nat)) 0 h0 (fun _ h => by cases h)) (cwV 4 hts gX3_putNumber_X3_put rfl rfl rfl (by decide +kernel) ⟨Nat.le_of_ble_eq_true rfl, Nat.le_of_ble_eq_true rfl⟩) rfl hl.1 rfl (Nat.le_of_ble_eq_true rfl) dX3_putNumber_5 ⟨Nat.le_of_ble_eq_true rfl, Nat.le_of_ble_eq_true rfl⟩ (fun E u9 hw_5 => (by simp only [Xsh_putNumber, hw_5, ↓reduceIte])) (fun u_5 H locs hw_5 G => ?_)
  exact xq_ret (x_vret X G hr hlocks (by simp only [Xsh_putNumber, hw_5, ↓reduceIte]) dX3_putNumber_8)
def Xsh_putText (σ : XS) (c0 : Nat) (r0 : Option Nat) (s0 : Int32) (n0 : Int32) : (String × XS) ⊕ XS := (match Xsh_put σ c0 n0.toInt64 (-1) r0 s0 with | .inl e9 => .inl e9 | .inr u6 => .inr u6)
set_option maxHeartbeats 4000000 in
set_option maxRecDepth 100000 in
theorem c_Xsh_putText (l : Launch) (hl9 : l.stackTraces = false) (dC : Nat → ClassId) (dI : Nat → Nat → Nat) (kc : Nat → ClassId) (ad : Nat → Nat) (sz : Nat) (σ : XS) (c0 : Nat) (r0 : Option Nat) (s0 : Int32) (n0 : Int32) (h0 : c0 ∈ shN) (hr0 : ∀ n, r0 = some n → xv σ n) : xq_Met l yX3_putText wsX3_putText ({ frames := 7, cells := 1, slots := 6, locals := 107 } : Room) (va_Pc [.ref (ad c0), va_rf (r0.map ad), .int s0, .int n0] (xPre dC dI kc ad sz σ)) (va_Qv (fun u => Xsh_putText σ c0 r0 s0 n0 = .inr u) (xAt dC dI kc ad (xA kc ad σ sz)) (xA kc ad σ sz)) (xE (Xsh_putText σ c0 r0 s0 n0) dC dI kc ad (xA kc ad σ sz)) 0 0 1 6 (xA kc ad σ sz) := by
  refine y_ofW (cc := cX3_putText) (maxL := 4) (ret := none) (by decide) rfl rfl (by cases r0 <;> exact Nat.le_of_ble_eq_true rfl) ?_
  intro p e s m below meth c X G hA hr hlocks hml hEx ls hl
  have hl : lv_has ls 4 [(0, .ref (ad c0)), (1, va_rf (r0.map ad)), (2, .int s0), (3, .int n0)] := by cases r0 <;> exact hl
  have hx := X.1
  have hb := X.2.1
  have hts := X.2.2.1
  have hown := X.2.2.2.1
  have hz := X.2.2.2.2.2
  have hin3 : ∀ w ∈ wsX30, w ∈ wsX3_putText := (fun w hw => List.mem_cons_of_mem _ (List.mem_append_left _ (List.mem_append_right _ hw)))
  refine lv_aload_n hx hb dX3_putText_0 rfl (lv_at hl 0 rfl) ?_
  refine lv_iload_n hx hb dX3_putText_1 rfl (lv_at hl 3 rfl) ?_
  refine lv_i2l hx hb dX3_putText_2 rfl ?_
  refine lv_iconst (v := -1) hx hb dX3_putText_3 (by decide) ?_
  refine x_aload_nq hx hb dX3_putText_4 rfl (lv_at hl 1 rfl) ?_
  refine lv_iload_n hx hb dX3_putText_5 rfl (lv_at hl 2 rfl) ?_
  refine y_callv (As := [.long n0.toInt64, .int (-1), va_rf (r0.map ad), .int s0]) (rest := []) X hml G hA hEx hlocks (xW_sh h0) rfl (c_Xsh_put l hl9 dC dI kc ad _ σ c0 n0.toInt64 (-1) r0 s0 h0 hr0) (cwV 4 hts gX3_putText_X3_put rfl rfl rfl (by decide +kernel) ⟨Nat.le_of_ble_eq_true rfl, Nat.le_of_ble_eq_true rfl⟩) rfl hl.1 rfl (Nat.le_of_ble_eq_true rfl) dX3_putText_6 ⟨Nat.le_of_ble_eq_true rfl, Nat.le_of_ble_eq_true rfl⟩ (fun E u9 hw_6 => (by simp only [Xsh_putText, hw_6, ↓reduceIte])) (fun u_6 H locs hw_6 G => ?_)
  exact xq_ret (x_vret X G hr hlocks (by simp only [Xsh_putText, hw_6, ↓reduceIte]) dX3_putText_9)
def xWF (σ : XS) : Prop := (∀ (c i n : Nat), σ.2.2.2.1 c i = some n → xv σ n) ∧ xv σ σ.2.2.2.2.1
theorem rowAt_v {σ : XS} {c0 : Nat} {i0 : Int32} (h : xWF σ) : ∀ n, Xsh_rowAt σ c0 i0 = some n → xv σ n := by
  intro n hn
  unfold Xsh_rowAt at hn
  split at hn
  · cases hn
  · exact h.1 _ _ _ hn
theorem xWF_xr {σ : XS} {k j : Nat} {r : Option Nat} (h : xWF σ) (hr : ∀ n, r = some n → xv σ n) : xWF (xr σ k j r) := by
  refine ⟨fun c i n hn => ?_, h.2⟩
  have hn : (if c = k then va_up (σ.2.2.2.1 k) j r else σ.2.2.2.1 c) i = some n := hn
  show xv σ n
  split at hn
  · unfold va_up at hn
    split at hn
    · exact hr n hn
    · exact h.1 _ _ _ hn
  · exact h.1 _ _ _ hn
theorem set_wf {σ : XS} {c0 : Nat} {i0 : Int32} {b0 : Int64} {p0 : Int32} {r0 : Option Nat} {s0 : Int32} (h : xWF σ) (hr : ∀ n, r0 = some n → xv σ n) : xWF (Xsh_set σ c0 i0 b0 p0 r0 s0) := by
  unfold Xsh_set
  split
  · exact h
  · exact xWF_xr (σ := xa (xb σ (c0 + 1) i0.toNatClampNeg b0) (c0 + 2) i0.toNatClampNeg p0) h hr
theorem drop_wf {σ : XS} {c0 : Nat} {i0 : Int32} (h : xWF σ) : xWF (Xsh_drop σ c0 i0) := h
theorem clear_wf {σ : XS} {c0 : Nat} (h : xWF σ) : xWF (Xsh_clear σ c0) := h
theorem put_wf {σ u : XS} {c0 : Nat} {b0 : Int64} {p0 : Int32} {r0 : Option Nat} {s0 : Int32} (h : xWF σ) (hr : ∀ n, r0 = some n → xv σ n) (hw : Xsh_put σ c0 b0 p0 r0 s0 = .inr u) : xWF u := by
  unfold Xsh_put at hw
  split at hw
  · injection hw with hw; rw [← hw]; exact set_wf (σ := xi σ c0 (σ.1 c0 + 1)) h hr
  · cases hw
theorem putNumber_wf {σ u : XS} {c0 : Nat} {b0 : Int64} {p0 : Int32} (h : xWF σ) (hw : Xsh_putNumber σ c0 b0 p0 = .inr u) : xWF u := by
  unfold Xsh_putNumber at hw
  split at hw
  · cases hw
  · rename_i h9; injection hw with hw; rw [← hw]; exact put_wf h (fun _ h => by cases h) h9
theorem putText_wf {σ u : XS} {c0 : Nat} {r0 : Option Nat} {s0 n0 : Int32} (h : xWF σ) (hr : ∀ n, r0 = some n → xv σ n) (hw : Xsh_putText σ c0 r0 s0 n0 = .inr u) : xWF u := by
  unfold Xsh_putText at hw
  split at hw
  · cases hw
  · rename_i h9; injection hw with hw; rw [← hw]; exact put_wf h hr h9
def Xsh_putTopOf (σ : XS) (c0 : Nat) (d0 : Nat) : (String × XS) ⊕ XS := (match Xsh_put σ c0 (Xsh_valueAt σ d0 (Xsh_slotBelowTop σ d0 0)) (Xsh_placesAt σ d0 (Xsh_slotBelowTop σ d0 0)) ((Xsh_rowAt σ d0 (Xsh_slotBelowTop σ d0 0))) (Xsh_startAt σ d0 (Xsh_slotBelowTop σ d0 0)) with | .inl e9 => .inl e9 | .inr u27 => .inr u27)
set_option maxHeartbeats 4000000 in
set_option maxRecDepth 100000 in
theorem c_Xsh_putTopOf (l : Launch) (hl9 : l.stackTraces = false) (dC : Nat → ClassId) (dI : Nat → Nat → Nat) (kc : Nat → ClassId) (ad : Nat → Nat) (sz : Nat) (σ : XS) (c0 : Nat) (d0 : Nat) (h0 : c0 ∈ shN) (h_d0 : d0 ∈ shN) (hrv : xWF σ) : xq_Met l yX3_putTopOf wsX3_putTopOf ({ frames := 7, cells := 1, slots := 6, locals := 107 } : Room) (va_Pc [.ref (ad c0), .ref (ad d0)] (xPre dC dI kc ad sz σ)) (va_Qv (fun u => Xsh_putTopOf σ c0 d0 = .inr u) (xAt dC dI kc ad (xA kc ad σ sz)) (xA kc ad σ sz)) (xE (Xsh_putTopOf σ c0 d0) dC dI kc ad (xA kc ad σ sz)) 0 0 1 6 (xA kc ad σ sz) := by
  refine y_ofW (cc := cX3_putTopOf) (maxL := 3) (ret := none) (by decide) rfl rfl (Nat.le_of_ble_eq_true rfl) ?_
  intro p e s m below meth c X G hA hr hlocks hml hEx ls hl
  have hl : lv_has ls 3 [(0, .ref (ad c0)), (1, .ref (ad d0))] := hl
  have hx := X.1
  have hb := X.2.1
  have hts := X.2.2.1
  have hown := X.2.2.2.1
  have hz := X.2.2.2.2.2
  have hin3 : ∀ w ∈ wsX30, w ∈ wsX3_putTopOf := (fun w hw => List.mem_cons_of_mem _ (List.mem_append_left _ (List.mem_append_right _ hw)))
  refine lv_aload_n hx hb dX3_putTopOf_0 rfl (lv_at hl 1 rfl) ?_
  refine lv_iconst (v := 0) hx hb dX3_putTopOf_1 (by decide) ?_
  refine x_calli (As := [.int 0]) (rest := []) X hml G hA (xW_sh h_d0) rfl (c_Xsh_slotBelowTop l dC dI kc ad _ σ d0 0 h_d0) (cwV 1 hts gX3_putTopOf_X3_slotBelowTop rfl rfl rfl (by decide +kernel) ⟨Nat.le_of_ble_eq_true rfl, Nat.le_of_ble_eq_true rfl⟩) rfl hl.1 rfl (Nat.le_of_ble_eq_true rfl) dX3_putTopOf_2 ⟨Nat.zero_le _, Nat.zero_le _⟩ (fun r_2 u_2 H locs hw_2 G => ?_)
  obtain ⟨rfl, hu_2⟩ := hw_2
  rw [hu_2] at G
  refine lv_istore_n (lv' := [(2, .int (Xsh_slotBelowTop σ d0 0)), (0, .ref (ad c0)), (1, .ref (ad d0))]) hx hb dX3_putTopOf_5 rfl hl (by decide) rfl (fun ls hl => ?_)
  refine lv_aload_n hx hb dX3_putTopOf_6 rfl (lv_at hl 1 rfl) ?_
  refine lv_aload_n hx hb dX3_putTopOf_7 rfl (lv_at hl 2 rfl) ?_
  refine lv_iload_n hx hb dX3_putTopOf_8 rfl (lv_at hl 0 rfl) ?_
  refine x_calll (As := [.int (Xsh_slotBelowTop σ d0 0)]) (rest := [.ref (ad c0)]) X hml G hA (xW_sh h_d0) rfl (c_Xsh_valueAt l dC dI kc ad _ σ d0 (Xsh_slotBelowTop σ d0 0) h_d0) (cwV 1 hts gX3_putTopOf_X3_valueAt rfl rfl rfl (by decide +kernel) ⟨Nat.le_of_ble_eq_true rfl, Nat.le_of_ble_eq_true rfl⟩) rfl hl.1 rfl (Nat.le_of_ble_eq_true rfl) dX3_putTopOf_9 ⟨Nat.zero_le _, Nat.zero_le _⟩ (fun r_9 u_9 H locs hw_9 G => ?_)
  obtain ⟨rfl, hu_9⟩ := hw_9
  rw [hu_9] at G
  refine lv_aload_n hx hb dX3_putTopOf_12 rfl (lv_at hl 2 rfl) ?_
  refine lv_iload_n hx hb dX3_putTopOf_13 rfl (lv_at hl 0 rfl) ?_
  refine x_calli (As := [.int (Xsh_slotBelowTop σ d0 0)]) (rest := [.long (Xsh_valueAt σ d0 (Xsh_slotBelowTop σ d0 0)), .ref (ad c0)]) X hml G hA (xW_sh h_d0) rfl (c_Xsh_placesAt l dC dI kc ad _ σ d0 (Xsh_slotBelowTop σ d0 0) h_d0) (cwV 1 hts gX3_putTopOf_X3_placesAt rfl rfl rfl (by decide +kernel) ⟨Nat.le_of_ble_eq_true rfl, Nat.le_of_ble_eq_true rfl⟩) rfl hl.1 rfl (Nat.le_of_ble_eq_true rfl) dX3_putTopOf_14 ⟨Nat.zero_le _, Nat.zero_le _⟩ (fun r_14 u_14 H locs hw_14 G => ?_)
  obtain ⟨rfl, hu_14⟩ := hw_14
  rw [hu_14] at G
  refine lv_aload_n hx hb dX3_putTopOf_17 rfl (lv_at hl 2 rfl) ?_
  refine lv_iload_n hx hb dX3_putTopOf_18 rfl (lv_at hl 0 rfl) ?_
  refine x_callq (As := [.int (Xsh_slotBelowTop σ d0 0)]) (rest := [.int (Xsh_placesAt σ d0 (Xsh_slotBelowTop σ d0 0)), .long (Xsh_valueAt σ d0 (Xsh_slotBelowTop σ d0 0)), .ref (ad c0)]) X hml G hA (xW_sh h_d0) rfl (c_Xsh_rowAt l dC dI kc ad _ σ d0 (Xsh_slotBelowTop σ d0 0) h_d0) (cwV 1 hts gX3_putTopOf_X3_rowAt rfl rfl rfl (by decide +kernel) ⟨Nat.le_of_ble_eq_true rfl, Nat.le_of_ble_eq_true rfl⟩) rfl hl.1 rfl (Nat.le_of_ble_eq_true rfl) dX3_putTopOf_19 ⟨Nat.zero_le _, Nat.zero_le _⟩ (fun r_19 u_19 H locs hw_19 G => ?_)
  obtain ⟨_, rfl, rfl, hu_19⟩ := hw_19
  rw [hu_19] at G
  refine lv_aload_n hx hb dX3_putTopOf_22 rfl (lv_at hl 2 rfl) ?_
  refine lv_iload_n hx hb dX3_putTopOf_23 rfl (lv_at hl 0 rfl) ?_
  refine x_calli (As := [.int (Xsh_slotBelowTop σ d0 0)]) (rest := [va_rf ((Xsh_rowAt σ d0 (Xsh_slotBelowTop σ d0 0)).map ad), .int (Xsh_placesAt σ d0 (Xsh_slotBelowTop σ d0 0)), .long (Xsh_valueAt σ d0 (Xsh_slotBelowTop σ d0 0)), .ref (ad c0)]) X hml G hA (xW_sh h_d0) rfl (c_Xsh_startAt l dC dI kc ad _ σ d0 (Xsh_slotBelowTop σ d0 0) h_d0) (cwV 1 hts gX3_putTopOf_X3_startAt rfl rfl rfl (by decide +kernel) ⟨Nat.le_of_ble_eq_true rfl, Nat.le_of_ble_eq_true rfl⟩) rfl hl.1 rfl (by simp only [List.map_cons, List.map_nil, va_rf_cat]; exact Nat.le_of_ble_eq_true rfl) dX3_putTopOf_24 ⟨Nat.zero_le _, Nat.zero_le _⟩ (fun r_24 u_24 H locs hw_24 G => ?_)
  obtain ⟨rfl, hu_24⟩ := hw_24
  rw [hu_24] at G
  refine y_callv (As := [.long (Xsh_valueAt σ d0 (Xsh_slotBelowTop σ d0 0)), .int (Xsh_placesAt σ d0 (Xsh_slotBelowTop σ d0 0)), va_rf (((Xsh_rowAt σ d0 (Xsh_slotBelowTop σ d0 0))).map ad), .int (Xsh_startAt σ d0 (Xsh_slotBelowTop σ d0 0))]) (rest := []) X hml G hA hEx hlocks (xW_sh h0) rfl (c_Xsh_put l hl9 dC dI kc ad _ σ c0 (Xsh_valueAt σ d0 (Xsh_slotBelowTop σ d0 0)) (Xsh_placesAt σ d0 (Xsh_slotBelowTop σ d0 0)) ((Xsh_rowAt σ d0 (Xsh_slotBelowTop σ d0 0))) (Xsh_startAt σ d0 (Xsh_slotBelowTop σ d0 0)) h0 (rowAt_v hrv)) (cwV 4 hts gX3_putTopOf_X3_put rfl rfl rfl (by decide +kernel) ⟨Nat.le_of_ble_eq_true rfl, Nat.le_of_ble_eq_true rfl⟩) rfl hl.1 rfl (Nat.le_of_ble_eq_true rfl) dX3_putTopOf_27 ⟨Nat.le_of_ble_eq_true rfl, Nat.le_of_ble_eq_true rfl⟩ (fun E u9 hw_27 => (by simp only [Xsh_putTopOf, hw_27, ↓reduceIte])) (fun u_27 H locs hw_27 G => ?_)
  have hv_27 : xWF u_27 := put_wf hrv (rowAt_v hrv) hw_27
  exact xq_ret (x_vret X G hr hlocks (by simp only [Xsh_putTopOf, hw_27, ↓reduceIte]) dX3_putTopOf_30)
theorem set_v {σ : XS} {c0 : Nat} {i0 : Int32} {b0 : Int64} {p0 : Int32} {r0 : Option Nat} {s0 : Int32} {n : Nat} (h : xv σ n) : xv (Xsh_set σ c0 i0 b0 p0 r0 s0) n := by
  unfold Xsh_set
  split
  · exact h
  · exact h
def Xsh_swapTopTwo (σ : XS) (c0 : Nat) : XS := let q_61 := Xsh_set σ c0 (Xsh_slotBelowTop σ c0 0) (Xsh_valueAt σ c0 (Xsh_slotBelowTop σ c0 1)) (Xsh_placesAt σ c0 (Xsh_slotBelowTop σ c0 1)) ((Xsh_rowAt σ c0 (Xsh_slotBelowTop σ c0 1))) (Xsh_startAt σ c0 (Xsh_slotBelowTop σ c0 1)); let q_73 := Xsh_set q_61 c0 (Xsh_slotBelowTop σ c0 1) (Xsh_valueAt σ c0 (Xsh_slotBelowTop σ c0 0)) (Xsh_placesAt σ c0 (Xsh_slotBelowTop σ c0 0)) ((Xsh_rowAt σ c0 (Xsh_slotBelowTop σ c0 0))) (Xsh_startAt σ c0 (Xsh_slotBelowTop σ c0 0)); q_73
set_option maxHeartbeats 4000000 in
set_option maxRecDepth 100000 in
theorem c_Xsh_swapTopTwo (l : Launch) (dC : Nat → ClassId) (dI : Nat → Nat → Nat) (kc : Nat → ClassId) (ad : Nat → Nat) (sz : Nat) (σ : XS) (c0 : Nat) (h0 : c0 ∈ shN) (hrv : xWF σ) : Met l yX3_swapTopTwo wsX3_swapTopTwo ({ frames := 2, cells := 0, slots := 0, locals := 47 } : Room) (va_Pc [.ref (ad c0)] (xPre dC dI kc ad sz σ)) (va_Qv (fun u => Xsh_swapTopTwo σ c0 = u) (xAt dC dI kc ad (xA kc ad σ sz)) (xA kc ad σ sz)) 0 0 (xA kc ad σ sz) := by
  refine x_ofW (cc := cX3_swapTopTwo) (maxL := 8) (ret := none) (by decide) rfl rfl (Nat.le_of_ble_eq_true rfl) ?_
  intro p e s m below meth c X G hA hr hlocks hml ls hl
  have hl : lv_has ls 8 [(0, .ref (ad c0))] := hl
  have hx := X.1
  have hb := X.2.1
  have hts := X.2.2.1
  have hown := X.2.2.2.1
  have hz := X.2.2.2.2.2
  have hin3 : ∀ w ∈ wsX30, w ∈ wsX3_swapTopTwo := (fun w hw => List.mem_cons_of_mem _ (List.mem_append_right _ hw))
  refine lv_aload_n hx hb dX3_swapTopTwo_0 rfl (lv_at hl 0 rfl) ?_
  refine lv_iconst (v := 0) hx hb dX3_swapTopTwo_1 (by decide) ?_
  refine x_calli (As := [.int 0]) (rest := []) X hml G hA (xW_sh h0) rfl (c_Xsh_slotBelowTop l dC dI kc ad _ σ c0 0 h0) (cwV 1 hts gX3_swapTopTwo_X3_slotBelowTop rfl rfl rfl (by decide +kernel) ⟨Nat.le_of_ble_eq_true rfl, Nat.le_of_ble_eq_true rfl⟩) rfl hl.1 rfl (Nat.le_of_ble_eq_true rfl) dX3_swapTopTwo_2 ⟨Nat.zero_le _, Nat.zero_le _⟩ (fun r_2 u_2 H locs hw_2 G => ?_)
  obtain ⟨rfl, hu_2⟩ := hw_2
  rw [hu_2] at G
  refine lv_istore_n (lv' := [(1, .int (Xsh_slotBelowTop σ c0 0)), (0, .ref (ad c0))]) hx hb dX3_swapTopTwo_5 rfl hl (by decide) rfl (fun ls hl => ?_)
  refine lv_aload_n hx hb dX3_swapTopTwo_6 rfl (lv_at hl 1 rfl) ?_
  refine lv_iconst (v := 1) hx hb dX3_swapTopTwo_7 (by decide) ?_
  refine x_calli (As := [.int 1]) (rest := []) X hml G hA (xW_sh h0) rfl (c_Xsh_slotBelowTop l dC dI kc ad _ σ c0 1 h0) (cwV 1 hts gX3_swapTopTwo_X3_slotBelowTop rfl rfl rfl (by decide +kernel) ⟨Nat.le_of_ble_eq_true rfl, Nat.le_of_ble_eq_true rfl⟩) rfl hl.1 rfl (Nat.le_of_ble_eq_true rfl) dX3_swapTopTwo_8 ⟨Nat.zero_le _, Nat.zero_le _⟩ (fun r_8 u_8 H locs hw_8 G => ?_)
  obtain ⟨rfl, hu_8⟩ := hw_8
  rw [hu_8] at G
  refine lv_istore_n (lv' := [(2, .int (Xsh_slotBelowTop σ c0 1)), (1, .int (Xsh_slotBelowTop σ c0 0)), (0, .ref (ad c0))]) hx hb dX3_swapTopTwo_11 rfl hl (by decide) rfl (fun ls hl => ?_)
  refine lv_aload_n hx hb dX3_swapTopTwo_12 rfl (lv_at hl 2 rfl) ?_
  refine lv_iload_n hx hb dX3_swapTopTwo_13 rfl (lv_at hl 1 rfl) ?_
  refine x_calll (As := [.int (Xsh_slotBelowTop σ c0 0)]) (rest := []) X hml G hA (xW_sh h0) rfl (c_Xsh_valueAt l dC dI kc ad _ σ c0 (Xsh_slotBelowTop σ c0 0) h0) (cwV 1 hts gX3_swapTopTwo_X3_valueAt rfl rfl rfl (by decide +kernel) ⟨Nat.le_of_ble_eq_true rfl, Nat.le_of_ble_eq_true rfl⟩) rfl hl.1 rfl (Nat.le_of_ble_eq_true rfl) dX3_swapTopTwo_14 ⟨Nat.zero_le _, Nat.zero_le _⟩ (fun r_14 u_14 H locs hw_14 G => ?_)
  obtain ⟨rfl, hu_14⟩ := hw_14
  rw [hu_14] at G
  refine lv_lstore_n (lv' := [(3, .long (Xsh_valueAt σ c0 (Xsh_slotBelowTop σ c0 0))), (2, .int (Xsh_slotBelowTop σ c0 1)), (1, .int (Xsh_slotBelowTop σ c0 0)), (0, .ref (ad c0))]) hx hb dX3_swapTopTwo_17 rfl hl (by decide) rfl (fun ls hl => ?_)
  refine lv_aload_n hx hb dX3_swapTopTwo_18 rfl (lv_at hl 3 rfl) ?_
  refine lv_iload_n hx hb dX3_swapTopTwo_19 rfl (lv_at hl 2 rfl) ?_
  refine x_calli (As := [.int (Xsh_slotBelowTop σ c0 0)]) (rest := []) X hml G hA (xW_sh h0) rfl (c_Xsh_placesAt l dC dI kc ad _ σ c0 (Xsh_slotBelowTop σ c0 0) h0) (cwV 1 hts gX3_swapTopTwo_X3_placesAt rfl rfl rfl (by decide +kernel) ⟨Nat.le_of_ble_eq_true rfl, Nat.le_of_ble_eq_true rfl⟩) rfl hl.1 rfl (Nat.le_of_ble_eq_true rfl) dX3_swapTopTwo_20 ⟨Nat.zero_le _, Nat.zero_le _⟩ (fun r_20 u_20 H locs hw_20 G => ?_)
  obtain ⟨rfl, hu_20⟩ := hw_20
  rw [hu_20] at G
  refine lv_istore (lv' := [(5, .int (Xsh_placesAt σ c0 (Xsh_slotBelowTop σ c0 0))), (3, .long (Xsh_valueAt σ c0 (Xsh_slotBelowTop σ c0 0))), (2, .int (Xsh_slotBelowTop σ c0 1)), (1, .int (Xsh_slotBelowTop σ c0 0)), (0, .ref (ad c0))]) hx hb dX3_swapTopTwo_23 hl (by decide) rfl (fun ls hl => ?_)
  refine lv_aload_n hx hb dX3_swapTopTwo_25 rfl (lv_at hl 4 rfl) ?_
  refine lv_iload_n hx hb dX3_swapTopTwo_26 rfl (lv_at hl 3 rfl) ?_
  refine x_callq (As := [.int (Xsh_slotBelowTop σ c0 0)]) (rest := []) X hml G hA (xW_sh h0) rfl (c_Xsh_rowAt l dC dI kc ad _ σ c0 (Xsh_slotBelowTop σ c0 0) h0) (cwV 1 hts gX3_swapTopTwo_X3_rowAt rfl rfl rfl (by decide +kernel) ⟨Nat.le_of_ble_eq_true rfl, Nat.le_of_ble_eq_true rfl⟩) rfl hl.1 rfl (Nat.le_of_ble_eq_true rfl) dX3_swapTopTwo_27 ⟨Nat.zero_le _, Nat.zero_le _⟩ (fun r_27 u_27 H locs hw_27 G => ?_)
  obtain ⟨_, rfl, rfl, hu_27⟩ := hw_27
  rw [hu_27] at G
  refine x_astoreq (lv' := [(6, va_rf ((Xsh_rowAt σ c0 (Xsh_slotBelowTop σ c0 0)).map ad)), (5, .int (Xsh_placesAt σ c0 (Xsh_slotBelowTop σ c0 0))), (3, .long (Xsh_valueAt σ c0 (Xsh_slotBelowTop σ c0 0))), (2, .int (Xsh_slotBelowTop σ c0 1)), (1, .int (Xsh_slotBelowTop σ c0 0)), (0, .ref (ad c0))]) hx hb dX3_swapTopTwo_30 hl (by decide) rfl (fun ls hl => ?_)
  refine lv_aload_n hx hb dX3_swapTopTwo_32 rfl (lv_at hl 5 rfl) ?_
  refine lv_iload_n hx hb dX3_swapTopTwo_33 rfl (lv_at hl 4 rfl) ?_
  refine x_calli (As := [.int (Xsh_slotBelowTop σ c0 0)]) (rest := []) X hml G hA (xW_sh h0) rfl (c_Xsh_startAt l dC dI kc ad _ σ c0 (Xsh_slotBelowTop σ c0 0) h0) (cwV 1 hts gX3_swapTopTwo_X3_startAt rfl rfl rfl (by decide +kernel) ⟨Nat.le_of_ble_eq_true rfl, Nat.le_of_ble_eq_true rfl⟩) rfl hl.1 rfl (Nat.le_of_ble_eq_true rfl) dX3_swapTopTwo_34 ⟨Nat.zero_le _, Nat.zero_le _⟩ (fun r_34 u_34 H locs hw_34 G => ?_)
  obtain ⟨rfl, hu_34⟩ := hw_34
  rw [hu_34] at G
  refine lv_istore (lv' := [(7, .int (Xsh_startAt σ c0 (Xsh_slotBelowTop σ c0 0))), (6, va_rf ((Xsh_rowAt σ c0 (Xsh_slotBelowTop σ c0 0)).map ad)), (5, .int (Xsh_placesAt σ c0 (Xsh_slotBelowTop σ c0 0))), (3, .long (Xsh_valueAt σ c0 (Xsh_slotBelowTop σ c0 0))), (2, .int (Xsh_slotBelowTop σ c0 1)), (1, .int (Xsh_slotBelowTop σ c0 0)), (0, .ref (ad c0))]) hx hb dX3_swapTopTwo_37 hl (by decide) (by simp [List.filter_cons, va_rf_cat]) (fun ls hl => ?_)
  refine lv_aload_n hx hb dX3_swapTopTwo_39 rfl (lv_at hl 6 rfl) ?_
  refine lv_iload_n hx hb dX3_swapTopTwo_40 rfl (lv_at hl 5 rfl) ?_
  refine lv_aload_n hx hb dX3_swapTopTwo_41 rfl (lv_at hl 6 rfl) ?_
  refine lv_iload_n hx hb dX3_swapTopTwo_42 rfl (lv_at hl 4 rfl) ?_
  refine x_calll (As := [.int (Xsh_slotBelowTop σ c0 1)]) (rest := [.int (Xsh_slotBelowTop σ c0 0), .ref (ad c0)]) X hml G hA (xW_sh h0) rfl (c_Xsh_valueAt l dC dI kc ad _ σ c0 (Xsh_slotBelowTop σ c0 1) h0) (cwV 1 hts gX3_swapTopTwo_X3_valueAt rfl rfl rfl (by decide +kernel) ⟨Nat.le_of_ble_eq_true rfl, Nat.le_of_ble_eq_true rfl⟩) rfl hl.1 rfl (Nat.le_of_ble_eq_true rfl) dX3_swapTopTwo_43 ⟨Nat.zero_le _, Nat.zero_le _⟩ (fun r_43 u_43 H locs hw_43 G => ?_)
  obtain ⟨rfl, hu_43⟩ := hw_43
  rw [hu_43] at G
  refine lv_aload_n hx hb dX3_swapTopTwo_46 rfl (lv_at hl 6 rfl) ?_
  refine lv_iload_n hx hb dX3_swapTopTwo_47 rfl (lv_at hl 4 rfl) ?_
  refine x_calli (As := [.int (Xsh_slotBelowTop σ c0 1)]) (rest := [.long (Xsh_valueAt σ c0 (Xsh_slotBelowTop σ c0 1)), .int (Xsh_slotBelowTop σ c0 0), .ref (ad c0)]) X hml G hA (xW_sh h0) rfl (c_Xsh_placesAt l dC dI kc ad _ σ c0 (Xsh_slotBelowTop σ c0 1) h0) (cwV 1 hts gX3_swapTopTwo_X3_placesAt rfl rfl rfl (by decide +kernel) ⟨Nat.le_of_ble_eq_true rfl, Nat.le_of_ble_eq_true rfl⟩) rfl hl.1 rfl (Nat.le_of_ble_eq_true rfl) dX3_swapTopTwo_48 ⟨Nat.zero_le _, Nat.zero_le _⟩ (fun r_48 u_48 H locs hw_48 G => ?_)
  obtain ⟨rfl, hu_48⟩ := hw_48
  rw [hu_48] at G
  refine lv_aload_n hx hb dX3_swapTopTwo_51 rfl (lv_at hl 6 rfl) ?_
  refine lv_iload_n hx hb dX3_swapTopTwo_52 rfl (lv_at hl 4 rfl) ?_
  refine x_callq (As := [.int (Xsh_slotBelowTop σ c0 1)]) (rest := [.int (Xsh_placesAt σ c0 (Xsh_slotBelowTop σ c0 1)), .long (Xsh_valueAt σ c0 (Xsh_slotBelowTop σ c0 1)), .int (Xsh_slotBelowTop σ c0 0), .ref (ad c0)]) X hml G hA (xW_sh h0) rfl (c_Xsh_rowAt l dC dI kc ad _ σ c0 (Xsh_slotBelowTop σ c0 1) h0) (cwV 1 hts gX3_swapTopTwo_X3_rowAt rfl rfl rfl (by decide +kernel) ⟨Nat.le_of_ble_eq_true rfl, Nat.le_of_ble_eq_true rfl⟩) rfl hl.1 rfl (Nat.le_of_ble_eq_true rfl) dX3_swapTopTwo_53 ⟨Nat.zero_le _, Nat.zero_le _⟩ (fun r_53 u_53 H locs hw_53 G => ?_)
  obtain ⟨_, rfl, rfl, hu_53⟩ := hw_53
  rw [hu_53] at G
  refine lv_aload_n hx hb dX3_swapTopTwo_56 rfl (lv_at hl 6 rfl) ?_
  refine lv_iload_n hx hb dX3_swapTopTwo_57 rfl (lv_at hl 4 rfl) ?_
  refine x_calli (As := [.int (Xsh_slotBelowTop σ c0 1)]) (rest := [va_rf ((Xsh_rowAt σ c0 (Xsh_slotBelowTop σ c0 1)).map ad), .int (Xsh_placesAt σ c0 (Xsh_slotBelowTop σ c0 1)), .long (Xsh_valueAt σ c0 (Xsh_slotBelowTop σ c0 1)), .int (Xsh_slotBelowTop σ c0 0), .ref (ad c0)]) X hml G hA (xW_sh h0) rfl (c_Xsh_startAt l dC dI kc ad _ σ c0 (Xsh_slotBelowTop σ c0 1) h0) (cwV 1 hts gX3_swapTopTwo_X3_startAt rfl rfl rfl (by decide +kernel) ⟨Nat.le_of_ble_eq_true rfl, Nat.le_of_ble_eq_true rfl⟩) rfl hl.1 rfl (by simp only [List.map_cons, List.map_nil, va_rf_cat]; exact Nat.le_of_ble_eq_true rfl) dX3_swapTopTwo_58 ⟨Nat.zero_le _, Nat.zero_le _⟩ (fun r_58 u_58 H locs hw_58 G => ?_)
  obtain ⟨rfl, hu_58⟩ := hw_58
  rw [hu_58] at G
  refine x_callv (As := [.int (Xsh_slotBelowTop σ c0 0), .long (Xsh_valueAt σ c0 (Xsh_slotBelowTop σ c0 1)), .int (Xsh_placesAt σ c0 (Xsh_slotBelowTop σ c0 1)), va_rf (((Xsh_rowAt σ c0 (Xsh_slotBelowTop σ c0 1))).map ad), .int (Xsh_startAt σ c0 (Xsh_slotBelowTop σ c0 1))]) (rest := []) X hml G hA (xW_sh h0) rfl (c_Xsh_set l dC dI kc ad _ σ c0 (Xsh_slotBelowTop σ c0 0) (Xsh_valueAt σ c0 (Xsh_slotBelowTop σ c0 1)) (Xsh_placesAt σ c0 (Xsh_slotBelowTop σ c0 1)) ((Xsh_rowAt σ c0 (Xsh_slotBelowTop σ c0 1))) (Xsh_startAt σ c0 (Xsh_slotBelowTop σ c0 1)) h0 (rowAt_v hrv)) (cwV 5 hts gX3_swapTopTwo_X3_set rfl rfl rfl (by decide +kernel) ⟨Nat.le_of_ble_eq_true rfl, Nat.le_of_ble_eq_true rfl⟩) rfl hl.1 rfl (Nat.le_of_ble_eq_true rfl) dX3_swapTopTwo_61 ⟨Nat.zero_le _, Nat.zero_le _⟩ (fun u_61 H locs hw_61 G => ?_)
  have hv_61 : xWF u_61 := by have h9 : xWF (Xsh_set σ c0 (Xsh_slotBelowTop σ c0 0) (Xsh_valueAt σ c0 (Xsh_slotBelowTop σ c0 1)) (Xsh_placesAt σ c0 (Xsh_slotBelowTop σ c0 1)) ((Xsh_rowAt σ c0 (Xsh_slotBelowTop σ c0 1))) (Xsh_startAt σ c0 (Xsh_slotBelowTop σ c0 1))) := set_wf hrv (rowAt_v hrv); rw [hw_61] at h9; exact h9
  refine lv_aload_n hx hb dX3_swapTopTwo_64 rfl (lv_at hl 6 rfl) ?_
  refine lv_iload_n hx hb dX3_swapTopTwo_65 rfl (lv_at hl 4 rfl) ?_
  refine lv_lload_n hx hb dX3_swapTopTwo_66 rfl (lv_at hl 3 rfl) ?_
  refine lv_iload hx hb dX3_swapTopTwo_67 (lv_at hl 2 rfl) ?_
  refine x_aloadq hx hb dX3_swapTopTwo_69 (lv_at hl 1 rfl) ?_
  refine lv_iload hx hb dX3_swapTopTwo_71 (lv_at hl 0 rfl) ?_
  refine x_callv (As := [.int (Xsh_slotBelowTop σ c0 1), .long (Xsh_valueAt σ c0 (Xsh_slotBelowTop σ c0 0)), .int (Xsh_placesAt σ c0 (Xsh_slotBelowTop σ c0 0)), va_rf (((Xsh_rowAt σ c0 (Xsh_slotBelowTop σ c0 0))).map ad), .int (Xsh_startAt σ c0 (Xsh_slotBelowTop σ c0 0))]) (rest := []) X hml G hA (xW_sh h0) rfl (c_Xsh_set l dC dI kc ad _ u_61 c0 (Xsh_slotBelowTop σ c0 1) (Xsh_valueAt σ c0 (Xsh_slotBelowTop σ c0 0)) (Xsh_placesAt σ c0 (Xsh_slotBelowTop σ c0 0)) ((Xsh_rowAt σ c0 (Xsh_slotBelowTop σ c0 0))) (Xsh_startAt σ c0 (Xsh_slotBelowTop σ c0 0)) h0 (fun n hn => by rw [← hw_61]; exact set_v (rowAt_v hrv n hn))) (cwV 5 hts gX3_swapTopTwo_X3_set rfl rfl rfl (by decide +kernel) ⟨Nat.le_of_ble_eq_true rfl, Nat.le_of_ble_eq_true rfl⟩) rfl hl.1 rfl (Nat.le_of_ble_eq_true rfl) dX3_swapTopTwo_73 ⟨Nat.zero_le _, Nat.zero_le _⟩ (fun u_73 H locs hw_73 G => ?_)
  have hv_73 : xWF u_73 := by have h9 : xWF (Xsh_set u_61 c0 (Xsh_slotBelowTop σ c0 1) (Xsh_valueAt σ c0 (Xsh_slotBelowTop σ c0 0)) (Xsh_placesAt σ c0 (Xsh_slotBelowTop σ c0 0)) ((Xsh_rowAt σ c0 (Xsh_slotBelowTop σ c0 0))) (Xsh_startAt σ c0 (Xsh_slotBelowTop σ c0 0))) := set_wf hv_61 (fun n hn => by rw [← hw_61]; exact set_v (rowAt_v hrv n hn)); rw [hw_73] at h9; exact h9
  exact x_vret X G hr hlocks (by simp only [Xsh_swapTopTwo, hw_61, hw_73, ↓reduceIte]) dX3_swapTopTwo_76
theorem putTopOf_wf {σ u : XS} {c0 d0 : Nat} (h : xWF σ) (hw : Xsh_putTopOf σ c0 d0 = .inr u) : xWF u := by
  unfold Xsh_putTopOf at hw
  split at hw
  · cases hw
  · rename_i h9; injection hw with hw; rw [← hw]; exact put_wf h (rowAt_v h) h9
theorem swapTopTwo_wf {σ : XS} {c0 : Nat} (h : xWF σ) : xWF (Xsh_swapTopTwo σ c0) := by
  unfold Xsh_swapTopTwo
  exact set_wf (set_wf h (rowAt_v h)) (fun n hn => set_v (rowAt_v h n hn))
end
section
theorem nest_in {i : Int32} (h0 : ¬ i < 0) (h1 : i < 12) : vp_in i 12 := by
  rw [vp_in_iff]
  rw [Int32.lt_iff_toInt_lt] at h0 h1
  have z0 : (0 : Int32).toInt = 0 := rfl
  have z1 : (12 : Int32).toInt = 12 := rfl
  omega
def Xnest_isUnderWay (σ : XS) : Int32 := if (σ.1 2) ≤ 0 then 0 else if 12 < (σ.1 2) then 0 else 1
theorem nest_uw {σ : XS} (h : ¬ Xnest_isUnderWay σ = 0) : 0 < (σ.1 2).toInt ∧ (σ.1 2).toInt ≤ 12 := by
  unfold Xnest_isUnderWay at h
  have z0 : (0 : Int32).toInt = 0 := rfl
  have z1 : (12 : Int32).toInt = 12 := rfl
  by_cases h1 : σ.1 2 ≤ 0
  · exact absurd (by simp only [h1, ↓reduceIte]) h
  · by_cases h2 : 12 < σ.1 2
    · exact absurd (by simp only [h1, h2, ↓reduceIte]) h
    · rw [Int32.le_iff_toInt_le] at h1
      rw [Int32.lt_iff_toInt_lt] at h2
      omega
theorem nest_top {σ : XS} (h : ¬ Xnest_isUnderWay σ = 0) : vp_in (σ.1 2 - 1) 12 := by
  obtain ⟨h1, h2⟩ := nest_uw h
  exact vin (i_subE rfl (show (1 : Int32).toInt = 1 from rfl) (by omega) (by omega)) (by omega) (by omega)
set_option maxHeartbeats 4000000 in
set_option maxRecDepth 100000 in
theorem c_Xnest_isUnderWay (l : Launch) (dC : Nat → ClassId) (dI : Nat → Nat → Nat) (kc : Nat → ClassId) (ad : Nat → Nat) (sz : Nat) (σ : XS) : Met l yX1_isUnderWay wsX1_isUnderWay ({ frames := 0, cells := 0, slots := 0, locals := 0 } : Room) (va_Pc [.ref (ad 2)] (xPre dC dI kc ad sz σ)) (va_Qi (fun r u => r = Xnest_isUnderWay σ ∧ u = σ) (xAt dC dI kc ad (xA kc ad σ sz)) (xA kc ad σ sz)) 0 0 (xA kc ad σ sz) := by
  refine x_ofW (cc := cX1_isUnderWay) (maxL := 1) (ret := (some .boolean)) (by decide) rfl rfl (Nat.le_of_ble_eq_true rfl) ?_
  intro p e s m below meth c X G hA hr hlocks hml ls hl
  have hl : lv_has ls 1 [(0, .ref (ad 2))] := hl
  have hx := X.1
  have hb := X.2.1
  have hts := X.2.2.1
  have hown := X.2.2.2.1
  have hz := X.2.2.2.2.2
  have hin1 : ∀ w ∈ wsX10, w ∈ wsX1_isUnderWay := (fun w hw => List.mem_cons_of_mem _ (List.mem_append_right _ hw))
  refine lv_aload_n hx hb dX1_isUnderWay_0 rfl (lv_at hl 0 rfl) ?_
  refine x_nget_3 X G hin1 (by decide +kernel) dX1_isUnderWay_1 ?_
  refine lv_if_le (tgt := 23) hx hb dX1_isUnderWay_4 (by decide) (fun c_4 => ?_) (fun c_4 => ?_)
  · have c_4 : (σ.1 2) ≤ 0 := c_4
    refine lv_iconst (v := 0) hx hb dX1_isUnderWay_23 (by decide) ?_
    exact x_zret (v := 0) X G hr hlocks rfl ⟨(by simp only [Xnest_isUnderWay, eq_true c_4, ↓reduceIte]), rfl⟩ dX1_isUnderWay_24
  · have c_4 : ¬ ((σ.1 2) ≤ 0) := c_4
    refine lv_aload_n hx hb dX1_isUnderWay_7 rfl (lv_at hl 0 rfl) ?_
    refine x_nget_3 X G hin1 (by decide +kernel) dX1_isUnderWay_8 ?_
    refine lv_aload_n hx hb dX1_isUnderWay_11 rfl (lv_at hl 0 rfl) ?_
    refine x_nget_0 X G hin1 (by decide +kernel) dX1_isUnderWay_12 ?_
    refine x_alenQ (v := 12) X G xQ_3 rfl dX1_isUnderWay_15 ?_
    refine lv_icmp_gt (tgt := 23) hx hb dX1_isUnderWay_16 (by decide) (fun c_16 => ?_) (fun c_16 => ?_)
    · have c_16 : 12 < (σ.1 2) := c_16
      refine lv_iconst (v := 0) hx hb dX1_isUnderWay_23 (by decide) ?_
      exact x_zret (v := 0) X G hr hlocks rfl ⟨(by simp only [Xnest_isUnderWay, eq_false c_4, eq_true c_16, ↓reduceIte]), rfl⟩ dX1_isUnderWay_24
    · have c_16 : ¬ (12 < (σ.1 2)) := c_16
      refine lv_iconst (v := 1) hx hb dX1_isUnderWay_19 (by decide) ?_
      refine lv_goto (tgt := 24) hx hb dX1_isUnderWay_20 (by decide) ?_
      exact x_zret (v := 1) X G hr hlocks rfl ⟨(by simp only [Xnest_isUnderWay, eq_false c_4, eq_false c_16, ↓reduceIte]), rfl⟩ dX1_isUnderWay_24
def Xnest_enter (σ : XS) (r0 : Option Nat) (s0 : Int32) (n0 : Int32) : (String × XS) ⊕ XS := if (σ.1 2) < 0 then (.inl ("java/lang/UnsupportedOperationException", σ)) else if (σ.1 2) < 12 then (.inr (xi (xa (xa (xr σ 3 (σ.1 2).toNatClampNeg r0) 4 ((xr σ 3 (σ.1 2).toNatClampNeg r0).1 2).toNatClampNeg s0) 5 ((xa (xr σ 3 (σ.1 2).toNatClampNeg r0) 4 ((xr σ 3 (σ.1 2).toNatClampNeg r0).1 2).toNatClampNeg s0).1 2).toNatClampNeg (s0 + n0)) 2 (((xa (xa (xr σ 3 (σ.1 2).toNatClampNeg r0) 4 ((xr σ 3 (σ.1 2).toNatClampNeg r0).1 2).toNatClampNeg s0) 5 ((xa (xr σ 3 (σ.1 2).toNatClampNeg r0) 4 ((xr σ 3 (σ.1 2).toNatClampNeg r0).1 2).toNatClampNeg s0).1 2).toNatClampNeg (s0 + n0)).1 2) + 1))) else .inl ("java/lang/UnsupportedOperationException", σ)
set_option maxHeartbeats 4000000 in
set_option maxRecDepth 100000 in
theorem c_Xnest_enter (l : Launch) (hl9 : l.stackTraces = false) (dC : Nat → ClassId) (dI : Nat → Nat → Nat) (kc : Nat → ClassId) (ad : Nat → Nat) (sz : Nat) (σ : XS) (r0 : Option Nat) (s0 : Int32) (n0 : Int32) (hr0 : ∀ n, r0 = some n → xv σ n) : xq_Met l yX1_enter wsX1_enter ({ frames := 6, cells := 1, slots := 6, locals := 82 } : Room) (va_Pc [.ref (ad 2), va_rf (r0.map ad), .int s0, .int n0] (xPre dC dI kc ad sz σ)) (va_Qv (fun u => Xnest_enter σ r0 s0 n0 = .inr u) (xAt dC dI kc ad (xA kc ad σ sz)) (xA kc ad σ sz)) (xE (Xnest_enter σ r0 s0 n0) dC dI kc ad (xA kc ad σ sz)) 0 0 1 6 (xA kc ad σ sz) := by
  refine y_ofW (cc := cX1_enter) (maxL := 4) (ret := none) (by decide) rfl rfl (by cases r0 <;> exact Nat.le_of_ble_eq_true rfl) ?_
  intro p e s m below meth c X G hA hr hlocks hml hEx ls hl
  have hl : lv_has ls 4 [(0, .ref (ad 2)), (1, va_rf (r0.map ad)), (2, .int s0), (3, .int n0)] := by cases r0 <;> exact hl
  have hx := X.1
  have hb := X.2.1
  have hts := X.2.2.1
  have hown := X.2.2.2.1
  have hz := X.2.2.2.2.2
  have hin1 : ∀ w ∈ wsX10, w ∈ wsX1_enter := (fun w hw => List.mem_cons_of_mem _ (List.mem_append_left _ (List.mem_append_right _ hw)))
  refine lv_aload_n hx hb dX1_enter_0 rfl (lv_at hl 0 rfl) ?_
  refine x_nget_3 X G hin1 (by decide +kernel) dX1_enter_1 ?_
  refine lv_if_lt (tgt := 19) hx hb dX1_enter_4 (by decide) (fun c_4 => ?_) (fun c_4 => ?_)
  · have c_4 : (σ.1 2) < 0 := c_4
    obtain ⟨sa, hstr⟩ := zstr hz (own := RX1) (k := 30) (text := "too many texts under way") (by decide +kernel)
    exact xq_thr (vx_throwS (own := RX1) (cls := "java/lang/UnsupportedOperationException") (text := "too many texts under way") (names := ["java/lang/RuntimeException", "java/lang/Exception"]) hx hb hl9 hown (by decide +kernel) (by decide +kernel) (hts (.classLink RX1 28 "java/lang/UnsupportedOperationException") (by decide +kernel)) (hts (.initialized "java/lang/UnsupportedOperationException") (by decide +kernel)) hstr (zhat hz hts (by decide +kernel) (fun w hw => List.mem_cons_of_mem _ (List.mem_append_right _ hw)) (by decide +kernel)) (by decide +kernel) hz.2.1 hz.2.2.1 G.2.2 (hl.1.trans hml.symm) dX1_enter_19 dX1_enter_22 dX1_enter_23 dX1_enter_25 dX1_enter_28 (fun x hx => (hEx x hx).elim) (Nat.le_of_ble_eq_true rfl) (Nat.le_of_ble_eq_true rfl) (Nat.le_of_ble_eq_true rfl) (Nat.le_of_ble_eq_true rfl) hlocks (fun t ha hsz hk => ⟨σ, trivial, ⟨(by simp only [Xnest_enter, eq_true c_4, ↓reduceIte]), (y_kept X G ha hsz hk).1⟩, (y_kept X G ha hsz hk).2⟩) G.2.2.2.2 (Nat.le_of_ble_eq_true rfl) (Nat.le_of_ble_eq_true rfl))
  · have c_4 : ¬ ((σ.1 2) < 0) := c_4
    refine lv_aload_n hx hb dX1_enter_7 rfl (lv_at hl 0 rfl) ?_
    refine x_nget_3 X G hin1 (by decide +kernel) dX1_enter_8 ?_
    refine lv_aload_n hx hb dX1_enter_11 rfl (lv_at hl 0 rfl) ?_
    refine x_nget_0 X G hin1 (by decide +kernel) dX1_enter_12 ?_
    refine x_alenQ (v := 12) X G xQ_3 rfl dX1_enter_15 ?_
    refine lv_icmp_lt (tgt := 29) hx hb dX1_enter_16 (by decide) (fun c_16 => ?_) (fun c_16 => ?_)
    · have c_16 : (σ.1 2) < 12 := c_16
      refine lv_aload_n hx hb dX1_enter_29 rfl (lv_at hl 0 rfl) ?_
      refine x_nget_0 X G hin1 (by decide +kernel) dX1_enter_30 ?_
      refine lv_aload_n hx hb dX1_enter_33 rfl (lv_at hl 0 rfl) ?_
      refine x_nget_3 X G hin1 (by decide +kernel) dX1_enter_34 ?_
      refine x_aload_nq hx hb dX1_enter_37 rfl (lv_at hl 1 rfl) ?_
      refine x_qst (v := r0) X G xQ_3 hr0 (nest_in c_4 c_16) dX1_enter_38 (fun H locs G => ?_)
      have G : xH dC dI kc ad (xr σ 3 (σ.1 2).toNatClampNeg r0) _ s.heap H locs := G
      refine lv_aload_n hx hb dX1_enter_39 rfl (lv_at hl 0 rfl) ?_
      refine x_nget_1 X G hin1 (by decide +kernel) dX1_enter_40 ?_
      refine lv_aload_n hx hb dX1_enter_43 rfl (lv_at hl 0 rfl) ?_
      refine x_nget_3 X G hin1 (by decide +kernel) dX1_enter_44 ?_
      refine lv_iload_n hx hb dX1_enter_47 rfl (lv_at hl 2 rfl) ?_
      refine x_ist X G xI_4 (nest_in c_4 c_16) dX1_enter_48 (fun H locs G => ?_)
      have G : xH dC dI kc ad (xa (xr σ 3 (σ.1 2).toNatClampNeg r0) 4 ((xr σ 3 (σ.1 2).toNatClampNeg r0).1 2).toNatClampNeg s0) _ s.heap H locs := G
      refine lv_aload_n hx hb dX1_enter_49 rfl (lv_at hl 0 rfl) ?_
      refine x_nget_2 X G hin1 (by decide +kernel) dX1_enter_50 ?_
      refine lv_aload_n hx hb dX1_enter_53 rfl (lv_at hl 0 rfl) ?_
      refine x_nget_3 X G hin1 (by decide +kernel) dX1_enter_54 ?_
      refine lv_iload_n hx hb dX1_enter_57 rfl (lv_at hl 2 rfl) ?_
      refine lv_iload_n hx hb dX1_enter_58 rfl (lv_at hl 3 rfl) ?_
      refine lv_iadd hx hb dX1_enter_59 ?_
      refine x_ist X G xI_5 (nest_in c_4 c_16) dX1_enter_60 (fun H locs G => ?_)
      have G : xH dC dI kc ad (xa (xa (xr σ 3 (σ.1 2).toNatClampNeg r0) 4 ((xr σ 3 (σ.1 2).toNatClampNeg r0).1 2).toNatClampNeg s0) 5 ((xa (xr σ 3 (σ.1 2).toNatClampNeg r0) 4 ((xr σ 3 (σ.1 2).toNatClampNeg r0).1 2).toNatClampNeg s0).1 2).toNatClampNeg (s0 + n0)) _ s.heap H locs := G
      refine lv_aload_n hx hb dX1_enter_61 rfl (lv_at hl 0 rfl) ?_
      refine lv_dup hx hb dX1_enter_62 rfl ?_
      refine x_nget_3 X G hin1 (by decide +kernel) dX1_enter_63 ?_
      refine lv_iconst (v := 1) hx hb dX1_enter_66 (by decide) ?_
      refine lv_iadd hx hb dX1_enter_67 ?_
      refine x_nput_3 X G hin1 (by decide +kernel) dX1_enter_68 (fun H locs G => ?_)
      have G : xH dC dI kc ad (xi (xa (xa (xr σ 3 (σ.1 2).toNatClampNeg r0) 4 ((xr σ 3 (σ.1 2).toNatClampNeg r0).1 2).toNatClampNeg s0) 5 ((xa (xr σ 3 (σ.1 2).toNatClampNeg r0) 4 ((xr σ 3 (σ.1 2).toNatClampNeg r0).1 2).toNatClampNeg s0).1 2).toNatClampNeg (s0 + n0)) 2 (((xa (xa (xr σ 3 (σ.1 2).toNatClampNeg r0) 4 ((xr σ 3 (σ.1 2).toNatClampNeg r0).1 2).toNatClampNeg s0) 5 ((xa (xr σ 3 (σ.1 2).toNatClampNeg r0) 4 ((xr σ 3 (σ.1 2).toNatClampNeg r0).1 2).toNatClampNeg s0).1 2).toNatClampNeg (s0 + n0)).1 2) + 1)) _ s.heap H locs := G
      exact xq_ret (x_vret X G hr hlocks (by simp only [Xnest_enter, eq_false c_4, eq_true c_16, ↓reduceIte]) dX1_enter_71)
    · have c_16 : ¬ ((σ.1 2) < 12) := c_16
      obtain ⟨sa, hstr⟩ := zstr hz (own := RX1) (k := 30) (text := "too many texts under way") (by decide +kernel)
      exact xq_thr (vx_throwS (own := RX1) (cls := "java/lang/UnsupportedOperationException") (text := "too many texts under way") (names := ["java/lang/RuntimeException", "java/lang/Exception"]) hx hb hl9 hown (by decide +kernel) (by decide +kernel) (hts (.classLink RX1 28 "java/lang/UnsupportedOperationException") (by decide +kernel)) (hts (.initialized "java/lang/UnsupportedOperationException") (by decide +kernel)) hstr (zhat hz hts (by decide +kernel) (fun w hw => List.mem_cons_of_mem _ (List.mem_append_right _ hw)) (by decide +kernel)) (by decide +kernel) hz.2.1 hz.2.2.1 G.2.2 (hl.1.trans hml.symm) dX1_enter_19 dX1_enter_22 dX1_enter_23 dX1_enter_25 dX1_enter_28 (fun x hx => (hEx x hx).elim) (Nat.le_of_ble_eq_true rfl) (Nat.le_of_ble_eq_true rfl) (Nat.le_of_ble_eq_true rfl) (Nat.le_of_ble_eq_true rfl) hlocks (fun t ha hsz hk => ⟨σ, trivial, ⟨(by simp only [Xnest_enter, eq_false c_4, eq_false c_16, ↓reduceIte]), (y_kept X G ha hsz hk).1⟩, (y_kept X G ha hsz hk).2⟩) G.2.2.2.2 (Nat.le_of_ble_eq_true rfl) (Nat.le_of_ble_eq_true rfl))
def Xnest_leave (σ : XS) : XS := (xi σ 2 (if (0 : Int32) < ((σ.1 2) - 1) then ((σ.1 2) - 1) else (0 : Int32)))
set_option maxHeartbeats 4000000 in
set_option maxRecDepth 100000 in
theorem c_Xnest_leave (l : Launch) (dC : Nat → ClassId) (dI : Nat → Nat → Nat) (kc : Nat → ClassId) (ad : Nat → Nat) (sz : Nat) (σ : XS) : Met l yX1_leave wsX1_leave ({ frames := 1, cells := 0, slots := 0, locals := 14 } : Room) (va_Pc [.ref (ad 2)] (xPre dC dI kc ad sz σ)) (va_Qv (fun u => Xnest_leave σ = u) (xAt dC dI kc ad (xA kc ad σ sz)) (xA kc ad σ sz)) 0 0 (xA kc ad σ sz) := by
  refine x_ofW (cc := cX1_leave) (maxL := 1) (ret := none) (by decide) rfl rfl (Nat.le_of_ble_eq_true rfl) ?_
  intro p e s m below meth c X G hA hr hlocks hml ls hl
  have hl : lv_has ls 1 [(0, .ref (ad 2))] := hl
  have hx := X.1
  have hb := X.2.1
  have hts := X.2.2.1
  have hown := X.2.2.2.1
  have hz := X.2.2.2.2.2
  have hin1 : ∀ w ∈ wsX10, w ∈ wsX1_leave := (fun w hw => List.mem_cons_of_mem _ (List.mem_append_right _ hw))
  refine lv_aload_n hx hb dX1_leave_0 rfl (lv_at hl 0 rfl) ?_
  refine lv_iconst (v := 0) hx hb dX1_leave_1 (by decide) ?_
  refine lv_aload_n hx hb dX1_leave_2 rfl (lv_at hl 0 rfl) ?_
  refine x_nget_3 X G hin1 (by decide +kernel) dX1_leave_3 ?_
  refine lv_iconst (v := 1) hx hb dX1_leave_6 (by decide) ?_
  refine lv_isub hx hb dX1_leave_7 ?_
  refine va_mmax (own := RX1) hx hb (hml.trans hl.1.symm) hown (hts (.methodLink RX1 49 Lib.Math.max.name) (by decide +kernel)) (hts (.static Lib.Math.max.name) (by decide +kernel)) (hts (.initialized "java/lang/Math") (by decide +kernel)) (hts (.code Lib.Math.max.name Lib.Math.max.code 2 (some .int)) (by decide +kernel)) (Nat.le_of_ble_eq_true rfl) (Nat.le_of_ble_eq_true rfl) (Nat.le_of_ble_eq_true rfl) (Nat.le_of_ble_eq_true rfl) dX1_leave_8 ?_
  refine x_nput_3 X G hin1 (by decide +kernel) dX1_leave_11 (fun H locs G => ?_)
  have G : xH dC dI kc ad (xi σ 2 (if (0 : Int32) < ((σ.1 2) - 1) then ((σ.1 2) - 1) else (0 : Int32))) _ s.heap H locs := G
  exact x_vret X G hr hlocks (by simp only [Xnest_leave, ↓reduceIte]) dX1_leave_14
def Xnest_leaveAll (σ : XS) : XS := (xi σ 2 0)
set_option maxHeartbeats 4000000 in
set_option maxRecDepth 100000 in
theorem c_Xnest_leaveAll (l : Launch) (dC : Nat → ClassId) (dI : Nat → Nat → Nat) (kc : Nat → ClassId) (ad : Nat → Nat) (sz : Nat) (σ : XS) : Met l yX1_leaveAll wsX1_leaveAll ({ frames := 0, cells := 0, slots := 0, locals := 0 } : Room) (va_Pc [.ref (ad 2)] (xPre dC dI kc ad sz σ)) (va_Qv (fun u => Xnest_leaveAll σ = u) (xAt dC dI kc ad (xA kc ad σ sz)) (xA kc ad σ sz)) 0 0 (xA kc ad σ sz) := by
  refine x_ofW (cc := cX1_leaveAll) (maxL := 1) (ret := none) (by decide) rfl rfl (Nat.le_of_ble_eq_true rfl) ?_
  intro p e s m below meth c X G hA hr hlocks hml ls hl
  have hl : lv_has ls 1 [(0, .ref (ad 2))] := hl
  have hx := X.1
  have hb := X.2.1
  have hts := X.2.2.1
  have hown := X.2.2.2.1
  have hz := X.2.2.2.2.2
  have hin1 : ∀ w ∈ wsX10, w ∈ wsX1_leaveAll := (fun w hw => List.mem_cons_of_mem _ (List.mem_append_right _ hw))
  refine lv_aload_n hx hb dX1_leaveAll_0 rfl (lv_at hl 0 rfl) ?_
  refine lv_iconst (v := 0) hx hb dX1_leaveAll_1 (by decide) ?_
  refine x_nput_3 X G hin1 (by decide +kernel) dX1_leaveAll_2 (fun H locs G => ?_)
  have G : xH dC dI kc ad (xi σ 2 0) _ s.heap H locs := G
  exact x_vret X G hr hlocks (by simp only [Xnest_leaveAll, ↓reduceIte]) dX1_leaveAll_5
def Xnest_innermostRow (σ : XS) : Option Nat := if (Xnest_isUnderWay σ) = 0 then (((none : Option Nat))) else ((σ.2.2.2.1 3 ((σ.1 2) - 1).toNatClampNeg))
set_option maxHeartbeats 4000000 in
set_option maxRecDepth 100000 in
theorem c_Xnest_innermostRow (l : Launch) (dC : Nat → ClassId) (dI : Nat → Nat → Nat) (kc : Nat → ClassId) (ad : Nat → Nat) (sz : Nat) (σ : XS) : Met l yX1_innermostRow wsX1_innermostRow ({ frames := 1, cells := 0, slots := 0, locals := 20 } : Room) (va_Pc [.ref (ad 2)] (xPre dC dI kc ad sz σ)) (va_Qq (fun r u => ∃ o : Option Nat, r = o.map ad ∧ o = Xnest_innermostRow σ ∧ u = σ) (xAt dC dI kc ad (xA kc ad σ sz)) (xA kc ad σ sz)) 0 0 (xA kc ad σ sz) := by
  refine x_ofW (cc := cX1_innermostRow) (maxL := 1) (ret := (some (.object "DeskStack$Row"))) (by decide) rfl rfl (Nat.le_of_ble_eq_true rfl) ?_
  intro p e s m below meth c X G hA hr hlocks hml ls hl
  have hl : lv_has ls 1 [(0, .ref (ad 2))] := hl
  have hx := X.1
  have hb := X.2.1
  have hts := X.2.2.1
  have hown := X.2.2.2.1
  have hz := X.2.2.2.2.2
  have hin1 : ∀ w ∈ wsX10, w ∈ wsX1_innermostRow := (fun w hw => List.mem_cons_of_mem _ (List.mem_append_right _ hw))
  refine lv_aload_n hx hb dX1_innermostRow_0 rfl (lv_at hl 0 rfl) ?_
  refine x_calli (As := []) (rest := []) X hml G hA xW_nest rfl (c_Xnest_isUnderWay l dC dI kc ad _ σ) (cwV 0 hts gX1_innermostRow_X1_isUnderWay rfl rfl rfl (by decide +kernel) ⟨Nat.le_of_ble_eq_true rfl, Nat.le_of_ble_eq_true rfl⟩) rfl hl.1 rfl (Nat.le_of_ble_eq_true rfl) dX1_innermostRow_1 ⟨Nat.zero_le _, Nat.zero_le _⟩ (fun r_1 u_1 H locs hw_1 G => ?_)
  obtain ⟨rfl, hu_1⟩ := hw_1
  rw [hu_1] at G
  refine lv_if_eq (tgt := 21) hx hb dX1_innermostRow_4 (by decide) (fun c_4 => ?_) (fun c_4 => ?_)
  · have c_4 : (Xnest_isUnderWay σ) = 0 := c_4
    refine lv_null hx hb dX1_innermostRow_21 ?_
    exact x_qret (o := ((none : Option Nat)).map ad) X G hr hlocks ⟨((none : Option Nat)), rfl, ⟨(by simp only [Xnest_innermostRow, eq_true c_4, ↓reduceIte]), rfl⟩⟩ dX1_innermostRow_22
  · have c_4 : ¬ ((Xnest_isUnderWay σ) = 0) := c_4
    refine lv_aload_n hx hb dX1_innermostRow_7 rfl (lv_at hl 0 rfl) ?_
    refine x_nget_0 X G hin1 (by decide +kernel) dX1_innermostRow_8 ?_
    refine lv_aload_n hx hb dX1_innermostRow_11 rfl (lv_at hl 0 rfl) ?_
    refine x_nget_3 X G hin1 (by decide +kernel) dX1_innermostRow_12 ?_
    refine lv_iconst (v := 1) hx hb dX1_innermostRow_15 (by decide) ?_
    refine lv_isub hx hb dX1_innermostRow_16 ?_
    refine x_qld X G xQ_3 (nest_top c_4) dX1_innermostRow_17 ?_
    refine lv_goto (tgt := 22) hx hb dX1_innermostRow_18 (by decide) ?_
    exact x_qret (o := ((σ.2.2.2.1 3 ((σ.1 2) - 1).toNatClampNeg)).map ad) X G hr hlocks ⟨((σ.2.2.2.1 3 ((σ.1 2) - 1).toNatClampNeg)), rfl, ⟨(by simp only [Xnest_innermostRow, eq_false c_4, ↓reduceIte]), rfl⟩⟩ dX1_innermostRow_22
def Xnest_position (σ : XS) : Int32 := if (Xnest_isUnderWay σ) = 0 then 0 else (σ.2.1 4 ((σ.1 2) - 1).toNatClampNeg)
set_option maxHeartbeats 4000000 in
set_option maxRecDepth 100000 in
theorem c_Xnest_position (l : Launch) (dC : Nat → ClassId) (dI : Nat → Nat → Nat) (kc : Nat → ClassId) (ad : Nat → Nat) (sz : Nat) (σ : XS) : Met l yX1_position wsX1_position ({ frames := 1, cells := 0, slots := 0, locals := 20 } : Room) (va_Pc [.ref (ad 2)] (xPre dC dI kc ad sz σ)) (va_Qi (fun r u => r = Xnest_position σ ∧ u = σ) (xAt dC dI kc ad (xA kc ad σ sz)) (xA kc ad σ sz)) 0 0 (xA kc ad σ sz) := by
  refine x_ofW (cc := cX1_position) (maxL := 1) (ret := (some .int)) (by decide) rfl rfl (Nat.le_of_ble_eq_true rfl) ?_
  intro p e s m below meth c X G hA hr hlocks hml ls hl
  have hl : lv_has ls 1 [(0, .ref (ad 2))] := hl
  have hx := X.1
  have hb := X.2.1
  have hts := X.2.2.1
  have hown := X.2.2.2.1
  have hz := X.2.2.2.2.2
  have hin1 : ∀ w ∈ wsX10, w ∈ wsX1_position := (fun w hw => List.mem_cons_of_mem _ (List.mem_append_right _ hw))
  refine lv_aload_n hx hb dX1_position_0 rfl (lv_at hl 0 rfl) ?_
  refine x_calli (As := []) (rest := []) X hml G hA xW_nest rfl (c_Xnest_isUnderWay l dC dI kc ad _ σ) (cwV 0 hts gX1_position_X1_isUnderWay rfl rfl rfl (by decide +kernel) ⟨Nat.le_of_ble_eq_true rfl, Nat.le_of_ble_eq_true rfl⟩) rfl hl.1 rfl (Nat.le_of_ble_eq_true rfl) dX1_position_1 ⟨Nat.zero_le _, Nat.zero_le _⟩ (fun r_1 u_1 H locs hw_1 G => ?_)
  obtain ⟨rfl, hu_1⟩ := hw_1
  rw [hu_1] at G
  refine lv_if_eq (tgt := 21) hx hb dX1_position_4 (by decide) (fun c_4 => ?_) (fun c_4 => ?_)
  · have c_4 : (Xnest_isUnderWay σ) = 0 := c_4
    refine lv_iconst (v := 0) hx hb dX1_position_21 (by decide) ?_
    exact x_iret (v := 0) X G hr hlocks ⟨(by simp only [Xnest_position, eq_true c_4, ↓reduceIte]), rfl⟩ dX1_position_22
  · have c_4 : ¬ ((Xnest_isUnderWay σ) = 0) := c_4
    refine lv_aload_n hx hb dX1_position_7 rfl (lv_at hl 0 rfl) ?_
    refine x_nget_1 X G hin1 (by decide +kernel) dX1_position_8 ?_
    refine lv_aload_n hx hb dX1_position_11 rfl (lv_at hl 0 rfl) ?_
    refine x_nget_3 X G hin1 (by decide +kernel) dX1_position_12 ?_
    refine lv_iconst (v := 1) hx hb dX1_position_15 (by decide) ?_
    refine lv_isub hx hb dX1_position_16 ?_
    refine x_ild X G xI_4 (nest_top c_4) dX1_position_17 ?_
    refine lv_goto (tgt := 22) hx hb dX1_position_18 (by decide) ?_
    exact x_iret (v := (σ.2.1 4 ((σ.1 2) - 1).toNatClampNeg)) X G hr hlocks ⟨(by simp only [Xnest_position, eq_false c_4, ↓reduceIte]), rfl⟩ dX1_position_22
def Xnest_look (σ : XS) : Int32 := if (Xnest_isUnderWay σ) = 0 then 0 else if (σ.2.1 4 ((σ.1 2) - 1).toNatClampNeg) < (σ.2.1 5 ((σ.1 2) - 1).toNatClampNeg) then ((match (σ.2.2.2.1 3 ((σ.1 2) - 1).toNatClampNeg) with | none => 0 | some n47 => (Xrow_charAt σ n47 (σ.2.1 4 ((σ.1 2) - 1).toNatClampNeg)))) else 0
set_option maxHeartbeats 4000000 in
set_option maxRecDepth 100000 in
theorem c_Xnest_look (l : Launch) (dC : Nat → ClassId) (dI : Nat → Nat → Nat) (kc : Nat → ClassId) (ad : Nat → Nat) (sz : Nat) (σ : XS) (hrv : xWF σ) : Met l yX1_look wsX1_look ({ frames := 1, cells := 0, slots := 0, locals := 21 } : Room) (va_Pc [.ref (ad 2)] (xPre dC dI kc ad sz σ)) (va_Qi (fun r u => r = Xnest_look σ ∧ u = σ) (xAt dC dI kc ad (xA kc ad σ sz)) (xA kc ad σ sz)) 0 0 (xA kc ad σ sz) := by
  refine x_ofW (cc := cX1_look) (maxL := 2) (ret := (some .int)) (by decide) rfl rfl (Nat.le_of_ble_eq_true rfl) ?_
  intro p e s m below meth c X G hA hr hlocks hml ls hl
  have hl : lv_has ls 2 [(0, .ref (ad 2))] := hl
  have hx := X.1
  have hb := X.2.1
  have hts := X.2.2.1
  have hown := X.2.2.2.1
  have hz := X.2.2.2.2.2
  have hin2 : ∀ w ∈ wsX20, w ∈ wsX1_look := (fun w hw => List.mem_cons_of_mem _ (List.mem_append_right _ hw))
  have hin1 : ∀ w ∈ wsX10, w ∈ wsX1_look := (fun w hw => List.mem_cons_of_mem _ (List.mem_append_left _ (List.mem_append_right _ hw)))
  refine lv_aload_n hx hb dX1_look_0 rfl (lv_at hl 0 rfl) ?_
  refine x_calli (As := []) (rest := []) X hml G hA xW_nest rfl (c_Xnest_isUnderWay l dC dI kc ad _ σ) (cwV 0 hts gX1_look_X1_isUnderWay rfl rfl rfl (by decide +kernel) ⟨Nat.le_of_ble_eq_true rfl, Nat.le_of_ble_eq_true rfl⟩) rfl hl.1 rfl (Nat.le_of_ble_eq_true rfl) dX1_look_1 ⟨Nat.zero_le _, Nat.zero_le _⟩ (fun r_1 u_1 H locs hw_1 G => ?_)
  obtain ⟨rfl, hu_1⟩ := hw_1
  rw [hu_1] at G
  refine lv_if_eq (tgt := 32) hx hb dX1_look_4 (by decide) (fun c_4 => ?_) (fun c_4 => ?_)
  · have c_4 : (Xnest_isUnderWay σ) = 0 := c_4
    refine lv_iconst (v := 0) hx hb dX1_look_32 (by decide) ?_
    exact x_iret (v := 0) X G hr hlocks ⟨(by simp only [Xnest_look, eq_true c_4, ↓reduceIte]), rfl⟩ dX1_look_33
  · have c_4 : ¬ ((Xnest_isUnderWay σ) = 0) := c_4
    refine lv_aload_n hx hb dX1_look_7 rfl (lv_at hl 0 rfl) ?_
    refine x_nget_1 X G hin1 (by decide +kernel) dX1_look_8 ?_
    refine lv_aload_n hx hb dX1_look_11 rfl (lv_at hl 0 rfl) ?_
    refine x_nget_3 X G hin1 (by decide +kernel) dX1_look_12 ?_
    refine lv_iconst (v := 1) hx hb dX1_look_15 (by decide) ?_
    refine lv_isub hx hb dX1_look_16 ?_
    refine x_ild X G xI_4 (nest_top c_4) dX1_look_17 ?_
    refine lv_aload_n hx hb dX1_look_18 rfl (lv_at hl 0 rfl) ?_
    refine x_nget_2 X G hin1 (by decide +kernel) dX1_look_19 ?_
    refine lv_aload_n hx hb dX1_look_22 rfl (lv_at hl 0 rfl) ?_
    refine x_nget_3 X G hin1 (by decide +kernel) dX1_look_23 ?_
    refine lv_iconst (v := 1) hx hb dX1_look_26 (by decide) ?_
    refine lv_isub hx hb dX1_look_27 ?_
    refine x_ild X G xI_5 (nest_top c_4) dX1_look_28 ?_
    refine lv_icmp_lt (tgt := 34) hx hb dX1_look_29 (by decide) (fun c_29 => ?_) (fun c_29 => ?_)
    · have c_29 : (σ.2.1 4 ((σ.1 2) - 1).toNatClampNeg) < (σ.2.1 5 ((σ.1 2) - 1).toNatClampNeg) := c_29
      refine lv_aload_n hx hb dX1_look_34 rfl (lv_at hl 0 rfl) ?_
      refine x_nget_0 X G hin1 (by decide +kernel) dX1_look_35 ?_
      refine lv_aload_n hx hb dX1_look_38 rfl (lv_at hl 0 rfl) ?_
      refine x_nget_3 X G hin1 (by decide +kernel) dX1_look_39 ?_
      refine lv_iconst (v := 1) hx hb dX1_look_42 (by decide) ?_
      refine lv_isub hx hb dX1_look_43 ?_
      refine x_qld X G xQ_3 (nest_top c_4) dX1_look_44 ?_
      refine x_astore_nq (lv' := [(1, va_rf ((σ.2.2.2.1 3 ((σ.1 2) - 1).toNatClampNeg).map ad)), (0, .ref (ad 2))]) hx hb dX1_look_45 rfl hl (by decide) rfl (fun ls hl => ?_)
      refine x_aload_nq hx hb dX1_look_46 rfl (lv_at hl 0 rfl) ?_
      refine x_ifnonnull (o := (σ.2.2.2.1 3 ((σ.1 2) - 1).toNatClampNeg)) (tgt := 54) hx hb dX1_look_47 (by decide) (fun n_47x n_47 => ?_) (fun n_47 => ?_)
      · have n_47 := n_47
        have hl : lv_has ls 2 [(1, .ref (ad n_47x)), (0, .ref (ad 2))] := by rw [n_47] at hl; exact hl
        refine lv_aload_n hx hb dX1_look_54 rfl (lv_at hl 0 rfl) ?_
        refine lv_aload_n hx hb dX1_look_55 rfl (lv_at hl 1 rfl) ?_
        refine x_nget_1 X G hin1 (by decide +kernel) dX1_look_56 ?_
        refine lv_aload_n hx hb dX1_look_59 rfl (lv_at hl 1 rfl) ?_
        refine x_nget_3 X G hin1 (by decide +kernel) dX1_look_60 ?_
        refine lv_iconst (v := 1) hx hb dX1_look_63 (by decide) ?_
        refine lv_isub hx hb dX1_look_64 ?_
        refine x_ild X G xI_4 (nest_top c_4) dX1_look_65 ?_
        refine x_calli (As := [.int (σ.2.1 4 ((σ.1 2) - 1).toNatClampNeg)]) (rest := []) X hml G hA (xW_row (hrv.1 _ _ _ n_47)) rfl (c_Xrow_charAt l dC dI kc ad _ σ n_47x (σ.2.1 4 ((σ.1 2) - 1).toNatClampNeg) (hrv.1 _ _ _ n_47)) (cwV 1 hts gX1_look_X2_charAt rfl rfl rfl (by decide +kernel) ⟨Nat.le_of_ble_eq_true rfl, Nat.le_of_ble_eq_true rfl⟩) rfl hl.1 rfl (Nat.le_of_ble_eq_true rfl) dX1_look_66 ⟨Nat.zero_le _, Nat.zero_le _⟩ (fun r_66 u_66 H locs hw_66 G => ?_)
        obtain ⟨rfl, hu_66⟩ := hw_66
        rw [hu_66] at G
        exact x_iret (v := (Xrow_charAt σ n_47x (σ.2.1 4 ((σ.1 2) - 1).toNatClampNeg))) X G hr hlocks ⟨(by simp only [Xnest_look, eq_false c_4, eq_true c_29, n_47, ↓reduceIte]), rfl⟩ dX1_look_69
      · have n_47 := n_47
        refine lv_iconst (v := 0) hx hb dX1_look_50 (by decide) ?_
        refine lv_goto (tgt := 69) hx hb dX1_look_51 (by decide) ?_
        exact x_iret (v := 0) X G hr hlocks ⟨(by simp only [Xnest_look, eq_false c_4, eq_true c_29, n_47, ↓reduceIte]), rfl⟩ dX1_look_69
    · have c_29 : ¬ ((σ.2.1 4 ((σ.1 2) - 1).toNatClampNeg) < (σ.2.1 5 ((σ.1 2) - 1).toNatClampNeg)) := c_29
      refine lv_iconst (v := 0) hx hb dX1_look_32 (by decide) ?_
      exact x_iret (v := 0) X G hr hlocks ⟨(by simp only [Xnest_look, eq_false c_4, eq_false c_29, ↓reduceIte]), rfl⟩ dX1_look_33
def Xnest_pass (σ : XS) : XS := if (Xnest_isUnderWay σ) = 0 then σ else (xa σ 4 ((σ.1 2) - 1).toNatClampNeg ((σ.2.1 4 ((σ.1 2) - 1).toNatClampNeg) + 1))
set_option maxHeartbeats 4000000 in
set_option maxRecDepth 100000 in
theorem c_Xnest_pass (l : Launch) (dC : Nat → ClassId) (dI : Nat → Nat → Nat) (kc : Nat → ClassId) (ad : Nat → Nat) (sz : Nat) (σ : XS) : Met l yX1_pass wsX1_pass ({ frames := 1, cells := 0, slots := 0, locals := 20 } : Room) (va_Pc [.ref (ad 2)] (xPre dC dI kc ad sz σ)) (va_Qv (fun u => Xnest_pass σ = u) (xAt dC dI kc ad (xA kc ad σ sz)) (xA kc ad σ sz)) 0 0 (xA kc ad σ sz) := by
  refine x_ofW (cc := cX1_pass) (maxL := 1) (ret := none) (by decide) rfl rfl (Nat.le_of_ble_eq_true rfl) ?_
  intro p e s m below meth c X G hA hr hlocks hml ls hl
  have hl : lv_has ls 1 [(0, .ref (ad 2))] := hl
  have hx := X.1
  have hb := X.2.1
  have hts := X.2.2.1
  have hown := X.2.2.2.1
  have hz := X.2.2.2.2.2
  have hin1 : ∀ w ∈ wsX10, w ∈ wsX1_pass := (fun w hw => List.mem_cons_of_mem _ (List.mem_append_right _ hw))
  refine lv_aload_n hx hb dX1_pass_0 rfl (lv_at hl 0 rfl) ?_
  refine x_calli (As := []) (rest := []) X hml G hA xW_nest rfl (c_Xnest_isUnderWay l dC dI kc ad _ σ) (cwV 0 hts gX1_pass_X1_isUnderWay rfl rfl rfl (by decide +kernel) ⟨Nat.le_of_ble_eq_true rfl, Nat.le_of_ble_eq_true rfl⟩) rfl hl.1 rfl (Nat.le_of_ble_eq_true rfl) dX1_pass_1 ⟨Nat.zero_le _, Nat.zero_le _⟩ (fun r_1 u_1 H locs hw_1 G => ?_)
  obtain ⟨rfl, hu_1⟩ := hw_1
  rw [hu_1] at G
  refine lv_if_eq (tgt := 22) hx hb dX1_pass_4 (by decide) (fun c_4 => ?_) (fun c_4 => ?_)
  · have c_4 : (Xnest_isUnderWay σ) = 0 := c_4
    exact x_vret X G hr hlocks (by simp only [Xnest_pass, eq_true c_4, ↓reduceIte]) dX1_pass_22
  · have c_4 : ¬ ((Xnest_isUnderWay σ) = 0) := c_4
    refine lv_aload_n hx hb dX1_pass_7 rfl (lv_at hl 0 rfl) ?_
    refine x_nget_1 X G hin1 (by decide +kernel) dX1_pass_8 ?_
    refine lv_aload_n hx hb dX1_pass_11 rfl (lv_at hl 0 rfl) ?_
    refine x_nget_3 X G hin1 (by decide +kernel) dX1_pass_12 ?_
    refine lv_iconst (v := 1) hx hb dX1_pass_15 (by decide) ?_
    refine lv_isub hx hb dX1_pass_16 ?_
    refine lv_dup2_11 hx hb dX1_pass_17 rfl rfl ?_
    refine x_ild X G xI_4 (nest_top c_4) dX1_pass_18 ?_
    refine lv_iconst (v := 1) hx hb dX1_pass_19 (by decide) ?_
    refine lv_iadd hx hb dX1_pass_20 ?_
    refine x_ist X G xI_4 (nest_top c_4) dX1_pass_21 (fun H locs G => ?_)
    have G : xH dC dI kc ad (xa σ 4 ((σ.1 2) - 1).toNatClampNeg ((σ.2.1 4 ((σ.1 2) - 1).toNatClampNeg) + 1)) _ s.heap H locs := G
    exact x_vret X G hr hlocks (by simp only [Xnest_pass, eq_false c_4, ↓reduceIte]) dX1_pass_22
theorem pass_wf {σ : XS} (h : xWF σ) : xWF (Xnest_pass σ) := by
  unfold Xnest_pass
  split
  · exact h
  · exact h
theorem leave_wf {σ : XS} (h : xWF σ) : xWF (Xnest_leave σ) := h
theorem leaveAll_wf {σ : XS} (h : xWF σ) : xWF (Xnest_leaveAll σ) := h
theorem inner_v {σ : XS} (h : xWF σ) : ∀ n, Xnest_innermostRow σ = some n → xv σ n := by
  intro n hn
  unfold Xnest_innermostRow at hn
  split at hn
  · cases hn
  · exact h.1 _ _ _ hn
theorem enter_wf {σ u : XS} {r0 : Option Nat} {s0 n0 : Int32} (h : xWF σ) (hr : ∀ n, r0 = some n → xv σ n) (hw : Xnest_enter σ r0 s0 n0 = .inr u) : xWF u := by
  unfold Xnest_enter at hw
  split at hw
  · cases hw
  · split at hw
    · injection hw with hw; rw [← hw]; exact xWF_xr (σ := σ) (k := 3) (j := (σ.1 2).toNatClampNeg) h hr
    · cases hw
def Xnest_skipBlanks_L2 : Nat → Int32 → XS → XS
  | 0, _, τ => τ
  | f + 1, i0, τ => if 160 ≤ i0 then τ else if (Xnest_look τ) = 32 then (let q_28 := Xnest_pass τ; Xnest_skipBlanks_L2 f (i0 + 1) q_28) else if (Xnest_look τ) = 10 then (let q_28 := Xnest_pass τ; Xnest_skipBlanks_L2 f (i0 + 1) q_28) else τ
def Xnest_skipBlanks (σ : XS) : XS := Xnest_skipBlanks_L2 (161) 0 σ
set_option maxHeartbeats 4000000 in
set_option maxRecDepth 100000 in
theorem c_Xnest_skipBlanks_L2 {p : Program} (l : Launch) {e : Env} {s : State} {m : MethodId} {below : List Frame} {meth : Method} {c : Code} {dC : Nat → ClassId} {dI : Nat → Nat → Nat} {kc : Nat → ClassId} {ad : Nat → Nat} {sz : Nat} (σ : XS) (hrv : xWF σ) (X : xX p s m ([.ref (ad 2)] : List Value).toArray c cX1_skipBlanks wsX1_skipBlanks dC dI kc RX1 (xA kc ad σ sz)) (hA : ∀ q : Nat, s.heap.size ≤ q → xA kc ad σ sz q) (hr : meth.sig.returnType = none) (hlocks : meth.locks = false) (hml : c.maxLocals = 2) :
    ∀ (fu : Nat) (i0 : Int32) (τ : XS), Xnest_skipBlanks σ = Xnest_skipBlanks_L2 fu i0 τ → (0 ≤ i0.toInt) → (i0.toInt ≤ 160) → (161 ≤ i0.toInt + (fu : Int)) → (xWF τ) → ∀ (H : Heap) (locs : List Loc), xH dC dI kc ad τ (xA kc ad σ sz) s.heap H locs → ∀ ls : Array Slot, lv_has ls 2 [(0, .ref (ad 2)), (1, .int i0)] → W p l e ({ frames := 2, cells := 0, slots := 0, locals := 42 } : Room) s m ([.ref (ad 2)] : List Value).toArray below meth c H locs 0 0 (MQ below (va_Qv (fun u => Xnest_skipBlanks σ = u) (xAt dC dI kc ad (xA kc ad σ sz)) (xA kc ad σ sz)) ([.ref (ad 2)] : List Value).toArray s 0 0 (xA kc ad σ sz)) (F0 m 2 ls []) := by
  have hx := X.1
  have hb := X.2.1
  have hts := X.2.2.1
  have hown := X.2.2.2.1
  have hz := X.2.2.2.2.2
  have hin2 : ∀ w ∈ wsX20, w ∈ wsX1_skipBlanks := (fun w hw => List.mem_cons_of_mem _ (List.mem_append_right _ hw))
  have hin1 : ∀ w ∈ wsX10, w ∈ wsX1_skipBlanks := (fun w hw => List.mem_cons_of_mem _ (List.mem_append_left _ (List.mem_append_right _ hw)))
  intro fu
  induction fu with
  | zero =>
    intro i0 τ hI hi0 hi1 hi2 hrv
    exact absurd hi2 (by omega)
  | succ fu ih =>
    intro i0 τ hI hi0 hi1 hi2 hrv H locs G ls hl
    refine lv_iload_n hx hb dX1_skipBlanks_2 rfl (lv_at hl 1 rfl) ?_
    refine lv_sipush (v := 160) hx hb dX1_skipBlanks_3 (by decide) ?_
    refine lv_icmp_ge (tgt := 37) hx hb dX1_skipBlanks_6 (by decide) (fun c_6 => ?_) (fun c_6 => ?_)
    · have c_6 : 160 ≤ i0 := c_6
      exact x_vret X G hr hlocks (by rw [hI]; simp only [Xnest_skipBlanks_L2, eq_true c_6, ↓reduceIte]) dX1_skipBlanks_37
    · have c_6 : ¬ (160 ≤ i0) := c_6
      have k_6 : i0.toInt < 160 := by have h9 := c_6; rw [Int32.not_le, Int32.lt_iff_toInt_lt] at h9; exact h9
      have e_6 : (i0 + 1).toInt = i0.toInt + 1 := i_addE rfl (show (1 : Int32).toInt = 1 from rfl) (by omega) (by omega)
      refine lv_aload_n hx hb dX1_skipBlanks_9 rfl (lv_at hl 0 rfl) ?_
      refine x_calli (As := []) (rest := []) X hml G hA xW_nest rfl (c_Xnest_look l dC dI kc ad _ τ hrv) (cwV 0 hts gX1_skipBlanks_X1_look rfl rfl rfl (by decide +kernel) ⟨Nat.le_of_ble_eq_true rfl, Nat.le_of_ble_eq_true rfl⟩) rfl hl.1 rfl (Nat.le_of_ble_eq_true rfl) dX1_skipBlanks_10 ⟨Nat.zero_le _, Nat.zero_le _⟩ (fun r_10 u_10 H locs hw_10 G => ?_)
      obtain ⟨rfl, hu_10⟩ := hw_10
      rw [hu_10] at G
      refine lv_bipush (v := 32) hx hb dX1_skipBlanks_13 (by decide) ?_
      refine lv_icmp_eq (tgt := 27) hx hb dX1_skipBlanks_15 (by decide) (fun c_15 => ?_) (fun c_15 => ?_)
      · have c_15 : (Xnest_look τ) = 32 := c_15
        refine lv_aload_n hx hb dX1_skipBlanks_27 rfl (lv_at hl 0 rfl) ?_
        refine x_callv (As := []) (rest := []) X hml G hA xW_nest rfl (c_Xnest_pass l dC dI kc ad _ τ) (cwV 0 hts gX1_skipBlanks_X1_pass rfl rfl rfl (by decide +kernel) ⟨Nat.le_of_ble_eq_true rfl, Nat.le_of_ble_eq_true rfl⟩) rfl hl.1 rfl (Nat.le_of_ble_eq_true rfl) dX1_skipBlanks_28 ⟨Nat.zero_le _, Nat.zero_le _⟩ (fun u_28 H locs hw_28 G => ?_)
        have hv_28 : xWF u_28 := by have h9 : xWF (Xnest_pass τ) := pass_wf hrv; rw [hw_28] at h9; exact h9
        refine lv_iinc (v := (i0 + 1)) (lv' := [(1, .int (i0 + 1)), (0, .ref (ad 2))]) hx hb dX1_skipBlanks_31 hl (k := 1) rfl rfl (by decide) rfl (fun ls hl => ?_)
        refine lv_goto (tgt := 2) hx hb dX1_skipBlanks_34 (by decide) ?_
        exact ih (i0 + 1) u_28 (by rw [hI]; simp only [Xnest_skipBlanks_L2, eq_false c_6, eq_true c_15, hw_28, ↓reduceIte]) (by omega) (by omega) (by omega) hv_28 H locs G ls (lv_sub hl [1, 0] rfl)
      · have c_15 : ¬ ((Xnest_look τ) = 32) := c_15
        refine lv_aload_n hx hb dX1_skipBlanks_18 rfl (lv_at hl 0 rfl) ?_
        refine x_calli (As := []) (rest := []) X hml G hA xW_nest rfl (c_Xnest_look l dC dI kc ad _ τ hrv) (cwV 0 hts gX1_skipBlanks_X1_look rfl rfl rfl (by decide +kernel) ⟨Nat.le_of_ble_eq_true rfl, Nat.le_of_ble_eq_true rfl⟩) rfl hl.1 rfl (Nat.le_of_ble_eq_true rfl) dX1_skipBlanks_19 ⟨Nat.zero_le _, Nat.zero_le _⟩ (fun r_19 u_19 H locs hw_19 G => ?_)
        obtain ⟨rfl, hu_19⟩ := hw_19
        rw [hu_19] at G
        refine lv_bipush (v := 10) hx hb dX1_skipBlanks_22 (by decide) ?_
        refine lv_icmp_ne (tgt := 37) hx hb dX1_skipBlanks_24 (by decide) (fun c_24 => ?_) (fun c_24 => ?_)
        · have c_24 : ¬ ((Xnest_look τ) = 10) := c_24
          exact x_vret X G hr hlocks (by rw [hI]; simp only [Xnest_skipBlanks_L2, eq_false c_6, eq_false c_15, eq_false c_24, ↓reduceIte]) dX1_skipBlanks_37
        · have c_24 : (Xnest_look τ) = 10 := c_24
          refine lv_aload_n hx hb dX1_skipBlanks_27 rfl (lv_at hl 0 rfl) ?_
          refine x_callv (As := []) (rest := []) X hml G hA xW_nest rfl (c_Xnest_pass l dC dI kc ad _ τ) (cwV 0 hts gX1_skipBlanks_X1_pass rfl rfl rfl (by decide +kernel) ⟨Nat.le_of_ble_eq_true rfl, Nat.le_of_ble_eq_true rfl⟩) rfl hl.1 rfl (Nat.le_of_ble_eq_true rfl) dX1_skipBlanks_28 ⟨Nat.zero_le _, Nat.zero_le _⟩ (fun u_28 H locs hw_28 G => ?_)
          have hv_28 : xWF u_28 := by have h9 : xWF (Xnest_pass τ) := pass_wf hrv; rw [hw_28] at h9; exact h9
          refine lv_iinc (v := (i0 + 1)) (lv' := [(1, .int (i0 + 1)), (0, .ref (ad 2))]) hx hb dX1_skipBlanks_31 hl (k := 1) rfl rfl (by decide) rfl (fun ls hl => ?_)
          refine lv_goto (tgt := 2) hx hb dX1_skipBlanks_34 (by decide) ?_
          exact ih (i0 + 1) u_28 (by rw [hI]; simp only [Xnest_skipBlanks_L2, eq_false c_6, eq_false c_15, eq_true c_24, hw_28, ↓reduceIte]) (by omega) (by omega) (by omega) hv_28 H locs G ls (lv_sub hl [1, 0] rfl)
set_option maxHeartbeats 4000000 in
set_option maxRecDepth 100000 in
theorem c_Xnest_skipBlanks (l : Launch) (dC : Nat → ClassId) (dI : Nat → Nat → Nat) (kc : Nat → ClassId) (ad : Nat → Nat) (sz : Nat) (σ : XS) (hrv : xWF σ) : Met l yX1_skipBlanks wsX1_skipBlanks ({ frames := 2, cells := 0, slots := 0, locals := 42 } : Room) (va_Pc [.ref (ad 2)] (xPre dC dI kc ad sz σ)) (va_Qv (fun u => Xnest_skipBlanks σ = u) (xAt dC dI kc ad (xA kc ad σ sz)) (xA kc ad σ sz)) 0 0 (xA kc ad σ sz) := by
  refine x_ofW (cc := cX1_skipBlanks) (maxL := 2) (ret := none) (by decide) rfl rfl (Nat.le_of_ble_eq_true rfl) ?_
  intro p e s m below meth c X G hA hr hlocks hml ls hl
  have hl : lv_has ls 2 [(0, .ref (ad 2))] := hl
  have hx := X.1
  have hb := X.2.1
  have hts := X.2.2.1
  have hown := X.2.2.2.1
  have hz := X.2.2.2.2.2
  have hin2 : ∀ w ∈ wsX20, w ∈ wsX1_skipBlanks := (fun w hw => List.mem_cons_of_mem _ (List.mem_append_right _ hw))
  have hin1 : ∀ w ∈ wsX10, w ∈ wsX1_skipBlanks := (fun w hw => List.mem_cons_of_mem _ (List.mem_append_left _ (List.mem_append_right _ hw)))
  refine lv_iconst (v := 0) hx hb dX1_skipBlanks_0 (by decide) ?_
  refine lv_istore_n (lv' := [(1, .int 0), (0, .ref (ad 2))]) hx hb dX1_skipBlanks_1 rfl hl (by decide) rfl (fun ls hl => ?_)
  exact c_Xnest_skipBlanks_L2 l σ hrv X hA hr hlocks hml 161 0 σ (by simp only [Xnest_skipBlanks, ↓reduceIte]) (by decide) (by decide) (by decide) hrv _ _ G ls (lv_sub hl [1, 0] rfl)
theorem skipL_wf : ∀ (fu : Nat) (i0 : Int32) (τ : XS), xWF τ → xWF (Xnest_skipBlanks_L2 fu i0 τ) := by
  intro fu
  induction fu with
  | zero => intro i0 τ h; exact h
  | succ fu ih =>
    intro i0 τ h
    simp only [Xnest_skipBlanks_L2]
    split
    · exact h
    · split
      · exact ih _ _ (pass_wf h)
      · split
        · exact ih _ _ (pass_wf h)
        · exact h
theorem skipBlanks_wf {σ : XS} (h : xWF σ) : xWF (Xnest_skipBlanks σ) := skipL_wf _ _ _ h
theorem xv_same {σ τ : XS} (h : τ.2.2.2.2.2 = σ.2.2.2.2.2) {n : Nat} (hv : xv σ n) : xv τ n := by
  unfold xv xn at *
  rw [h]; exact hv
theorem skipL_n : ∀ (fu : Nat) (i0 : Int32) (τ : XS), (Xnest_skipBlanks_L2 fu i0 τ).2.2.2.2 = τ.2.2.2.2 := by
  intro fu
  have hp : ∀ τ : XS, (Xnest_pass τ).2.2.2.2 = τ.2.2.2.2 := by
    intro τ; unfold Xnest_pass; split <;> rfl
  induction fu with
  | zero => intro i0 τ; rfl
  | succ fu ih =>
    intro i0 τ
    simp only [Xnest_skipBlanks_L2]
    split
    · rfl
    · split
      · exact (ih _ _).trans (hp τ)
      · split
        · exact (ih _ _).trans (hp τ)
        · rfl
theorem skip_v {σ : XS} {n : Nat} (hv : xv σ n) : xv (Xnest_skipBlanks σ) n := xv_same (by rw [show Xnest_skipBlanks σ = Xnest_skipBlanks_L2 161 0 σ from rfl, skipL_n]) hv
def Xnest_enterMacro (σ : XS) (r0 : Option Nat) (s0 : Int32) (n0 : Int32) : (String × XS) ⊕ XS := let q_1 := Xnest_skipBlanks σ; if (Xnest_look q_1) = 0 then (let q_12 := Xnest_leave q_1; (match Xnest_enter q_12 r0 s0 n0 with | .inl e9 => .inl e9 | .inr u19 => .inr u19)) else (match Xnest_enter q_1 r0 s0 n0 with | .inl e9 => .inl e9 | .inr u19 => .inr u19)
set_option maxHeartbeats 4000000 in
set_option maxRecDepth 100000 in
theorem c_Xnest_enterMacro (l : Launch) (hl9 : l.stackTraces = false) (dC : Nat → ClassId) (dI : Nat → Nat → Nat) (kc : Nat → ClassId) (ad : Nat → Nat) (sz : Nat) (σ : XS) (r0 : Option Nat) (s0 : Int32) (n0 : Int32) (hrv : xWF σ) (hr0 : ∀ n, r0 = some n → xv σ n) : xq_Met l yX1_enterMacro wsX1_enterMacro ({ frames := 7, cells := 1, slots := 6, locals := 105 } : Room) (va_Pc [.ref (ad 2), va_rf (r0.map ad), .int s0, .int n0] (xPre dC dI kc ad sz σ)) (va_Qv (fun u => Xnest_enterMacro σ r0 s0 n0 = .inr u) (xAt dC dI kc ad (xA kc ad σ sz)) (xA kc ad σ sz)) (xE (Xnest_enterMacro σ r0 s0 n0) dC dI kc ad (xA kc ad σ sz)) 0 0 1 6 (xA kc ad σ sz) := by
  refine y_ofW (cc := cX1_enterMacro) (maxL := 4) (ret := none) (by decide) rfl rfl (by cases r0 <;> exact Nat.le_of_ble_eq_true rfl) ?_
  intro p e s m below meth c X G hA hr hlocks hml hEx ls hl
  have hl : lv_has ls 4 [(0, .ref (ad 2)), (1, va_rf (r0.map ad)), (2, .int s0), (3, .int n0)] := by cases r0 <;> exact hl
  have hx := X.1
  have hb := X.2.1
  have hts := X.2.2.1
  have hown := X.2.2.2.1
  have hz := X.2.2.2.2.2
  have hin2 : ∀ w ∈ wsX20, w ∈ wsX1_enterMacro := (fun w hw => List.mem_cons_of_mem _ (List.mem_append_left _ (List.mem_append_right _ hw)))
  have hin1 : ∀ w ∈ wsX10, w ∈ wsX1_enterMacro := (fun w hw => List.mem_cons_of_mem _ (List.mem_append_left _ (List.mem_append_left _ (List.mem_append_right _ hw))))
  refine lv_aload_n hx hb dX1_enterMacro_0 rfl (lv_at hl 0 rfl) ?_
  refine x_callv (As := []) (rest := []) X hml G hA xW_nest rfl (c_Xnest_skipBlanks l dC dI kc ad _ σ hrv) (cwV 0 hts gX1_enterMacro_X1_skipBlanks rfl rfl rfl (by decide +kernel) ⟨Nat.le_of_ble_eq_true rfl, Nat.le_of_ble_eq_true rfl⟩) rfl hl.1 rfl (Nat.le_of_ble_eq_true rfl) dX1_enterMacro_1 ⟨Nat.zero_le _, Nat.zero_le _⟩ (fun u_1 H locs hw_1 G => ?_)
  have hv_1 : xWF u_1 := by have h9 : xWF (Xnest_skipBlanks σ) := skipBlanks_wf hrv; rw [hw_1] at h9; exact h9
  refine lv_aload_n hx hb dX1_enterMacro_4 rfl (lv_at hl 0 rfl) ?_
  refine x_calli (As := []) (rest := []) X hml G hA xW_nest rfl (c_Xnest_look l dC dI kc ad _ u_1 hv_1) (cwV 0 hts gX1_enterMacro_X1_look rfl rfl rfl (by decide +kernel) ⟨Nat.le_of_ble_eq_true rfl, Nat.le_of_ble_eq_true rfl⟩) rfl hl.1 rfl (Nat.le_of_ble_eq_true rfl) dX1_enterMacro_5 ⟨Nat.zero_le _, Nat.zero_le _⟩ (fun r_5 u_5 H locs hw_5 G => ?_)
  obtain ⟨rfl, hu_5⟩ := hw_5
  rw [hu_5] at G
  refine lv_if_ne (tgt := 15) hx hb dX1_enterMacro_8 (by decide) (fun c_8 => ?_) (fun c_8 => ?_)
  · have c_8 : ¬ ((Xnest_look u_1) = 0) := c_8
    refine lv_aload_n hx hb dX1_enterMacro_15 rfl (lv_at hl 0 rfl) ?_
    refine x_aload_nq hx hb dX1_enterMacro_16 rfl (lv_at hl 1 rfl) ?_
    refine lv_iload_n hx hb dX1_enterMacro_17 rfl (lv_at hl 2 rfl) ?_
    refine lv_iload_n hx hb dX1_enterMacro_18 rfl (lv_at hl 3 rfl) ?_
    refine y_callv (As := [va_rf (r0.map ad), .int s0, .int n0]) (rest := []) X hml G hA hEx hlocks xW_nest rfl (c_Xnest_enter l hl9 dC dI kc ad _ u_1 r0 s0 n0 (fun n hn => by rw [← hw_1]; exact skip_v (hr0 n hn))) (cwV 3 hts gX1_enterMacro_X1_enter rfl rfl rfl (by decide +kernel) ⟨Nat.le_of_ble_eq_true rfl, Nat.le_of_ble_eq_true rfl⟩) rfl hl.1 rfl (Nat.le_of_ble_eq_true rfl) dX1_enterMacro_19 ⟨Nat.le_of_ble_eq_true rfl, Nat.le_of_ble_eq_true rfl⟩ (fun E u9 hw_19 => (by simp only [Xnest_enterMacro, hw_1, eq_false c_8, hw_19, ↓reduceIte])) (fun u_19 H locs hw_19 G => ?_)
    have hv_19 : xWF u_19 := enter_wf hv_1 (fun n hn => by rw [← hw_1]; exact skip_v (hr0 n hn)) hw_19
    exact xq_ret (x_vret X G hr hlocks (by simp only [Xnest_enterMacro, hw_1, eq_false c_8, hw_19, ↓reduceIte]) dX1_enterMacro_22)
  · have c_8 : (Xnest_look u_1) = 0 := c_8
    refine lv_aload_n hx hb dX1_enterMacro_11 rfl (lv_at hl 0 rfl) ?_
    refine x_callv (As := []) (rest := []) X hml G hA xW_nest rfl (c_Xnest_leave l dC dI kc ad _ u_1) (cwV 0 hts gX1_enterMacro_X1_leave rfl rfl rfl (by decide +kernel) ⟨Nat.le_of_ble_eq_true rfl, Nat.le_of_ble_eq_true rfl⟩) rfl hl.1 rfl (Nat.le_of_ble_eq_true rfl) dX1_enterMacro_12 ⟨Nat.zero_le _, Nat.zero_le _⟩ (fun u_12 H locs hw_12 G => ?_)
    have hv_12 : xWF u_12 := by have h9 : xWF (Xnest_leave u_1) := leave_wf hv_1; rw [hw_12] at h9; exact h9
    refine lv_aload_n hx hb dX1_enterMacro_15 rfl (lv_at hl 0 rfl) ?_
    refine x_aload_nq hx hb dX1_enterMacro_16 rfl (lv_at hl 1 rfl) ?_
    refine lv_iload_n hx hb dX1_enterMacro_17 rfl (lv_at hl 2 rfl) ?_
    refine lv_iload_n hx hb dX1_enterMacro_18 rfl (lv_at hl 3 rfl) ?_
    refine y_callv (As := [va_rf (r0.map ad), .int s0, .int n0]) (rest := []) X hml G hA hEx hlocks xW_nest rfl (c_Xnest_enter l hl9 dC dI kc ad _ u_12 r0 s0 n0 (fun n hn => by rw [← hw_12]; show xv u_1 n; rw [← hw_1]; exact skip_v (hr0 n hn))) (cwV 3 hts gX1_enterMacro_X1_enter rfl rfl rfl (by decide +kernel) ⟨Nat.le_of_ble_eq_true rfl, Nat.le_of_ble_eq_true rfl⟩) rfl hl.1 rfl (Nat.le_of_ble_eq_true rfl) dX1_enterMacro_19 ⟨Nat.le_of_ble_eq_true rfl, Nat.le_of_ble_eq_true rfl⟩ (fun E u9 hw_19 => (by simp only [Xnest_enterMacro, hw_1, eq_true c_8, hw_12, hw_19, ↓reduceIte])) (fun u_19 H locs hw_19 G => ?_)
    have hv_19 : xWF u_19 := enter_wf hv_12 (fun n hn => by rw [← hw_12]; show xv u_1 n; rw [← hw_1]; exact skip_v (hr0 n hn)) hw_19
    exact xq_ret (x_vret X G hr hlocks (by simp only [Xnest_enterMacro, hw_1, eq_true c_8, hw_12, hw_19, ↓reduceIte]) dX1_enterMacro_22)
theorem enterMacro_wf {σ u : XS} {r0 : Option Nat} {s0 n0 : Int32} (h : xWF σ) (hr : ∀ n, r0 = some n → xv σ n) (hw : Xnest_enterMacro σ r0 s0 n0 = .inr u) : xWF u := by
  unfold Xnest_enterMacro at hw
  simp only at hw
  split at hw
  · split at hw
    · cases hw
    · rename_i h9; injection hw with hw; rw [← hw]; exact enter_wf (leave_wf (skipBlanks_wf h)) (fun n hn => skip_v (hr n hn)) h9
  · split at hw
    · cases hw
    · rename_i h9; injection hw with hw; rw [← hw]; exact enter_wf (skipBlanks_wf h) (fun n hn => skip_v (hr n hn)) h9
end
section
theorem max0 (k : Int32) : 0 ≤ (if k < (0 : Int32) then (0 : Int32) else k).toInt := by
  have z0 : (0 : Int32).toInt = 0 := rfl
  split
  · omega
  · rename_i h; rw [Int32.lt_iff_toInt_lt] at h; omega
theorem pow_ix0 {y : Int32} (h : 0 ≤ y.toInt) : vp_in (if (19 - 1 : Int32) < y then (19 - 1 : Int32) else y) 19 := by
  have z18 : (19 - 1 : Int32).toInt = 18 := by decide
  rw [vp_in_iff]
  split
  · omega
  · rename_i h1; rw [Int32.lt_iff_toInt_lt] at h1; omega
theorem pow_ix {k : Int32} : vp_in (if (19 - 1 : Int32) < (if k < (0 : Int32) then (0 : Int32) else k) then (19 - 1 : Int32) else (if k < (0 : Int32) then (0 : Int32) else k)) 19 := pow_ix0 (max0 k)
theorem abs_nz {b : Int64} (h : ¬ b = 0) : ¬ (if 0 < b then b else -b) = 0 := by
  split
  · exact h
  · intro e; apply h
    have := congrArg (fun x => -x) e
    simpa using this
def D_divide (a0 : Int64) (b0 : Int64) : String ⊕ Int64 := if b0 = 0 then (.inr 0) else .inr (a0 / b0)
set_option maxHeartbeats 4000000 in
set_option maxRecDepth 100000 in
theorem c_D_divide (l : Launch) (hl9 : l.stackTraces = false) (sz : Nat) (a0 : Int64) (b0 : Int64) : xq_Met l yX0_divide wsX0_divide ({ frames := 0, cells := 1, slots := 6, locals := 0 } : Room) (va_Pc [.long a0, .long b0] (dPre sz)) (va_Ql (fun r (_ : Unit) => D_divide a0 b0 = .inr r) (fun _ _ => True) (fun _ => False)) (dX (D_divide a0 b0) sz) 0 0 1 6 (fun q => sz ≤ q) := by
  refine d_ofW (cc := cX0_divide) (maxL := 4) (ret := (some .long)) (by decide) rfl rfl (Nat.le_of_ble_eq_true rfl) ?_
  intro p e s m below meth c hx hb hts hown hr hlocks hml hEx hsz hz hS ls hl
  subst hsz
  have hl : lv_has ls 4 [(0, .long a0), (2, .long b0)] := hl
  refine lv_lload_n hx hb dX0_divide_0 rfl (lv_at hl 1 rfl) ?_
  refine lv_lconst (v := 0) hx hb dX0_divide_1 (by decide) ?_
  refine W.lcmp hx hb dX0_divide_2 ?_
  refine lv_if_ne (tgt := 10) hx hb dX0_divide_3 (by decide) (fun c_3 => ?_) (fun c_3 => ?_)
  · have c_3 := (mt (l_cmp_eq _ _).mpr c_3)
    have c_3 : ¬ (b0 = 0) := c_3
    refine lv_lload_n hx hb dX0_divide_10 rfl (lv_at hl 0 rfl) ?_
    refine lv_lload_n hx hb dX0_divide_11 rfl (lv_at hl 1 rfl) ?_
    refine lv_ldiv hx hb dX0_divide_12 c_3 ?_
    exact xq_ret (W.lret (v := (a0 / b0)) hx hb hr (fun t ht hW => ⟨⟨_, (), rfl, (by unfold D_divide; first | simp only [eq_false c_3, ↓reduceIte] | rfl), trivial⟩, dF hS ht⟩) hS.2.2 dX0_divide_13 hlocks)
  · have c_3 := ((l_cmp_eq _ _).mp c_3)
    have c_3 : b0 = 0 := c_3
    refine lv_lconst (v := 0) hx hb dX0_divide_6 (by decide) ?_
    refine lv_goto (tgt := 13) hx hb dX0_divide_7 (by decide) ?_
    exact xq_ret (W.lret (v := 0) hx hb hr (fun t ht hW => ⟨⟨_, (), rfl, (by unfold D_divide; first | simp only [eq_true c_3, ↓reduceIte] | rfl), trivial⟩, dF hS ht⟩) hS.2.2 dX0_divide_13 hlocks)
def D_powerOfTen (k0 : Int32) : String ⊕ Int64 := .inr (p10 (if (19 - 1) < (if k0 < (0 : Int32) then (0 : Int32) else k0) then (19 - 1) else (if k0 < (0 : Int32) then (0 : Int32) else k0)).toNatClampNeg)
set_option maxHeartbeats 4000000 in
set_option maxRecDepth 100000 in
theorem c_D_powerOfTen (l : Launch) (hl9 : l.stackTraces = false) (sz : Nat) (k0 : Int32) : xq_Met l yX0_powerOfTen wsX0_powerOfTen ({ frames := 1, cells := 1, slots := 6, locals := 14 } : Room) (va_Pc [.int k0] (dPre sz)) (va_Ql (fun r (_ : Unit) => D_powerOfTen k0 = .inr r) (fun _ _ => True) (fun _ => False)) (dX (D_powerOfTen k0) sz) 0 0 1 6 (fun q => sz ≤ q) := by
  refine d_ofW (cc := cX0_powerOfTen) (maxL := 1) (ret := (some .long)) (by decide) rfl rfl (Nat.le_of_ble_eq_true rfl) ?_
  intro p e s m below meth c hx hb hts hown hr hlocks hml hEx hsz hz hS ls hl
  subst hsz
  have hl : lv_has ls 1 [(0, .int k0)] := hl
  obtain ⟨tp, hzp, hzt⟩ := hz.2.2.2
  refine va_gets hx hb hzp hS hown (hts (.fieldLink RX0 78 "DeskStack$Decimal" "POWERS" "[J") (by decide +kernel)) (fun _ h9 => h9) dX0_powerOfTen_0 ?_
  refine lv_iload_n hx hb dX0_powerOfTen_3 rfl (lv_at hl 0 rfl) ?_
  refine lv_iconst (v := 0) hx hb dX0_powerOfTen_4 (by decide) ?_
  refine va_mmax (own := RX0) hx hb (hml.trans hl.1.symm) hown (hts (.methodLink RX0 9 Lib.Math.max.name) (by decide +kernel)) (hts (.static Lib.Math.max.name) (by decide +kernel)) (hts (.initialized "java/lang/Math") (by decide +kernel)) (hts (.code Lib.Math.max.name Lib.Math.max.code 2 (some .int)) (by decide +kernel)) (Nat.le_of_ble_eq_true rfl) (Nat.le_of_ble_eq_true rfl) (Nat.le_of_ble_eq_true rfl) (Nat.le_of_ble_eq_true rfl) dX0_powerOfTen_5 ?_
  refine va_gets hx hb hzp hS hown (hts (.fieldLink RX0 78 "DeskStack$Decimal" "POWERS" "[J") (by decide +kernel)) (fun _ h9 => h9) dX0_powerOfTen_8 ?_
  refine va_tlen (v := 19) hx hb hzt hS rfl dX0_powerOfTen_11 ?_
  refine lv_iconst (v := 1) hx hb dX0_powerOfTen_12 (by decide) ?_
  refine lv_isub hx hb dX0_powerOfTen_13 ?_
  refine va_mmin (own := RX0) hx hb (hml.trans hl.1.symm) hown (hts (.methodLink RX0 82 Lib.Math.min.name) (by decide +kernel)) (hts (.static Lib.Math.min.name) (by decide +kernel)) (hts (.initialized "java/lang/Math") (by decide +kernel)) (hts (.code Lib.Math.min.name Lib.Math.min.code 2 (some .int)) (by decide +kernel)) (Nat.le_of_ble_eq_true rfl) (Nat.le_of_ble_eq_true rfl) (Nat.le_of_ble_eq_true rfl) (Nat.le_of_ble_eq_true rfl) dX0_powerOfTen_14 ?_
  refine va_tl hx hb hzt hS pow_ix rfl dX0_powerOfTen_17 ?_
  exact xq_ret (W.lret (v := (p10 (if (19 - 1) < (if k0 < (0 : Int32) then (0 : Int32) else k0) then (19 - 1) else (if k0 < (0 : Int32) then (0 : Int32) else k0)).toNatClampNeg)) hx hb hr (fun t ht hW => ⟨⟨_, (), rfl, (by unfold D_powerOfTen; first | simp only [↓reduceIte] | rfl), trivial⟩, dF hS ht⟩) hS.2.2 dX0_powerOfTen_18 hlocks)
def D_times (a0 : Int64) (b0 : Int64) : String ⊕ Int64 := if b0 = 0 then (.inr (a0 * b0)) else if (if 0 < a0 then a0 else -a0) ≤ (999999999999999999 / (if 0 < b0 then b0 else -b0)) then (.inr (a0 * b0)) else .inl "java/lang/UnsupportedOperationException"
set_option maxHeartbeats 4000000 in
set_option maxRecDepth 100000 in
theorem c_D_times (l : Launch) (hl9 : l.stackTraces = false) (sz : Nat) (a0 : Int64) (b0 : Int64) : xq_Met l yX0_times wsX0_times ({ frames := 6, cells := 1, slots := 6, locals := 82 } : Room) (va_Pc [.long a0, .long b0] (dPre sz)) (va_Ql (fun r (_ : Unit) => D_times a0 b0 = .inr r) (fun _ _ => True) (fun _ => False)) (dX (D_times a0 b0) sz) 0 0 1 6 (fun q => sz ≤ q) := by
  refine d_ofW (cc := cX0_times) (maxL := 4) (ret := (some .long)) (by decide) rfl rfl (Nat.le_of_ble_eq_true rfl) ?_
  intro p e s m below meth c hx hb hts hown hr hlocks hml hEx hsz hz hS ls hl
  subst hsz
  have hl : lv_has ls 4 [(0, .long a0), (2, .long b0)] := hl
  refine lv_lload_n hx hb dX0_times_0 rfl (lv_at hl 1 rfl) ?_
  refine lv_lconst (v := 0) hx hb dX0_times_1 (by decide) ?_
  refine W.lcmp hx hb dX0_times_2 ?_
  refine lv_if_eq (tgt := 32) hx hb dX0_times_3 (by decide) (fun c_3 => ?_) (fun c_3 => ?_)
  · have c_3 := ((l_cmp_eq _ _).mp c_3)
    have c_3 : b0 = 0 := c_3
    refine lv_lload_n hx hb dX0_times_32 rfl (lv_at hl 0 rfl) ?_
    refine lv_lload_n hx hb dX0_times_33 rfl (lv_at hl 1 rfl) ?_
    refine lv_lmul hx hb dX0_times_34 ?_
    exact xq_ret (W.lret (v := (a0 * b0)) hx hb hr (fun t ht hW => ⟨⟨_, (), rfl, (by unfold D_times; first | simp only [eq_true c_3, ↓reduceIte] | rfl), trivial⟩, dF hS ht⟩) hS.2.2 dX0_times_35 hlocks)
  · have c_3 := (mt (l_cmp_eq _ _).mpr c_3)
    have c_3 : ¬ (b0 = 0) := c_3
    refine lv_lload_n hx hb dX0_times_6 rfl (lv_at hl 0 rfl) ?_
    refine va_mabs_long (own := RX0) hx hb (hml.trans hl.1.symm) hown (hts (.methodLink RX0 31 Lib.MathLoose.abs_long.x) (by decide +kernel)) (hts (.static Lib.MathLoose.abs_long.x) (by decide +kernel)) (hts (.initialized "java/lang/Math") (by decide +kernel)) (hts (.code Lib.MathLoose.abs_long.x Lib.MathLoose.abs_long.code 2 (some .long)) (by decide +kernel)) (Nat.le_of_ble_eq_true rfl) (Nat.le_of_ble_eq_true rfl) (Nat.le_of_ble_eq_true rfl) (Nat.le_of_ble_eq_true rfl) dX0_times_7 ?_
    refine lv_ldc2 (v := 999999999999999999) hx hb hown (hts (.constantLong RX0 34 (999999999999999999)) (by decide +kernel)) dX0_times_10 ?_
    refine lv_lload_n hx hb dX0_times_13 rfl (lv_at hl 1 rfl) ?_
    refine va_mabs_long (own := RX0) hx hb (hml.trans hl.1.symm) hown (hts (.methodLink RX0 31 Lib.MathLoose.abs_long.x) (by decide +kernel)) (hts (.static Lib.MathLoose.abs_long.x) (by decide +kernel)) (hts (.initialized "java/lang/Math") (by decide +kernel)) (hts (.code Lib.MathLoose.abs_long.x Lib.MathLoose.abs_long.code 2 (some .long)) (by decide +kernel)) (Nat.le_of_ble_eq_true rfl) (Nat.le_of_ble_eq_true rfl) (Nat.le_of_ble_eq_true rfl) (Nat.le_of_ble_eq_true rfl) dX0_times_14 ?_
    refine lv_ldiv hx hb dX0_times_17 (abs_nz c_3) ?_
    refine W.lcmp hx hb dX0_times_18 ?_
    refine lv_if_le (tgt := 32) hx hb dX0_times_19 (by decide) (fun c_19 => ?_) (fun c_19 => ?_)
    · have c_19 := ((l_cmp_le _ _).mp c_19)
      have c_19 : (if 0 < a0 then a0 else -a0) ≤ (999999999999999999 / (if 0 < b0 then b0 else -b0)) := c_19
      refine lv_lload_n hx hb dX0_times_32 rfl (lv_at hl 0 rfl) ?_
      refine lv_lload_n hx hb dX0_times_33 rfl (lv_at hl 1 rfl) ?_
      refine lv_lmul hx hb dX0_times_34 ?_
      exact xq_ret (W.lret (v := (a0 * b0)) hx hb hr (fun t ht hW => ⟨⟨_, (), rfl, (by unfold D_times; first | simp only [eq_false c_3, eq_true c_19, ↓reduceIte] | rfl), trivial⟩, dF hS ht⟩) hS.2.2 dX0_times_35 hlocks)
    · have c_19 := (mt (l_cmp_le _ _).mpr c_19)
      have c_19 : ¬ ((if 0 < a0 then a0 else -a0) ≤ (999999999999999999 / (if 0 < b0 then b0 else -b0))) := c_19
      obtain ⟨sa, hstr⟩ := zstr hz (own := RX0) (k := 38) (text := "more than 18 digits") (by decide +kernel)
      exact xq_thr (vx_throwS (own := RX0) (cls := "java/lang/UnsupportedOperationException") (text := "more than 18 digits") (names := ["java/lang/RuntimeException", "java/lang/Exception"]) hx hb hl9 hown (by decide +kernel) (by decide +kernel) (hts (.classLink RX0 36 "java/lang/UnsupportedOperationException") (by decide +kernel)) (hts (.initialized "java/lang/UnsupportedOperationException") (by decide +kernel)) hstr (zhat hz hts (by decide +kernel) (fun w hw => List.mem_cons_of_mem _ (List.mem_append_right _ hw)) (by decide +kernel)) (by decide +kernel) hz.2.1 hz.2.2.1 hS (hl.1.trans hml.symm) dX0_times_22 dX0_times_25 dX0_times_26 dX0_times_28 dX0_times_31 (fun x hx => (hEx x hx).elim) (Nat.le_of_ble_eq_true rfl) (Nat.le_of_ble_eq_true rfl) (Nat.le_of_ble_eq_true rfl) (Nat.le_of_ble_eq_true rfl) hlocks (fun t ha hsz hk => ⟨(), trivial, (by unfold D_times; first | simp only [eq_false c_3, eq_false c_19, ↓reduceIte] | rfl), Nat.le_trans hS.1 hsz, fun q h1 h2 => (hk q (Nat.lt_of_lt_of_le h1 hS.1)).trans (hS.2.1 q h1 h2)⟩) hS.2.2 (Nat.le_of_ble_eq_true rfl) (Nat.le_of_ble_eq_true rfl))
def D_raise (a0 : Int64) (k0 : Int32) : String ⊕ Int64 := (match D_powerOfTen k0 with | .inl e9 => .inl e9 | .inr r2 => (match D_times a0 r2 with | .inl e9 => .inl e9 | .inr r5 => .inr r5))
set_option maxHeartbeats 4000000 in
set_option maxRecDepth 100000 in
theorem c_D_raise (l : Launch) (hl9 : l.stackTraces = false) (sz : Nat) (a0 : Int64) (k0 : Int32) : xq_Met l yX0_raise wsX0_raise ({ frames := 7, cells := 1, slots := 6, locals := 105 } : Room) (va_Pc [.long a0, .int k0] (dPre sz)) (va_Ql (fun r (_ : Unit) => D_raise a0 k0 = .inr r) (fun _ _ => True) (fun _ => False)) (dX (D_raise a0 k0) sz) 0 0 1 6 (fun q => sz ≤ q) := by
  refine d_ofW (cc := cX0_raise) (maxL := 3) (ret := (some .long)) (by decide) rfl rfl (Nat.le_of_ble_eq_true rfl) ?_
  intro p e s m below meth c hx hb hts hown hr hlocks hml hEx hsz hz hS ls hl
  subst hsz
  have hl : lv_has ls 3 [(0, .long a0), (2, .int k0)] := hl
  refine lv_lload_n hx hb dX0_raise_0 rfl (lv_at hl 0 rfl) ?_
  refine lv_iload_n hx hb dX0_raise_1 rfl (lv_at hl 1 rfl) ?_
  refine d_calll (As := [.int k0]) (rest := [.long a0]) hx hb hml hown hts hEx hlocks hz hS (c_D_powerOfTen l hl9 s.heap.size k0) (va_cwS 1 hts gX0_raise_X0_powerOfTen rfl rfl rfl (by decide +kernel) ⟨(Nat.le_of_ble_eq_true rfl), (Nat.le_of_ble_eq_true rfl)⟩) rfl hl.1 rfl (Nat.le_of_ble_eq_true rfl) dX0_raise_2 ⟨(Nat.le_of_ble_eq_true rfl), (Nat.le_of_ble_eq_true rfl)⟩ ⟨rfl, rfl⟩ (fun E hw_2 => (by unfold D_raise; first | simp only [hw_2, ↓reduceIte] | rfl)) (fun r_2 H locs hw_2 hS => ?_)
  refine d_calll (As := [.long a0, .long r_2]) (rest := []) hx hb hml hown hts hEx hlocks hz hS (c_D_times l hl9 H.size a0 r_2) (va_cwS 2 hts gX0_raise_X0_times rfl rfl rfl (by decide +kernel) ⟨(Nat.le_of_ble_eq_true rfl), (Nat.le_of_ble_eq_true rfl)⟩) rfl hl.1 rfl (Nat.le_of_ble_eq_true rfl) dX0_raise_5 ⟨(Nat.le_of_ble_eq_true rfl), (Nat.le_of_ble_eq_true rfl)⟩ ⟨rfl, rfl⟩ (fun E hw_5 => (by unfold D_raise; first | simp only [hw_2, hw_5, ↓reduceIte] | rfl)) (fun r_5 H locs hw_5 hS => ?_)
  exact xq_ret (W.lret (v := r_5) hx hb hr (fun t ht hW => ⟨⟨_, (), rfl, (by unfold D_raise; first | simp only [hw_2, hw_5, ↓reduceIte] | rfl), trivial⟩, dF hS ht⟩) hS.2.2 dX0_raise_8 hlocks)
def D_fitting (a0 : Int64) : String ⊕ Int64 := if (if 0 < a0 then a0 else -a0) ≤ 999999999999999999 then (.inr a0) else .inl "java/lang/UnsupportedOperationException"
set_option maxHeartbeats 4000000 in
set_option maxRecDepth 100000 in
theorem c_D_fitting (l : Launch) (hl9 : l.stackTraces = false) (sz : Nat) (a0 : Int64) : xq_Met l yX0_fitting wsX0_fitting ({ frames := 6, cells := 1, slots := 6, locals := 82 } : Room) (va_Pc [.long a0] (dPre sz)) (va_Ql (fun r (_ : Unit) => D_fitting a0 = .inr r) (fun _ _ => True) (fun _ => False)) (dX (D_fitting a0) sz) 0 0 1 6 (fun q => sz ≤ q) := by
  refine d_ofW (cc := cX0_fitting) (maxL := 2) (ret := (some .long)) (by decide) rfl rfl (Nat.le_of_ble_eq_true rfl) ?_
  intro p e s m below meth c hx hb hts hown hr hlocks hml hEx hsz hz hS ls hl
  subst hsz
  have hl : lv_has ls 2 [(0, .long a0)] := hl
  refine lv_lload_n hx hb dX0_fitting_0 rfl (lv_at hl 0 rfl) ?_
  refine va_mabs_long (own := RX0) hx hb (hml.trans hl.1.symm) hown (hts (.methodLink RX0 31 Lib.MathLoose.abs_long.x) (by decide +kernel)) (hts (.static Lib.MathLoose.abs_long.x) (by decide +kernel)) (hts (.initialized "java/lang/Math") (by decide +kernel)) (hts (.code Lib.MathLoose.abs_long.x Lib.MathLoose.abs_long.code 2 (some .long)) (by decide +kernel)) (Nat.le_of_ble_eq_true rfl) (Nat.le_of_ble_eq_true rfl) (Nat.le_of_ble_eq_true rfl) (Nat.le_of_ble_eq_true rfl) dX0_fitting_1 ?_
  refine lv_ldc2 (v := 999999999999999999) hx hb hown (hts (.constantLong RX0 34 (999999999999999999)) (by decide +kernel)) dX0_fitting_4 ?_
  refine W.lcmp hx hb dX0_fitting_7 ?_
  refine lv_if_le (tgt := 21) hx hb dX0_fitting_8 (by decide) (fun c_8 => ?_) (fun c_8 => ?_)
  · have c_8 := ((l_cmp_le _ _).mp c_8)
    have c_8 : (if 0 < a0 then a0 else -a0) ≤ 999999999999999999 := c_8
    refine lv_lload_n hx hb dX0_fitting_21 rfl (lv_at hl 0 rfl) ?_
    exact xq_ret (W.lret (v := a0) hx hb hr (fun t ht hW => ⟨⟨_, (), rfl, (by unfold D_fitting; first | simp only [eq_true c_8, ↓reduceIte] | rfl), trivial⟩, dF hS ht⟩) hS.2.2 dX0_fitting_22 hlocks)
  · have c_8 := (mt (l_cmp_le _ _).mpr c_8)
    have c_8 : ¬ ((if 0 < a0 then a0 else -a0) ≤ 999999999999999999) := c_8
    obtain ⟨sa, hstr⟩ := zstr hz (own := RX0) (k := 38) (text := "more than 18 digits") (by decide +kernel)
    exact xq_thr (vx_throwS (own := RX0) (cls := "java/lang/UnsupportedOperationException") (text := "more than 18 digits") (names := ["java/lang/RuntimeException", "java/lang/Exception"]) hx hb hl9 hown (by decide +kernel) (by decide +kernel) (hts (.classLink RX0 36 "java/lang/UnsupportedOperationException") (by decide +kernel)) (hts (.initialized "java/lang/UnsupportedOperationException") (by decide +kernel)) hstr (zhat hz hts (by decide +kernel) (fun w hw => List.mem_cons_of_mem _ (List.mem_append_right _ hw)) (by decide +kernel)) (by decide +kernel) hz.2.1 hz.2.2.1 hS (hl.1.trans hml.symm) dX0_fitting_11 dX0_fitting_14 dX0_fitting_15 dX0_fitting_17 dX0_fitting_20 (fun x hx => (hEx x hx).elim) (Nat.le_of_ble_eq_true rfl) (Nat.le_of_ble_eq_true rfl) (Nat.le_of_ble_eq_true rfl) (Nat.le_of_ble_eq_true rfl) hlocks (fun t ha hsz hk => ⟨(), trivial, (by unfold D_fitting; first | simp only [eq_false c_8, ↓reduceIte] | rfl), Nat.le_trans hS.1 hsz, fun q h1 h2 => (hk q (Nat.lt_of_lt_of_le h1 hS.1)).trans (hS.2.1 q h1 h2)⟩) hS.2.2 (Nat.le_of_ble_eq_true rfl) (Nat.le_of_ble_eq_true rfl))
def D_sum (a0 : Int64) (i0 : Int32) (b0 : Int64) (j0 : Int32) : String ⊕ Int64 := (match D_raise a0 ((if i0 < j0 then j0 else i0) - i0) with | .inl e9 => .inl e9 | .inr r13 => (match D_raise b0 ((if i0 < j0 then j0 else i0) - j0) with | .inl e9 => .inl e9 | .inr r22 => (match D_fitting (r13 + r22) with | .inl e9 => .inl e9 | .inr r26 => .inr r26)))
set_option maxHeartbeats 4000000 in
set_option maxRecDepth 100000 in
theorem c_D_sum (l : Launch) (hl9 : l.stackTraces = false) (sz : Nat) (a0 : Int64) (i0 : Int32) (b0 : Int64) (j0 : Int32) : xq_Met l yX0_sum wsX0_sum ({ frames := 8, cells := 1, slots := 6, locals := 127 } : Room) (va_Pc [.long a0, .int i0, .long b0, .int j0] (dPre sz)) (va_Ql (fun r (_ : Unit) => D_sum a0 i0 b0 j0 = .inr r) (fun _ _ => True) (fun _ => False)) (dX (D_sum a0 i0 b0 j0) sz) 0 0 1 6 (fun q => sz ≤ q) := by
  refine d_ofW (cc := cX0_sum) (maxL := 7) (ret := (some .long)) (by decide) rfl rfl (Nat.le_of_ble_eq_true rfl) ?_
  intro p e s m below meth c hx hb hts hown hr hlocks hml hEx hsz hz hS ls hl
  subst hsz
  have hl : lv_has ls 7 [(0, .long a0), (2, .int i0), (3, .long b0), (5, .int j0)] := hl
  refine lv_iload_n hx hb dX0_sum_0 rfl (lv_at hl 1 rfl) ?_
  refine lv_iload hx hb dX0_sum_1 (lv_at hl 3 rfl) ?_
  refine va_mmax (own := RX0) hx hb (hml.trans hl.1.symm) hown (hts (.methodLink RX0 9 Lib.Math.max.name) (by decide +kernel)) (hts (.static Lib.Math.max.name) (by decide +kernel)) (hts (.initialized "java/lang/Math") (by decide +kernel)) (hts (.code Lib.Math.max.name Lib.Math.max.code 2 (some .int)) (by decide +kernel)) (Nat.le_of_ble_eq_true rfl) (Nat.le_of_ble_eq_true rfl) (Nat.le_of_ble_eq_true rfl) (Nat.le_of_ble_eq_true rfl) dX0_sum_3 ?_
  refine lv_istore (lv' := [(6, .int (if i0 < j0 then j0 else i0)), (0, .long a0), (2, .int i0), (3, .long b0), (5, .int j0)]) hx hb dX0_sum_6 hl (by decide) rfl (fun ls hl => ?_)
  refine lv_lload_n hx hb dX0_sum_8 rfl (lv_at hl 1 rfl) ?_
  refine lv_iload hx hb dX0_sum_9 (lv_at hl 0 rfl) ?_
  refine lv_iload_n hx hb dX0_sum_11 rfl (lv_at hl 2 rfl) ?_
  refine lv_isub hx hb dX0_sum_12 ?_
  refine d_calll (As := [.long a0, .int ((if i0 < j0 then j0 else i0) - i0)]) (rest := []) hx hb hml hown hts hEx hlocks hz hS (c_D_raise l hl9 s.heap.size a0 ((if i0 < j0 then j0 else i0) - i0)) (va_cwS 2 hts gX0_sum_X0_raise rfl rfl rfl (by decide +kernel) ⟨(Nat.le_of_ble_eq_true rfl), (Nat.le_of_ble_eq_true rfl)⟩) rfl hl.1 rfl (Nat.le_of_ble_eq_true rfl) dX0_sum_13 ⟨(Nat.le_of_ble_eq_true rfl), (Nat.le_of_ble_eq_true rfl)⟩ ⟨rfl, rfl⟩ (fun E hw_13 => (by unfold D_sum; first | simp only [hw_13, ↓reduceIte] | rfl)) (fun r_13 H locs hw_13 hS => ?_)
  refine lv_lload_n hx hb dX0_sum_16 rfl (lv_at hl 3 rfl) ?_
  refine lv_iload hx hb dX0_sum_17 (lv_at hl 0 rfl) ?_
  refine lv_iload hx hb dX0_sum_19 (lv_at hl 4 rfl) ?_
  refine lv_isub hx hb dX0_sum_21 ?_
  refine d_calll (As := [.long b0, .int ((if i0 < j0 then j0 else i0) - j0)]) (rest := [.long r_13]) hx hb hml hown hts hEx hlocks hz hS (c_D_raise l hl9 H.size b0 ((if i0 < j0 then j0 else i0) - j0)) (va_cwS 2 hts gX0_sum_X0_raise rfl rfl rfl (by decide +kernel) ⟨(Nat.le_of_ble_eq_true rfl), (Nat.le_of_ble_eq_true rfl)⟩) rfl hl.1 rfl (Nat.le_of_ble_eq_true rfl) dX0_sum_22 ⟨(Nat.le_of_ble_eq_true rfl), (Nat.le_of_ble_eq_true rfl)⟩ ⟨rfl, rfl⟩ (fun E hw_22 => (by unfold D_sum; first | simp only [hw_13, hw_22, ↓reduceIte] | rfl)) (fun r_22 H locs hw_22 hS => ?_)
  refine lv_ladd hx hb dX0_sum_25 ?_
  refine d_calll (As := [.long (r_13 + r_22)]) (rest := []) hx hb hml hown hts hEx hlocks hz hS (c_D_fitting l hl9 H.size (r_13 + r_22)) (va_cwS 1 hts gX0_sum_X0_fitting rfl rfl rfl (by decide +kernel) ⟨(Nat.le_of_ble_eq_true rfl), (Nat.le_of_ble_eq_true rfl)⟩) rfl hl.1 rfl (Nat.le_of_ble_eq_true rfl) dX0_sum_26 ⟨(Nat.le_of_ble_eq_true rfl), (Nat.le_of_ble_eq_true rfl)⟩ ⟨rfl, rfl⟩ (fun E hw_26 => (by unfold D_sum; first | simp only [hw_13, hw_22, hw_26, ↓reduceIte] | rfl)) (fun r_26 H locs hw_26 hS => ?_)
  exact xq_ret (W.lret (v := r_26) hx hb hr (fun t ht hW => ⟨⟨_, (), rfl, (by unfold D_sum; first | simp only [hw_13, hw_22, hw_26, ↓reduceIte] | rfl), trivial⟩, dF hS ht⟩) hS.2.2 dX0_sum_29 hlocks)
def D_cutOff (a0 : Int64) (k0 : Int32) : String ⊕ Int64 := (match D_powerOfTen k0 with | .inl e9 => .inl e9 | .inr r2 => (match D_divide a0 r2 with | .inl e9 => .inl e9 | .inr r5 => .inr r5))
set_option maxHeartbeats 4000000 in
set_option maxRecDepth 100000 in
theorem c_D_cutOff (l : Launch) (hl9 : l.stackTraces = false) (sz : Nat) (a0 : Int64) (k0 : Int32) : xq_Met l yX0_cutOff wsX0_cutOff ({ frames := 2, cells := 1, slots := 6, locals := 34 } : Room) (va_Pc [.long a0, .int k0] (dPre sz)) (va_Ql (fun r (_ : Unit) => D_cutOff a0 k0 = .inr r) (fun _ _ => True) (fun _ => False)) (dX (D_cutOff a0 k0) sz) 0 0 1 6 (fun q => sz ≤ q) := by
  refine d_ofW (cc := cX0_cutOff) (maxL := 3) (ret := (some .long)) (by decide) rfl rfl (Nat.le_of_ble_eq_true rfl) ?_
  intro p e s m below meth c hx hb hts hown hr hlocks hml hEx hsz hz hS ls hl
  subst hsz
  have hl : lv_has ls 3 [(0, .long a0), (2, .int k0)] := hl
  refine lv_lload_n hx hb dX0_cutOff_0 rfl (lv_at hl 0 rfl) ?_
  refine lv_iload_n hx hb dX0_cutOff_1 rfl (lv_at hl 1 rfl) ?_
  refine d_calll (As := [.int k0]) (rest := [.long a0]) hx hb hml hown hts hEx hlocks hz hS (c_D_powerOfTen l hl9 s.heap.size k0) (va_cwS 1 hts gX0_cutOff_X0_powerOfTen rfl rfl rfl (by decide +kernel) ⟨(Nat.le_of_ble_eq_true rfl), (Nat.le_of_ble_eq_true rfl)⟩) rfl hl.1 rfl (Nat.le_of_ble_eq_true rfl) dX0_cutOff_2 ⟨(Nat.le_of_ble_eq_true rfl), (Nat.le_of_ble_eq_true rfl)⟩ ⟨rfl, rfl⟩ (fun E hw_2 => (by unfold D_cutOff; first | simp only [hw_2, ↓reduceIte] | rfl)) (fun r_2 H locs hw_2 hS => ?_)
  refine d_calll (As := [.long a0, .long r_2]) (rest := []) hx hb hml hown hts hEx hlocks hz hS (c_D_divide l hl9 H.size a0 r_2) (va_cwS 2 hts gX0_cutOff_X0_divide rfl rfl rfl (by decide +kernel) ⟨(Nat.le_of_ble_eq_true rfl), (Nat.le_of_ble_eq_true rfl)⟩) rfl hl.1 rfl (Nat.le_of_ble_eq_true rfl) dX0_cutOff_5 ⟨(Nat.le_of_ble_eq_true rfl), (Nat.le_of_ble_eq_true rfl)⟩ ⟨rfl, rfl⟩ (fun E hw_5 => (by unfold D_cutOff; first | simp only [hw_2, hw_5, ↓reduceIte] | rfl)) (fun r_5 H locs hw_5 hS => ?_)
  exact xq_ret (W.lret (v := r_5) hx hb hr (fun t ht hW => ⟨⟨_, (), rfl, (by unfold D_cutOff; first | simp only [hw_2, hw_5, ↓reduceIte] | rfl), trivial⟩, dF hS ht⟩) hS.2.2 dX0_cutOff_8 hlocks)
def D_quotient (a0 : Int64) (i0 : Int32) (b0 : Int64) (j0 : Int32) (k0 : Int32) : String ⊕ Int64 := if b0 = 0 then (.inl "java/lang/ArithmeticException") else if ((k0 + j0) - i0) ≤ 0 then ((match D_raise b0 (-((k0 + j0) - i0)) with | .inl e9 => .inl e9 | .inr r48 => (match D_divide a0 r48 with | .inl e9 => .inl e9 | .inr r51 => .inr r51))) else (match D_raise a0 ((k0 + j0) - i0) with | .inl e9 => .inl e9 | .inr r33 => (match D_divide r33 b0 with | .inl e9 => .inl e9 | .inr r37 => .inr r37))
set_option maxHeartbeats 4000000 in
set_option maxRecDepth 100000 in
theorem c_D_quotient (l : Launch) (hl9 : l.stackTraces = false) (sz : Nat) (a0 : Int64) (i0 : Int32) (b0 : Int64) (j0 : Int32) (k0 : Int32) : xq_Met l yX0_quotient wsX0_quotient ({ frames := 8, cells := 1, slots := 6, locals := 127 } : Room) (va_Pc [.long a0, .int i0, .long b0, .int j0, .int k0] (dPre sz)) (va_Ql (fun r (_ : Unit) => D_quotient a0 i0 b0 j0 k0 = .inr r) (fun _ _ => True) (fun _ => False)) (dX (D_quotient a0 i0 b0 j0 k0) sz) 0 0 1 6 (fun q => sz ≤ q) := by
  refine d_ofW (cc := cX0_quotient) (maxL := 8) (ret := (some .long)) (by decide) rfl rfl (Nat.le_of_ble_eq_true rfl) ?_
  intro p e s m below meth c hx hb hts hown hr hlocks hml hEx hsz hz hS ls hl
  subst hsz
  have hl : lv_has ls 8 [(0, .long a0), (2, .int i0), (3, .long b0), (5, .int j0), (6, .int k0)] := hl
  refine lv_lload_n hx hb dX0_quotient_0 rfl (lv_at hl 2 rfl) ?_
  refine lv_lconst (v := 0) hx hb dX0_quotient_1 (by decide) ?_
  refine W.lcmp hx hb dX0_quotient_2 ?_
  refine lv_if_ne (tgt := 16) hx hb dX0_quotient_3 (by decide) (fun c_3 => ?_) (fun c_3 => ?_)
  · have c_3 := (mt (l_cmp_eq _ _).mpr c_3)
    have c_3 : ¬ (b0 = 0) := c_3
    refine lv_iload hx hb dX0_quotient_16 (lv_at hl 4 rfl) ?_
    refine lv_iload hx hb dX0_quotient_18 (lv_at hl 3 rfl) ?_
    refine lv_iadd hx hb dX0_quotient_20 ?_
    refine lv_iload_n hx hb dX0_quotient_21 rfl (lv_at hl 1 rfl) ?_
    refine lv_isub hx hb dX0_quotient_22 ?_
    refine lv_istore (lv' := [(7, .int ((k0 + j0) - i0)), (0, .long a0), (2, .int i0), (3, .long b0), (5, .int j0), (6, .int k0)]) hx hb dX0_quotient_23 hl (by decide) rfl (fun ls hl => ?_)
    refine lv_iload hx hb dX0_quotient_25 (lv_at hl 0 rfl) ?_
    refine lv_if_le (tgt := 43) hx hb dX0_quotient_27 (by decide) (fun c_27 => ?_) (fun c_27 => ?_)
    · have c_27 : ((k0 + j0) - i0) ≤ 0 := c_27
      refine lv_lload_n hx hb dX0_quotient_43 rfl (lv_at hl 1 rfl) ?_
      refine lv_lload_n hx hb dX0_quotient_44 rfl (lv_at hl 3 rfl) ?_
      refine lv_iload hx hb dX0_quotient_45 (lv_at hl 0 rfl) ?_
      refine lv_ineg hx hb dX0_quotient_47 ?_
      refine d_calll (As := [.long b0, .int (-((k0 + j0) - i0))]) (rest := [.long a0]) hx hb hml hown hts hEx hlocks hz hS (c_D_raise l hl9 s.heap.size b0 (-((k0 + j0) - i0))) (va_cwS 2 hts gX0_quotient_X0_raise rfl rfl rfl (by decide +kernel) ⟨(Nat.le_of_ble_eq_true rfl), (Nat.le_of_ble_eq_true rfl)⟩) rfl hl.1 rfl (Nat.le_of_ble_eq_true rfl) dX0_quotient_48 ⟨(Nat.le_of_ble_eq_true rfl), (Nat.le_of_ble_eq_true rfl)⟩ ⟨rfl, rfl⟩ (fun E hw_48 => (by unfold D_quotient; first | simp only [eq_false c_3, eq_true c_27, hw_48, ↓reduceIte] | rfl)) (fun r_48 H locs hw_48 hS => ?_)
      refine d_calll (As := [.long a0, .long r_48]) (rest := []) hx hb hml hown hts hEx hlocks hz hS (c_D_divide l hl9 H.size a0 r_48) (va_cwS 2 hts gX0_quotient_X0_divide rfl rfl rfl (by decide +kernel) ⟨(Nat.le_of_ble_eq_true rfl), (Nat.le_of_ble_eq_true rfl)⟩) rfl hl.1 rfl (Nat.le_of_ble_eq_true rfl) dX0_quotient_51 ⟨(Nat.le_of_ble_eq_true rfl), (Nat.le_of_ble_eq_true rfl)⟩ ⟨rfl, rfl⟩ (fun E hw_51 => (by unfold D_quotient; first | simp only [eq_false c_3, eq_true c_27, hw_48, hw_51, ↓reduceIte] | rfl)) (fun r_51 H locs hw_51 hS => ?_)
      exact xq_ret (W.lret (v := r_51) hx hb hr (fun t ht hW => ⟨⟨_, (), rfl, (by unfold D_quotient; first | simp only [eq_false c_3, eq_true c_27, hw_48, hw_51, ↓reduceIte] | rfl), trivial⟩, dF hS ht⟩) hS.2.2 dX0_quotient_54 hlocks)
    · have c_27 : ¬ (((k0 + j0) - i0) ≤ 0) := c_27
      refine lv_lload_n hx hb dX0_quotient_30 rfl (lv_at hl 1 rfl) ?_
      refine lv_iload hx hb dX0_quotient_31 (lv_at hl 0 rfl) ?_
      refine d_calll (As := [.long a0, .int ((k0 + j0) - i0)]) (rest := []) hx hb hml hown hts hEx hlocks hz hS (c_D_raise l hl9 s.heap.size a0 ((k0 + j0) - i0)) (va_cwS 2 hts gX0_quotient_X0_raise rfl rfl rfl (by decide +kernel) ⟨(Nat.le_of_ble_eq_true rfl), (Nat.le_of_ble_eq_true rfl)⟩) rfl hl.1 rfl (Nat.le_of_ble_eq_true rfl) dX0_quotient_33 ⟨(Nat.le_of_ble_eq_true rfl), (Nat.le_of_ble_eq_true rfl)⟩ ⟨rfl, rfl⟩ (fun E hw_33 => (by unfold D_quotient; first | simp only [eq_false c_3, eq_false c_27, hw_33, ↓reduceIte] | rfl)) (fun r_33 H locs hw_33 hS => ?_)
      refine lv_lload_n hx hb dX0_quotient_36 rfl (lv_at hl 3 rfl) ?_
      refine d_calll (As := [.long r_33, .long b0]) (rest := []) hx hb hml hown hts hEx hlocks hz hS (c_D_divide l hl9 H.size r_33 b0) (va_cwS 2 hts gX0_quotient_X0_divide rfl rfl rfl (by decide +kernel) ⟨(Nat.le_of_ble_eq_true rfl), (Nat.le_of_ble_eq_true rfl)⟩) rfl hl.1 rfl (Nat.le_of_ble_eq_true rfl) dX0_quotient_37 ⟨(Nat.le_of_ble_eq_true rfl), (Nat.le_of_ble_eq_true rfl)⟩ ⟨rfl, rfl⟩ (fun E hw_37 => (by unfold D_quotient; first | simp only [eq_false c_3, eq_false c_27, hw_33, hw_37, ↓reduceIte] | rfl)) (fun r_37 H locs hw_37 hS => ?_)
      refine lv_goto (tgt := 54) hx hb dX0_quotient_40 (by decide) ?_
      exact xq_ret (W.lret (v := r_37) hx hb hr (fun t ht hW => ⟨⟨_, (), rfl, (by unfold D_quotient; first | simp only [eq_false c_3, eq_false c_27, hw_33, hw_37, ↓reduceIte] | rfl), trivial⟩, dF hS ht⟩) hS.2.2 dX0_quotient_54 hlocks)
  · have c_3 := ((l_cmp_eq _ _).mp c_3)
    have c_3 : b0 = 0 := c_3
    obtain ⟨sa, hstr⟩ := zstr hz (own := RX0) (k := 45) (text := "y is 0") (by decide +kernel)
    exact xq_thr (vx_throwS (own := RX0) (cls := "java/lang/ArithmeticException") (text := "y is 0") (names := ["java/lang/RuntimeException", "java/lang/Exception"]) hx hb hl9 hown (by decide +kernel) (by decide +kernel) (hts (.classLink RX0 43 "java/lang/ArithmeticException") (by decide +kernel)) (hts (.initialized "java/lang/ArithmeticException") (by decide +kernel)) hstr (zhat hz hts (by decide +kernel) (fun w hw => List.mem_cons_of_mem _ (List.mem_append_left _ (List.mem_append_right _ hw))) (by decide +kernel)) (by decide +kernel) hz.2.1 hz.2.2.1 hS (hl.1.trans hml.symm) dX0_quotient_6 dX0_quotient_9 dX0_quotient_10 dX0_quotient_12 dX0_quotient_15 (fun x hx => (hEx x hx).elim) (Nat.le_of_ble_eq_true rfl) (Nat.le_of_ble_eq_true rfl) (Nat.le_of_ble_eq_true rfl) (Nat.le_of_ble_eq_true rfl) hlocks (fun t ha hsz hk => ⟨(), trivial, (by unfold D_quotient; first | simp only [eq_true c_3, ↓reduceIte] | rfl), Nat.le_trans hS.1 hsz, fun q h1 h2 => (hk q (Nat.lt_of_lt_of_le h1 hS.1)).trans (hS.2.1 q h1 h2)⟩) hS.2.2 (Nat.le_of_ble_eq_true rfl) (Nat.le_of_ble_eq_true rfl))
def D_remainder (a0 : Int64) (i0 : Int32) (b0 : Int64) (j0 : Int32) (k0 : Int32) : String ⊕ Int64 := (match D_quotient a0 i0 b0 j0 k0 with | .inl e9 => .inl e9 | .inr r7 => if (if (k0 + j0) < i0 then i0 else (k0 + j0)) ≤ 9 then ((match D_times r7 b0 with | .inl e9 => .inl e9 | .inr r47 => (match D_raise r47 ((if (k0 + j0) < i0 then i0 else (k0 + j0)) - (k0 + j0)) with | .inl e9 => .inl e9 | .inr r55 => (match D_raise a0 ((if (k0 + j0) < i0 then i0 else (k0 + j0)) - i0) with | .inl e9 => .inl e9 | .inr r65 => (match D_fitting (r65 - r55) with | .inl e9 => .inl e9 | .inr r71 => .inr r71))))) else .inl "java/lang/UnsupportedOperationException")
set_option maxHeartbeats 4000000 in
set_option maxRecDepth 100000 in
theorem c_D_remainder (l : Launch) (hl9 : l.stackTraces = false) (sz : Nat) (a0 : Int64) (i0 : Int32) (b0 : Int64) (j0 : Int32) (k0 : Int32) : xq_Met l yX0_remainder wsX0_remainder ({ frames := 9, cells := 1, slots := 6, locals := 154 } : Room) (va_Pc [.long a0, .int i0, .long b0, .int j0, .int k0] (dPre sz)) (va_Ql (fun r (_ : Unit) => D_remainder a0 i0 b0 j0 k0 = .inr r) (fun _ _ => True) (fun _ => False)) (dX (D_remainder a0 i0 b0 j0 k0) sz) 0 0 1 6 (fun q => sz ≤ q) := by
  refine d_ofW (cc := cX0_remainder) (maxL := 13) (ret := (some .long)) (by decide) rfl rfl (Nat.le_of_ble_eq_true rfl) ?_
  intro p e s m below meth c hx hb hts hown hr hlocks hml hEx hsz hz hS ls hl
  subst hsz
  have hl : lv_has ls 13 [(0, .long a0), (2, .int i0), (3, .long b0), (5, .int j0), (6, .int k0)] := hl
  refine lv_lload_n hx hb dX0_remainder_0 rfl (lv_at hl 0 rfl) ?_
  refine lv_iload_n hx hb dX0_remainder_1 rfl (lv_at hl 1 rfl) ?_
  refine lv_lload_n hx hb dX0_remainder_2 rfl (lv_at hl 2 rfl) ?_
  refine lv_iload hx hb dX0_remainder_3 (lv_at hl 3 rfl) ?_
  refine lv_iload hx hb dX0_remainder_5 (lv_at hl 4 rfl) ?_
  refine d_calll (As := [.long a0, .int i0, .long b0, .int j0, .int k0]) (rest := []) hx hb hml hown hts hEx hlocks hz hS (c_D_quotient l hl9 s.heap.size a0 i0 b0 j0 k0) (va_cwS 5 hts gX0_remainder_X0_quotient rfl rfl rfl (by decide +kernel) ⟨(Nat.le_of_ble_eq_true rfl), (Nat.le_of_ble_eq_true rfl)⟩) rfl hl.1 rfl (Nat.le_of_ble_eq_true rfl) dX0_remainder_7 ⟨(Nat.le_of_ble_eq_true rfl), (Nat.le_of_ble_eq_true rfl)⟩ ⟨rfl, rfl⟩ (fun E hw_7 => (by unfold D_remainder; first | simp only [hw_7, ↓reduceIte] | rfl)) (fun r_7 H locs hw_7 hS => ?_)
  refine lv_lstore (lv' := [(7, .long r_7), (0, .long a0), (2, .int i0), (3, .long b0), (5, .int j0), (6, .int k0)]) hx hb dX0_remainder_10 hl (by decide) rfl (fun ls hl => ?_)
  refine lv_iload hx hb dX0_remainder_12 (lv_at hl 5 rfl) ?_
  refine lv_iload hx hb dX0_remainder_14 (lv_at hl 4 rfl) ?_
  refine lv_iadd hx hb dX0_remainder_16 ?_
  refine lv_istore (lv' := [(9, .int (k0 + j0)), (7, .long r_7), (0, .long a0), (2, .int i0), (3, .long b0), (5, .int j0), (6, .int k0)]) hx hb dX0_remainder_17 hl (by decide) rfl (fun ls hl => ?_)
  refine lv_iload hx hb dX0_remainder_19 (lv_at hl 0 rfl) ?_
  refine lv_iload_n hx hb dX0_remainder_21 rfl (lv_at hl 3 rfl) ?_
  refine va_mmax (own := RX0) hx hb (hml.trans hl.1.symm) hown (hts (.methodLink RX0 9 Lib.Math.max.name) (by decide +kernel)) (hts (.static Lib.Math.max.name) (by decide +kernel)) (hts (.initialized "java/lang/Math") (by decide +kernel)) (hts (.code Lib.Math.max.name Lib.Math.max.code 2 (some .int)) (by decide +kernel)) (Nat.le_of_ble_eq_true rfl) (Nat.le_of_ble_eq_true rfl) (Nat.le_of_ble_eq_true rfl) (Nat.le_of_ble_eq_true rfl) dX0_remainder_22 ?_
  refine lv_istore (lv' := [(10, .int (if (k0 + j0) < i0 then i0 else (k0 + j0))), (9, .int (k0 + j0)), (7, .long r_7), (0, .long a0), (2, .int i0), (3, .long b0), (5, .int j0), (6, .int k0)]) hx hb dX0_remainder_25 hl (by decide) rfl (fun ls hl => ?_)
  refine lv_iload hx hb dX0_remainder_27 (lv_at hl 0 rfl) ?_
  refine lv_bipush (v := 9) hx hb dX0_remainder_29 (by decide) ?_
  refine lv_icmp_le (tgt := 44) hx hb dX0_remainder_31 (by decide) (fun c_31 => ?_) (fun c_31 => ?_)
  · have c_31 : (if (k0 + j0) < i0 then i0 else (k0 + j0)) ≤ 9 := c_31
    refine lv_lload hx hb dX0_remainder_44 (lv_at hl 2 rfl) ?_
    refine lv_lload_n hx hb dX0_remainder_46 rfl (lv_at hl 5 rfl) ?_
    refine d_calll (As := [.long r_7, .long b0]) (rest := []) hx hb hml hown hts hEx hlocks hz hS (c_D_times l hl9 H.size r_7 b0) (va_cwS 2 hts gX0_remainder_X0_times rfl rfl rfl (by decide +kernel) ⟨(Nat.le_of_ble_eq_true rfl), (Nat.le_of_ble_eq_true rfl)⟩) rfl hl.1 rfl (Nat.le_of_ble_eq_true rfl) dX0_remainder_47 ⟨(Nat.le_of_ble_eq_true rfl), (Nat.le_of_ble_eq_true rfl)⟩ ⟨rfl, rfl⟩ (fun E hw_47 => (by unfold D_remainder; first | simp only [hw_7, eq_true c_31, hw_47, ↓reduceIte] | rfl)) (fun r_47 H locs hw_47 hS => ?_)
    refine lv_iload hx hb dX0_remainder_50 (lv_at hl 0 rfl) ?_
    refine lv_iload hx hb dX0_remainder_52 (lv_at hl 1 rfl) ?_
    refine lv_isub hx hb dX0_remainder_54 ?_
    refine d_calll (As := [.long r_47, .int ((if (k0 + j0) < i0 then i0 else (k0 + j0)) - (k0 + j0))]) (rest := []) hx hb hml hown hts hEx hlocks hz hS (c_D_raise l hl9 H.size r_47 ((if (k0 + j0) < i0 then i0 else (k0 + j0)) - (k0 + j0))) (va_cwS 2 hts gX0_remainder_X0_raise rfl rfl rfl (by decide +kernel) ⟨(Nat.le_of_ble_eq_true rfl), (Nat.le_of_ble_eq_true rfl)⟩) rfl hl.1 rfl (Nat.le_of_ble_eq_true rfl) dX0_remainder_55 ⟨(Nat.le_of_ble_eq_true rfl), (Nat.le_of_ble_eq_true rfl)⟩ ⟨rfl, rfl⟩ (fun E hw_55 => (by unfold D_remainder; first | simp only [hw_7, eq_true c_31, hw_47, hw_55, ↓reduceIte] | rfl)) (fun r_55 H locs hw_55 hS => ?_)
    refine lv_lstore (lv' := [(11, .long r_55), (10, .int (if (k0 + j0) < i0 then i0 else (k0 + j0))), (9, .int (k0 + j0)), (7, .long r_7), (0, .long a0), (2, .int i0), (3, .long b0), (5, .int j0), (6, .int k0)]) hx hb dX0_remainder_58 hl (by decide) rfl (fun ls hl => ?_)
    refine lv_lload_n hx hb dX0_remainder_60 rfl (lv_at hl 4 rfl) ?_
    refine lv_iload hx hb dX0_remainder_61 (lv_at hl 1 rfl) ?_
    refine lv_iload_n hx hb dX0_remainder_63 rfl (lv_at hl 5 rfl) ?_
    refine lv_isub hx hb dX0_remainder_64 ?_
    refine d_calll (As := [.long a0, .int ((if (k0 + j0) < i0 then i0 else (k0 + j0)) - i0)]) (rest := []) hx hb hml hown hts hEx hlocks hz hS (c_D_raise l hl9 H.size a0 ((if (k0 + j0) < i0 then i0 else (k0 + j0)) - i0)) (va_cwS 2 hts gX0_remainder_X0_raise rfl rfl rfl (by decide +kernel) ⟨(Nat.le_of_ble_eq_true rfl), (Nat.le_of_ble_eq_true rfl)⟩) rfl hl.1 rfl (Nat.le_of_ble_eq_true rfl) dX0_remainder_65 ⟨(Nat.le_of_ble_eq_true rfl), (Nat.le_of_ble_eq_true rfl)⟩ ⟨rfl, rfl⟩ (fun E hw_65 => (by unfold D_remainder; first | simp only [hw_7, eq_true c_31, hw_47, hw_55, hw_65, ↓reduceIte] | rfl)) (fun r_65 H locs hw_65 hS => ?_)
    refine lv_lload hx hb dX0_remainder_68 (lv_at hl 0 rfl) ?_
    refine lv_lsub hx hb dX0_remainder_70 ?_
    refine d_calll (As := [.long (r_65 - r_55)]) (rest := []) hx hb hml hown hts hEx hlocks hz hS (c_D_fitting l hl9 H.size (r_65 - r_55)) (va_cwS 1 hts gX0_remainder_X0_fitting rfl rfl rfl (by decide +kernel) ⟨(Nat.le_of_ble_eq_true rfl), (Nat.le_of_ble_eq_true rfl)⟩) rfl hl.1 rfl (Nat.le_of_ble_eq_true rfl) dX0_remainder_71 ⟨(Nat.le_of_ble_eq_true rfl), (Nat.le_of_ble_eq_true rfl)⟩ ⟨rfl, rfl⟩ (fun E hw_71 => (by unfold D_remainder; first | simp only [hw_7, eq_true c_31, hw_47, hw_55, hw_65, hw_71, ↓reduceIte] | rfl)) (fun r_71 H locs hw_71 hS => ?_)
    exact xq_ret (W.lret (v := r_71) hx hb hr (fun t ht hW => ⟨⟨_, (), rfl, (by unfold D_remainder; first | simp only [hw_7, eq_true c_31, hw_47, hw_55, hw_65, hw_71, ↓reduceIte] | rfl), trivial⟩, dF hS ht⟩) hS.2.2 dX0_remainder_74 hlocks)
  · have c_31 : ¬ ((if (k0 + j0) < i0 then i0 else (k0 + j0)) ≤ 9) := c_31
    obtain ⟨sa, hstr⟩ := zstr hz (own := RX0) (k := 56) (text := "more than 9 places") (by decide +kernel)
    exact xq_thr (vx_throwS (own := RX0) (cls := "java/lang/UnsupportedOperationException") (text := "more than 9 places") (names := ["java/lang/RuntimeException", "java/lang/Exception"]) hx hb hl9 hown (by decide +kernel) (by decide +kernel) (hts (.classLink RX0 36 "java/lang/UnsupportedOperationException") (by decide +kernel)) (hts (.initialized "java/lang/UnsupportedOperationException") (by decide +kernel)) hstr (zhat hz hts (by decide +kernel) (fun w hw => List.mem_cons_of_mem _ (List.mem_append_left _ (List.mem_append_right _ hw))) (by decide +kernel)) (by decide +kernel) hz.2.1 hz.2.2.1 hS (hl.1.trans hml.symm) dX0_remainder_34 dX0_remainder_37 dX0_remainder_38 dX0_remainder_40 dX0_remainder_43 (fun x hx => (hEx x hx).elim) (Nat.le_of_ble_eq_true rfl) (Nat.le_of_ble_eq_true rfl) (Nat.le_of_ble_eq_true rfl) (Nat.le_of_ble_eq_true rfl) hlocks (fun t ha hsz hk => ⟨(), trivial, (by unfold D_remainder; first | simp only [hw_7, eq_false c_31, ↓reduceIte] | rfl), Nat.le_trans hS.1 hsz, fun q h1 h2 => (hk q (Nat.lt_of_lt_of_le h1 hS.1)).trans (hS.2.1 q h1 h2)⟩) hS.2.2 (Nat.le_of_ble_eq_true rfl) (Nat.le_of_ble_eq_true rfl))
def D_asPlaces (a0 : Int64) (i0 : Int32) : String ⊕ Int32 := (match D_cutOff a0 i0 with | .inl e9 => .inl e9 | .inr r2 => if r2 < 0 then (.inl "java/lang/ArithmeticException") else if 9 < r2 then (.inl "java/lang/ArithmeticException") else (match D_raise r2 i0 with | .inl e9 => .inl e9 | .inr r22 => if r22 = a0 then (.inr r2.toInt32) else .inl "java/lang/ArithmeticException"))
set_option maxHeartbeats 4000000 in
set_option maxRecDepth 100000 in
theorem c_D_asPlaces (l : Launch) (hl9 : l.stackTraces = false) (sz : Nat) (a0 : Int64) (i0 : Int32) : xq_Met l yX0_asPlaces wsX0_asPlaces ({ frames := 8, cells := 1, slots := 6, locals := 127 } : Room) (va_Pc [.long a0, .int i0] (dPre sz)) (va_Qi (fun r (_ : Unit) => D_asPlaces a0 i0 = .inr r) (fun _ _ => True) (fun _ => False)) (dX (D_asPlaces a0 i0) sz) 0 0 1 6 (fun q => sz ≤ q) := by
  refine d_ofW (cc := cX0_asPlaces) (maxL := 5) (ret := (some .int)) (by decide) rfl rfl (Nat.le_of_ble_eq_true rfl) ?_
  intro p e s m below meth c hx hb hts hown hr hlocks hml hEx hsz hz hS ls hl
  subst hsz
  have hl : lv_has ls 5 [(0, .long a0), (2, .int i0)] := hl
  refine lv_lload_n hx hb dX0_asPlaces_0 rfl (lv_at hl 0 rfl) ?_
  refine lv_iload_n hx hb dX0_asPlaces_1 rfl (lv_at hl 1 rfl) ?_
  refine d_calll (As := [.long a0, .int i0]) (rest := []) hx hb hml hown hts hEx hlocks hz hS (c_D_cutOff l hl9 s.heap.size a0 i0) (va_cwS 2 hts gX0_asPlaces_X0_cutOff rfl rfl rfl (by decide +kernel) ⟨(Nat.le_of_ble_eq_true rfl), (Nat.le_of_ble_eq_true rfl)⟩) rfl hl.1 rfl (Nat.le_of_ble_eq_true rfl) dX0_asPlaces_2 ⟨(Nat.le_of_ble_eq_true rfl), (Nat.le_of_ble_eq_true rfl)⟩ ⟨rfl, rfl⟩ (fun E hw_2 => (by unfold D_asPlaces; first | simp only [hw_2, ↓reduceIte] | rfl)) (fun r_2 H locs hw_2 hS => ?_)
  refine lv_lstore_n (lv' := [(3, .long r_2), (0, .long a0), (2, .int i0)]) hx hb dX0_asPlaces_5 rfl hl (by decide) rfl (fun ls hl => ?_)
  refine lv_lload_n hx hb dX0_asPlaces_6 rfl (lv_at hl 0 rfl) ?_
  refine lv_lconst (v := 0) hx hb dX0_asPlaces_7 (by decide) ?_
  refine W.lcmp hx hb dX0_asPlaces_8 ?_
  refine lv_if_lt (tgt := 30) hx hb dX0_asPlaces_9 (by decide) (fun c_9 => ?_) (fun c_9 => ?_)
  · have c_9 := ((l_cmp_lt _ _).mp c_9)
    have c_9 : r_2 < 0 := c_9
    obtain ⟨sa, hstr⟩ := zstr hz (own := RX0) (k := 72) (text := "y is no whole number 0 .. 9") (by decide +kernel)
    exact xq_thr (vx_throwS (own := RX0) (cls := "java/lang/ArithmeticException") (text := "y is no whole number 0 .. 9") (names := ["java/lang/RuntimeException", "java/lang/Exception"]) hx hb hl9 hown (by decide +kernel) (by decide +kernel) (hts (.classLink RX0 43 "java/lang/ArithmeticException") (by decide +kernel)) (hts (.initialized "java/lang/ArithmeticException") (by decide +kernel)) hstr (zhat hz hts (by decide +kernel) (fun w hw => List.mem_cons_of_mem _ (List.mem_append_left _ (List.mem_append_right _ hw))) (by decide +kernel)) (by decide +kernel) hz.2.1 hz.2.2.1 hS (hl.1.trans hml.symm) dX0_asPlaces_30 dX0_asPlaces_33 dX0_asPlaces_34 dX0_asPlaces_36 dX0_asPlaces_39 (fun x hx => (hEx x hx).elim) (Nat.le_of_ble_eq_true rfl) (Nat.le_of_ble_eq_true rfl) (Nat.le_of_ble_eq_true rfl) (Nat.le_of_ble_eq_true rfl) hlocks (fun t ha hsz hk => ⟨(), trivial, (by unfold D_asPlaces; first | simp only [hw_2, eq_true c_9, ↓reduceIte] | rfl), Nat.le_trans hS.1 hsz, fun q h1 h2 => (hk q (Nat.lt_of_lt_of_le h1 hS.1)).trans (hS.2.1 q h1 h2)⟩) hS.2.2 (Nat.le_of_ble_eq_true rfl) (Nat.le_of_ble_eq_true rfl))
  · have c_9 := (mt (l_cmp_lt _ _).mpr c_9)
    have c_9 : ¬ (r_2 < 0) := c_9
    refine lv_lload_n hx hb dX0_asPlaces_12 rfl (lv_at hl 0 rfl) ?_
    refine lv_ldc2 (v := 9) hx hb hown (hts (.constantLong RX0 70 (9)) (by decide +kernel)) dX0_asPlaces_13 ?_
    refine W.lcmp hx hb dX0_asPlaces_16 ?_
    refine lv_if_gt (tgt := 30) hx hb dX0_asPlaces_17 (by decide) (fun c_17 => ?_) (fun c_17 => ?_)
    · have c_17 := ((l_cmp_gt _ _).mp c_17)
      have c_17 : 9 < r_2 := c_17
      obtain ⟨sa, hstr⟩ := zstr hz (own := RX0) (k := 72) (text := "y is no whole number 0 .. 9") (by decide +kernel)
      exact xq_thr (vx_throwS (own := RX0) (cls := "java/lang/ArithmeticException") (text := "y is no whole number 0 .. 9") (names := ["java/lang/RuntimeException", "java/lang/Exception"]) hx hb hl9 hown (by decide +kernel) (by decide +kernel) (hts (.classLink RX0 43 "java/lang/ArithmeticException") (by decide +kernel)) (hts (.initialized "java/lang/ArithmeticException") (by decide +kernel)) hstr (zhat hz hts (by decide +kernel) (fun w hw => List.mem_cons_of_mem _ (List.mem_append_left _ (List.mem_append_right _ hw))) (by decide +kernel)) (by decide +kernel) hz.2.1 hz.2.2.1 hS (hl.1.trans hml.symm) dX0_asPlaces_30 dX0_asPlaces_33 dX0_asPlaces_34 dX0_asPlaces_36 dX0_asPlaces_39 (fun x hx => (hEx x hx).elim) (Nat.le_of_ble_eq_true rfl) (Nat.le_of_ble_eq_true rfl) (Nat.le_of_ble_eq_true rfl) (Nat.le_of_ble_eq_true rfl) hlocks (fun t ha hsz hk => ⟨(), trivial, (by unfold D_asPlaces; first | simp only [hw_2, eq_false c_9, eq_true c_17, ↓reduceIte] | rfl), Nat.le_trans hS.1 hsz, fun q h1 h2 => (hk q (Nat.lt_of_lt_of_le h1 hS.1)).trans (hS.2.1 q h1 h2)⟩) hS.2.2 (Nat.le_of_ble_eq_true rfl) (Nat.le_of_ble_eq_true rfl))
    · have c_17 := (mt (l_cmp_gt _ _).mpr c_17)
      have c_17 : ¬ (9 < r_2) := c_17
      refine lv_lload_n hx hb dX0_asPlaces_20 rfl (lv_at hl 0 rfl) ?_
      refine lv_iload_n hx hb dX0_asPlaces_21 rfl (lv_at hl 2 rfl) ?_
      refine d_calll (As := [.long r_2, .int i0]) (rest := []) hx hb hml hown hts hEx hlocks hz hS (c_D_raise l hl9 H.size r_2 i0) (va_cwS 2 hts gX0_asPlaces_X0_raise rfl rfl rfl (by decide +kernel) ⟨(Nat.le_of_ble_eq_true rfl), (Nat.le_of_ble_eq_true rfl)⟩) rfl hl.1 rfl (Nat.le_of_ble_eq_true rfl) dX0_asPlaces_22 ⟨(Nat.le_of_ble_eq_true rfl), (Nat.le_of_ble_eq_true rfl)⟩ ⟨rfl, rfl⟩ (fun E hw_22 => (by unfold D_asPlaces; first | simp only [hw_2, eq_false c_9, eq_false c_17, hw_22, ↓reduceIte] | rfl)) (fun r_22 H locs hw_22 hS => ?_)
      refine lv_lload_n hx hb dX0_asPlaces_25 rfl (lv_at hl 1 rfl) ?_
      refine W.lcmp hx hb dX0_asPlaces_26 ?_
      refine lv_if_eq (tgt := 40) hx hb dX0_asPlaces_27 (by decide) (fun c_27 => ?_) (fun c_27 => ?_)
      · have c_27 := ((l_cmp_eq _ _).mp c_27)
        have c_27 : r_22 = a0 := c_27
        refine lv_lload_n hx hb dX0_asPlaces_40 rfl (lv_at hl 0 rfl) ?_
        refine lv_l2i hx hb dX0_asPlaces_41 rfl ?_
        exact xq_ret (W.iret (v := r_2.toInt32) hx hb hr (fun t ht hW => ⟨⟨_, (), rfl, (by unfold D_asPlaces; first | simp only [hw_2, eq_false c_9, eq_false c_17, hw_22, eq_true c_27, ↓reduceIte] | rfl), trivial⟩, dF hS ht⟩) hS.2.2 dX0_asPlaces_42 hlocks)
      · have c_27 := (mt (l_cmp_eq _ _).mpr c_27)
        have c_27 : ¬ (r_22 = a0) := c_27
        obtain ⟨sa, hstr⟩ := zstr hz (own := RX0) (k := 72) (text := "y is no whole number 0 .. 9") (by decide +kernel)
        exact xq_thr (vx_throwS (own := RX0) (cls := "java/lang/ArithmeticException") (text := "y is no whole number 0 .. 9") (names := ["java/lang/RuntimeException", "java/lang/Exception"]) hx hb hl9 hown (by decide +kernel) (by decide +kernel) (hts (.classLink RX0 43 "java/lang/ArithmeticException") (by decide +kernel)) (hts (.initialized "java/lang/ArithmeticException") (by decide +kernel)) hstr (zhat hz hts (by decide +kernel) (fun w hw => List.mem_cons_of_mem _ (List.mem_append_left _ (List.mem_append_right _ hw))) (by decide +kernel)) (by decide +kernel) hz.2.1 hz.2.2.1 hS (hl.1.trans hml.symm) dX0_asPlaces_30 dX0_asPlaces_33 dX0_asPlaces_34 dX0_asPlaces_36 dX0_asPlaces_39 (fun x hx => (hEx x hx).elim) (Nat.le_of_ble_eq_true rfl) (Nat.le_of_ble_eq_true rfl) (Nat.le_of_ble_eq_true rfl) (Nat.le_of_ble_eq_true rfl) hlocks (fun t ha hsz hk => ⟨(), trivial, (by unfold D_asPlaces; first | simp only [hw_2, eq_false c_9, eq_false c_17, hw_22, eq_false c_27, ↓reduceIte] | rfl), Nat.le_trans hS.1 hsz, fun q h1 h2 => (hk q (Nat.lt_of_lt_of_le h1 hS.1)).trans (hS.2.1 q h1 h2)⟩) hS.2.2 (Nat.le_of_ble_eq_true rfl) (Nat.le_of_ble_eq_true rfl))
def J_compare (a0 : Int64) (b0 : Int64) : Int32 := if b0 ≤ a0 then (if a0 = b0 then 0 else 1) else (-1)
set_option maxHeartbeats 4000000 in
set_option maxRecDepth 100000 in
theorem c_J_compare (l : Launch) (a0 : Int64) (b0 : Int64) : Met l yJ13_compare_74951 wsJ13_compare_74951 ({ frames := 0, cells := 0, slots := 0, locals := 0 } : Room) (va_Pc [.long a0, .long b0] (fun _ => True)) (QcRead (J_compare a0 b0)) 0 0 (fun _ => False) := by
  refine s_ofW (cc := cJ13_compare_74951) (maxL := 4) (ret := (some .int)) (cls := RJ13) (by decide) rfl rfl (Nat.le_of_ble_eq_true rfl) ?_
  intro p e s m below meth c hx hb hts hown hr hlocks hml ls hl
  have hl : lv_has ls 4 [(0, .long a0), (2, .long b0)] := hl
  refine lv_lload_n hx hb dJ13_compare_74951_0 rfl (lv_at hl 0 rfl) ?_
  refine lv_lload_n hx hb dJ13_compare_74951_1 rfl (lv_at hl 1 rfl) ?_
  refine W.lcmp hx hb dJ13_compare_74951_2 ?_
  refine lv_if_ge (tgt := 10) hx hb dJ13_compare_74951_3 (by decide) (fun c_3 => ?_) (fun c_3 => ?_)
  · have c_3 := ((l_cmp_ge _ _).mp c_3)
    have c_3 : b0 ≤ a0 := c_3
    refine lv_lload_n hx hb dJ13_compare_74951_10 rfl (lv_at hl 0 rfl) ?_
    refine lv_lload_n hx hb dJ13_compare_74951_11 rfl (lv_at hl 1 rfl) ?_
    refine W.lcmp hx hb dJ13_compare_74951_12 ?_
    refine lv_if_ne (tgt := 20) hx hb dJ13_compare_74951_13 (by decide) (fun c_13 => ?_) (fun c_13 => ?_)
    · have c_13 := (mt (l_cmp_eq _ _).mpr c_13)
      have c_13 : ¬ (a0 = b0) := c_13
      refine lv_iconst (v := 1) hx hb dJ13_compare_74951_20 (by decide) ?_
      exact W.iret hx hb hr (fun t ht hW => ⟨(by simp only [J_compare, eq_true c_3, eq_false c_13, ↓reduceIte, not_false_eq_true, not_true_eq_false, eq_self]), ht⟩) (fun q h => nomatch h) dJ13_compare_74951_21 hlocks
    · have c_13 := ((l_cmp_eq _ _).mp c_13)
      have c_13 : a0 = b0 := c_13
      refine lv_iconst (v := 0) hx hb dJ13_compare_74951_16 (by decide) ?_
      refine lv_goto (tgt := 21) hx hb dJ13_compare_74951_17 (by decide) ?_
      exact W.iret hx hb hr (fun t ht hW => ⟨(by simp only [J_compare, eq_true c_3, eq_true c_13, ↓reduceIte, not_false_eq_true, not_true_eq_false, eq_self]), ht⟩) (fun q h => nomatch h) dJ13_compare_74951_21 hlocks
  · have c_3 := (mt (l_cmp_ge _ _).mpr c_3)
    have c_3 : ¬ (b0 ≤ a0) := c_3
    refine lv_iconst (v := -1) hx hb dJ13_compare_74951_6 (by decide) ?_
    refine lv_goto (tgt := 21) hx hb dJ13_compare_74951_7 (by decide) ?_
    exact W.iret hx hb hr (fun t ht hW => ⟨(by simp only [J_compare, eq_false c_3, ↓reduceIte, not_false_eq_true, not_true_eq_false, eq_self]), ht⟩) (fun q h => nomatch h) dJ13_compare_74951_21 hlocks
def D_order (a0 : Int64) (i0 : Int32) (b0 : Int64) (j0 : Int32) : String ⊕ Int32 := (match D_raise a0 ((if i0 < j0 then j0 else i0) - i0) with | .inl e9 => .inl e9 | .inr r13 => (match D_raise b0 ((if i0 < j0 then j0 else i0) - j0) with | .inl e9 => .inl e9 | .inr r22 => .inr (J_compare r13 r22)))
set_option maxHeartbeats 4000000 in
set_option maxRecDepth 100000 in
theorem c_D_order (l : Launch) (hl9 : l.stackTraces = false) (sz : Nat) (a0 : Int64) (i0 : Int32) (b0 : Int64) (j0 : Int32) : xq_Met l yX0_order wsX0_order ({ frames := 8, cells := 1, slots := 6, locals := 127 } : Room) (va_Pc [.long a0, .int i0, .long b0, .int j0] (dPre sz)) (va_Qi (fun r (_ : Unit) => D_order a0 i0 b0 j0 = .inr r) (fun _ _ => True) (fun _ => False)) (dX (D_order a0 i0 b0 j0) sz) 0 0 1 6 (fun q => sz ≤ q) := by
  refine d_ofW (cc := cX0_order) (maxL := 7) (ret := (some .int)) (by decide) rfl rfl (Nat.le_of_ble_eq_true rfl) ?_
  intro p e s m below meth c hx hb hts hown hr hlocks hml hEx hsz hz hS ls hl
  subst hsz
  have hl : lv_has ls 7 [(0, .long a0), (2, .int i0), (3, .long b0), (5, .int j0)] := hl
  refine lv_iload_n hx hb dX0_order_0 rfl (lv_at hl 1 rfl) ?_
  refine lv_iload hx hb dX0_order_1 (lv_at hl 3 rfl) ?_
  refine va_mmax (own := RX0) hx hb (hml.trans hl.1.symm) hown (hts (.methodLink RX0 9 Lib.Math.max.name) (by decide +kernel)) (hts (.static Lib.Math.max.name) (by decide +kernel)) (hts (.initialized "java/lang/Math") (by decide +kernel)) (hts (.code Lib.Math.max.name Lib.Math.max.code 2 (some .int)) (by decide +kernel)) (Nat.le_of_ble_eq_true rfl) (Nat.le_of_ble_eq_true rfl) (Nat.le_of_ble_eq_true rfl) (Nat.le_of_ble_eq_true rfl) dX0_order_3 ?_
  refine lv_istore (lv' := [(6, .int (if i0 < j0 then j0 else i0)), (0, .long a0), (2, .int i0), (3, .long b0), (5, .int j0)]) hx hb dX0_order_6 hl (by decide) rfl (fun ls hl => ?_)
  refine lv_lload_n hx hb dX0_order_8 rfl (lv_at hl 1 rfl) ?_
  refine lv_iload hx hb dX0_order_9 (lv_at hl 0 rfl) ?_
  refine lv_iload_n hx hb dX0_order_11 rfl (lv_at hl 2 rfl) ?_
  refine lv_isub hx hb dX0_order_12 ?_
  refine d_calll (As := [.long a0, .int ((if i0 < j0 then j0 else i0) - i0)]) (rest := []) hx hb hml hown hts hEx hlocks hz hS (c_D_raise l hl9 s.heap.size a0 ((if i0 < j0 then j0 else i0) - i0)) (va_cwS 2 hts gX0_order_X0_raise rfl rfl rfl (by decide +kernel) ⟨(Nat.le_of_ble_eq_true rfl), (Nat.le_of_ble_eq_true rfl)⟩) rfl hl.1 rfl (Nat.le_of_ble_eq_true rfl) dX0_order_13 ⟨(Nat.le_of_ble_eq_true rfl), (Nat.le_of_ble_eq_true rfl)⟩ ⟨rfl, rfl⟩ (fun E hw_13 => (by unfold D_order; first | simp only [hw_13, ↓reduceIte] | rfl)) (fun r_13 H locs hw_13 hS => ?_)
  refine lv_lload_n hx hb dX0_order_16 rfl (lv_at hl 3 rfl) ?_
  refine lv_iload hx hb dX0_order_17 (lv_at hl 0 rfl) ?_
  refine lv_iload hx hb dX0_order_19 (lv_at hl 4 rfl) ?_
  refine lv_isub hx hb dX0_order_21 ?_
  refine d_calll (As := [.long b0, .int ((if i0 < j0 then j0 else i0) - j0)]) (rest := [.long r_13]) hx hb hml hown hts hEx hlocks hz hS (c_D_raise l hl9 H.size b0 ((if i0 < j0 then j0 else i0) - j0)) (va_cwS 2 hts gX0_order_X0_raise rfl rfl rfl (by decide +kernel) ⟨(Nat.le_of_ble_eq_true rfl), (Nat.le_of_ble_eq_true rfl)⟩) rfl hl.1 rfl (Nat.le_of_ble_eq_true rfl) dX0_order_22 ⟨(Nat.le_of_ble_eq_true rfl), (Nat.le_of_ble_eq_true rfl)⟩ ⟨rfl, rfl⟩ (fun E hw_22 => (by unfold D_order; first | simp only [hw_13, hw_22, ↓reduceIte] | rfl)) (fun r_22 H locs hw_22 hS => ?_)
  refine W.callR (W.runS (As := [.long r_13, .long r_22]) (rest := []) ⟨hx, hb, hml, hown, hts⟩ (c_J_compare l r_13 r_22) (va_cwS 2 hts gX0_order_J13_compare_74951 rfl rfl rfl (by decide +kernel) ⟨Nat.le_of_ble_eq_true rfl, Nat.le_of_ble_eq_true rfl⟩) ⟨fun a U g mk q => q, fun U _ _ => ⟨rfl, trivial⟩⟩ rfl rfl hl.1 rfl (lv_room (Nat.le_of_ble_eq_true rfl)) dX0_order_25 ⟨Nat.zero_le _, Nat.zero_le _⟩) ?_
  refine W.eq (g2 := F0 m 28 ls [.int (J_compare r_13 r_22)]) rfl ?_
  exact xq_ret (W.iret (v := (J_compare r_13 r_22)) hx hb hr (fun t ht hW => ⟨⟨_, (), rfl, (by unfold D_order; first | simp only [hw_13, hw_22, ↓reduceIte] | rfl), trivial⟩, dF hS ht⟩) hS.2.2 dX0_order_28 hlocks)
def D_root_L38 (a0 : Int64) (i0 : Int32) (j0 : Int32) : Nat → Int64 → Int64 → Int64 → Int32 → String ⊕ Int64
  | 0, _, _, _, _ => .inr 0
  | f + 1, q0, l0, h0, n0 => if 31 ≤ n0 then (.inr l0) else if h0 ≤ l0 then (.inr l0) else if q0 < ((((l0 + h0) + 1) / 2) * (((l0 + h0) + 1) / 2)) then (D_root_L38 a0 i0 j0 f q0 l0 ((((l0 + h0) + 1) / 2) - 1) (n0 + 1)) else D_root_L38 a0 i0 j0 f q0 (((l0 + h0) + 1) / 2) h0 (n0 + 1)
def D_root (a0 : Int64) (i0 : Int32) (j0 : Int32) : String ⊕ Int64 := if 0 ≤ a0 then ((match D_raise a0 ((2 * j0) - i0) with | .inl e9 => .inl e9 | .inr r22 => D_root_L38 a0 i0 j0 (32) r22 0 999999999 0)) else .inl "java/lang/ArithmeticException"
set_option maxHeartbeats 4000000 in
set_option maxRecDepth 100000 in
theorem c_D_root_L38 {p : Program} (l : Launch) (hl9 : l.stackTraces = false) {e : Env} {s : State} {m : MethodId} {below : List Frame} {meth : Method} {c : Code} (a0 : Int64) (i0 : Int32) (j0 : Int32) (hx : p.tables.exec = Jvm.exec) (hb : c.code = cX0_root) (hts : ∀ w ∈ wsX0_root, w.before ([.long a0, .int i0, .int j0] : List Value).toArray s = true) (hown : s.vm.findClass RX0 = some m.cls) (hr : meth.sig.returnType = (some .long)) (hlocks : meth.locks = false) (hml : c.maxLocals = 13) (hEx : ∀ x ∈ c.exceptionTable.toList, False) (hz : zX (fun q => s.heap.size ≤ q) s) (H : Heap) (locs : List Loc) (hS : va_S (fun q => s.heap.size ≤ q) s.heap H locs) :
    ∀ (fu : Nat) (q0 : Int64) (l0 : Int64) (h0 : Int64) (n0 : Int32), D_root a0 i0 j0 = D_root_L38 a0 i0 j0 fu q0 l0 h0 n0 → (0 ≤ n0.toInt) → (n0.toInt ≤ 31) → (32 ≤ n0.toInt + (fu : Int)) → ∀ ls : Array Slot, lv_has ls 13 [(4, .long q0), (6, .long l0), (8, .long h0), (10, .int n0)] → W p l e ({ frames := 8, cells := 1, slots := 6, locals := 127 } : Room) s m ([.long a0, .int i0, .int j0] : List Value).toArray below meth c H locs 0 0 (xq_MQ below (va_Ql (fun r (_ : Unit) => D_root a0 i0 j0 = .inr r) (fun _ _ => True) (fun _ => False)) (dX (D_root a0 i0 j0) s.heap.size) ([.long a0, .int i0, .int j0] : List Value).toArray s 0 0 1 6 (fun q => s.heap.size ≤ q)) (F0 m 38 ls []) := by
  intro fu
  induction fu with
  | zero =>
    intro q0 l0 h0 n0 hI hi0 hi1 hi2
    exact absurd hi2 (by omega)
  | succ fu ih =>
    intro q0 l0 h0 n0 hI hi0 hi1 hi2 ls hl
    refine lv_iload hx hb dX0_root_38 (lv_at hl 3 rfl) ?_
    refine lv_bipush (v := 31) hx hb dX0_root_40 (by decide) ?_
    refine lv_icmp_ge (tgt := 96) hx hb dX0_root_42 (by decide) (fun c_42 => ?_) (fun c_42 => ?_)
    · have c_42 : 31 ≤ n0 := c_42
      refine lv_lload hx hb dX0_root_96 (lv_at hl 1 rfl) ?_
      exact xq_ret (W.lret (v := l0) hx hb hr (fun t ht hW => ⟨⟨_, (), rfl, (by rw [hI]; simp only [D_root_L38, eq_true c_42, ↓reduceIte]), trivial⟩, dF hS ht⟩) hS.2.2 dX0_root_98 hlocks)
    · have c_42 : ¬ (31 ≤ n0) := c_42
      have k_42 : n0.toInt < 31 := by have h9 := c_42; rw [Int32.not_le, Int32.lt_iff_toInt_lt] at h9; exact h9
      have e_42 : (n0 + 1).toInt = n0.toInt + 1 := i_addE rfl (show (1 : Int32).toInt = 1 from rfl) (by omega) (by omega)
      refine lv_lload hx hb dX0_root_45 (lv_at hl 1 rfl) ?_
      refine lv_lload hx hb dX0_root_47 (lv_at hl 2 rfl) ?_
      refine W.lcmp hx hb dX0_root_49 ?_
      refine lv_if_ge (tgt := 96) hx hb dX0_root_50 (by decide) (fun c_50 => ?_) (fun c_50 => ?_)
      · have c_50 := ((l_cmp_ge _ _).mp c_50)
        have c_50 : h0 ≤ l0 := c_50
        refine lv_lload hx hb dX0_root_96 (lv_at hl 1 rfl) ?_
        exact xq_ret (W.lret (v := l0) hx hb hr (fun t ht hW => ⟨⟨_, (), rfl, (by rw [hI]; simp only [D_root_L38, eq_false c_42, eq_true c_50, ↓reduceIte]), trivial⟩, dF hS ht⟩) hS.2.2 dX0_root_98 hlocks)
      · have c_50 := (mt (l_cmp_ge _ _).mpr c_50)
        have c_50 : ¬ (h0 ≤ l0) := c_50
        refine lv_lload hx hb dX0_root_53 (lv_at hl 1 rfl) ?_
        refine lv_lload hx hb dX0_root_55 (lv_at hl 2 rfl) ?_
        refine lv_ladd hx hb dX0_root_57 ?_
        refine lv_lconst (v := 1) hx hb dX0_root_58 (by decide) ?_
        refine lv_ladd hx hb dX0_root_59 ?_
        refine lv_ldc2 (v := 2) hx hb hown (hts (.constantLong RX0 65 (2)) (by decide +kernel)) dX0_root_60 ?_
        refine lv_ldiv hx hb dX0_root_63 (by decide) ?_
        refine lv_lstore (lv' := [(11, .long (((l0 + h0) + 1) / 2)), (4, .long q0), (6, .long l0), (8, .long h0), (10, .int n0)]) hx hb dX0_root_64 hl (by decide) rfl (fun ls hl => ?_)
        refine lv_lload hx hb dX0_root_66 (lv_at hl 0 rfl) ?_
        refine lv_lload hx hb dX0_root_68 (lv_at hl 0 rfl) ?_
        refine lv_lmul hx hb dX0_root_70 ?_
        refine lv_lload hx hb dX0_root_71 (lv_at hl 1 rfl) ?_
        refine W.lcmp hx hb dX0_root_73 ?_
        refine lv_if_gt (tgt := 84) hx hb dX0_root_74 (by decide) (fun c_74 => ?_) (fun c_74 => ?_)
        · have c_74 := ((l_cmp_gt _ _).mp c_74)
          have c_74 : q0 < ((((l0 + h0) + 1) / 2) * (((l0 + h0) + 1) / 2)) := c_74
          refine lv_lload hx hb dX0_root_84 (lv_at hl 0 rfl) ?_
          refine lv_lconst (v := 1) hx hb dX0_root_86 (by decide) ?_
          refine lv_lsub hx hb dX0_root_87 ?_
          refine lv_lstore (lv' := [(8, .long ((((l0 + h0) + 1) / 2) - 1)), (11, .long (((l0 + h0) + 1) / 2)), (4, .long q0), (6, .long l0), (10, .int n0)]) hx hb dX0_root_88 hl (by decide) rfl (fun ls hl => ?_)
          refine lv_iinc (v := (n0 + 1)) (lv' := [(10, .int (n0 + 1)), (8, .long ((((l0 + h0) + 1) / 2) - 1)), (11, .long (((l0 + h0) + 1) / 2)), (4, .long q0), (6, .long l0)]) hx hb dX0_root_90 hl (k := 4) rfl rfl (by decide) rfl (fun ls hl => ?_)
          refine lv_goto (tgt := 38) hx hb dX0_root_93 (by decide) ?_
          exact ih q0 l0 ((((l0 + h0) + 1) / 2) - 1) (n0 + 1) (by rw [hI]; simp only [D_root_L38, eq_false c_42, eq_false c_50, eq_true c_74, ↓reduceIte]) (by omega) (by omega) (by omega) ls (lv_sub hl [3, 4, 1, 0] rfl)
        · have c_74 := (mt (l_cmp_gt _ _).mpr c_74)
          have c_74 : ¬ (q0 < ((((l0 + h0) + 1) / 2) * (((l0 + h0) + 1) / 2))) := c_74
          refine lv_lload hx hb dX0_root_77 (lv_at hl 0 rfl) ?_
          refine lv_lstore (lv' := [(6, .long (((l0 + h0) + 1) / 2)), (11, .long (((l0 + h0) + 1) / 2)), (4, .long q0), (8, .long h0), (10, .int n0)]) hx hb dX0_root_79 hl (by decide) rfl (fun ls hl => ?_)
          refine lv_goto (tgt := 90) hx hb dX0_root_81 (by decide) ?_
          refine lv_iinc (v := (n0 + 1)) (lv' := [(10, .int (n0 + 1)), (6, .long (((l0 + h0) + 1) / 2)), (11, .long (((l0 + h0) + 1) / 2)), (4, .long q0), (8, .long h0)]) hx hb dX0_root_90 hl (k := 4) rfl rfl (by decide) rfl (fun ls hl => ?_)
          refine lv_goto (tgt := 38) hx hb dX0_root_93 (by decide) ?_
          exact ih q0 (((l0 + h0) + 1) / 2) h0 (n0 + 1) (by rw [hI]; simp only [D_root_L38, eq_false c_42, eq_false c_50, eq_false c_74, ↓reduceIte]) (by omega) (by omega) (by omega) ls (lv_sub hl [3, 1, 4, 0] rfl)
set_option maxHeartbeats 4000000 in
set_option maxRecDepth 100000 in
theorem c_D_root (l : Launch) (hl9 : l.stackTraces = false) (sz : Nat) (a0 : Int64) (i0 : Int32) (j0 : Int32) : xq_Met l yX0_root wsX0_root ({ frames := 8, cells := 1, slots := 6, locals := 127 } : Room) (va_Pc [.long a0, .int i0, .int j0] (dPre sz)) (va_Ql (fun r (_ : Unit) => D_root a0 i0 j0 = .inr r) (fun _ _ => True) (fun _ => False)) (dX (D_root a0 i0 j0) sz) 0 0 1 6 (fun q => sz ≤ q) := by
  refine d_ofW (cc := cX0_root) (maxL := 13) (ret := (some .long)) (by decide) rfl rfl (Nat.le_of_ble_eq_true rfl) ?_
  intro p e s m below meth c hx hb hts hown hr hlocks hml hEx hsz hz hS ls hl
  subst hsz
  have hl : lv_has ls 13 [(0, .long a0), (2, .int i0), (3, .int j0)] := hl
  refine lv_lload_n hx hb dX0_root_0 rfl (lv_at hl 0 rfl) ?_
  refine lv_lconst (v := 0) hx hb dX0_root_1 (by decide) ?_
  refine W.lcmp hx hb dX0_root_2 ?_
  refine lv_if_ge (tgt := 16) hx hb dX0_root_3 (by decide) (fun c_3 => ?_) (fun c_3 => ?_)
  · have c_3 := ((l_cmp_ge _ _).mp c_3)
    have c_3 : 0 ≤ a0 := c_3
    refine lv_lload_n hx hb dX0_root_16 rfl (lv_at hl 0 rfl) ?_
    refine lv_iconst (v := 2) hx hb dX0_root_17 (by decide) ?_
    refine lv_iload_n hx hb dX0_root_18 rfl (lv_at hl 2 rfl) ?_
    refine lv_imul hx hb dX0_root_19 ?_
    refine lv_iload_n hx hb dX0_root_20 rfl (lv_at hl 1 rfl) ?_
    refine lv_isub hx hb dX0_root_21 ?_
    refine d_calll (As := [.long a0, .int ((2 * j0) - i0)]) (rest := []) hx hb hml hown hts hEx hlocks hz hS (c_D_raise l hl9 s.heap.size a0 ((2 * j0) - i0)) (va_cwS 2 hts gX0_root_X0_raise rfl rfl rfl (by decide +kernel) ⟨(Nat.le_of_ble_eq_true rfl), (Nat.le_of_ble_eq_true rfl)⟩) rfl hl.1 rfl (Nat.le_of_ble_eq_true rfl) dX0_root_22 ⟨(Nat.le_of_ble_eq_true rfl), (Nat.le_of_ble_eq_true rfl)⟩ ⟨rfl, rfl⟩ (fun E hw_22 => (by unfold D_root; first | simp only [eq_true c_3, hw_22, ↓reduceIte] | rfl)) (fun r_22 H locs hw_22 hS => ?_)
    refine lv_lstore (lv' := [(4, .long r_22), (0, .long a0), (2, .int i0), (3, .int j0)]) hx hb dX0_root_25 hl (by decide) rfl (fun ls hl => ?_)
    refine lv_lconst (v := 0) hx hb dX0_root_27 (by decide) ?_
    refine lv_lstore (lv' := [(6, .long 0), (4, .long r_22), (0, .long a0), (2, .int i0), (3, .int j0)]) hx hb dX0_root_28 hl (by decide) rfl (fun ls hl => ?_)
    refine lv_ldc2 (v := 999999999) hx hb hown (hts (.constantLong RX0 63 (999999999)) (by decide +kernel)) dX0_root_30 ?_
    refine lv_lstore (lv' := [(8, .long 999999999), (6, .long 0), (4, .long r_22), (0, .long a0), (2, .int i0), (3, .int j0)]) hx hb dX0_root_33 hl (by decide) rfl (fun ls hl => ?_)
    refine lv_iconst (v := 0) hx hb dX0_root_35 (by decide) ?_
    refine lv_istore (lv' := [(10, .int 0), (8, .long 999999999), (6, .long 0), (4, .long r_22), (0, .long a0), (2, .int i0), (3, .int j0)]) hx hb dX0_root_36 hl (by decide) rfl (fun ls hl => ?_)
    exact c_D_root_L38 l hl9 a0 i0 j0 hx hb hts hown hr hlocks hml hEx hz _ _ hS 32 r_22 0 999999999 0 (by unfold D_root; first | simp only [eq_true c_3, hw_22, ↓reduceIte] | rfl) (by decide) (by decide) (by decide) ls (lv_sub hl [3, 2, 1, 0] rfl)
  · have c_3 := (mt (l_cmp_ge _ _).mpr c_3)
    have c_3 : ¬ (0 ≤ a0) := c_3
    obtain ⟨sa, hstr⟩ := zstr hz (own := RX0) (k := 61) (text := "y is below 0") (by decide +kernel)
    exact xq_thr (vx_throwS (own := RX0) (cls := "java/lang/ArithmeticException") (text := "y is below 0") (names := ["java/lang/RuntimeException", "java/lang/Exception"]) hx hb hl9 hown (by decide +kernel) (by decide +kernel) (hts (.classLink RX0 43 "java/lang/ArithmeticException") (by decide +kernel)) (hts (.initialized "java/lang/ArithmeticException") (by decide +kernel)) hstr (zhat hz hts (by decide +kernel) (fun w hw => List.mem_cons_of_mem _ (List.mem_append_left _ (List.mem_append_right _ hw))) (by decide +kernel)) (by decide +kernel) hz.2.1 hz.2.2.1 hS (hl.1.trans hml.symm) dX0_root_6 dX0_root_9 dX0_root_10 dX0_root_12 dX0_root_15 (fun x hx => (hEx x hx).elim) (Nat.le_of_ble_eq_true rfl) (Nat.le_of_ble_eq_true rfl) (Nat.le_of_ble_eq_true rfl) (Nat.le_of_ble_eq_true rfl) hlocks (fun t ha hsz hk => ⟨(), trivial, (by unfold D_root; first | simp only [eq_false c_3, ↓reduceIte] | rfl), Nat.le_trans hS.1 hsz, fun q h1 h2 => (hk q (Nat.lt_of_lt_of_le h1 hS.1)).trans (hS.2.1 q h1 h2)⟩) hS.2.2 (Nat.le_of_ble_eq_true rfl) (Nat.le_of_ble_eq_true rfl))
end
