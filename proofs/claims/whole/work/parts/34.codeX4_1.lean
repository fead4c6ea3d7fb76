set_option maxRecDepth 20000 in
theorem ggX4_init_X3_init : GoodIn wsX4_init wsX3_init := goodIn_r _ [22, 23, 2, 3, 24, 25, 26, 27, 28, 29, 30, 31, 48, 49, 50, 51, 52] (by decide +kernel) (by decide +kernel)
set_option maxRecDepth 20000 in
theorem gX4_init_X3_init : GoodIn wsX4_init (wsX3_init) := ggX4_init_X3_init
set_option maxRecDepth 20000 in
theorem ggX4_init_X1_init : GoodIn wsX4_init wsX1_init := goodIn_r _ [34, 35, 2, 3, 36, 37, 26, 38, 39, 40, 60, 61, 62, 63] (by decide +kernel) (by decide +kernel)
set_option maxRecDepth 20000 in
theorem gX4_init_X1_init : GoodIn wsX4_init (wsX1_init) := ggX4_init_X1_init
set_option maxRecDepth 20000 in
theorem ggX4_init_X2_init : GoodIn wsX4_init wsX2_init := goodIn_r _ [43, 44, 2, 3, 45, 46, 47, 64, 65] (by decide +kernel) (by decide +kernel)
set_option maxRecDepth 20000 in
theorem gX4_init_X2_init : GoodIn wsX4_init (wsX2_init) := ggX4_init_X2_init
theorem dX4_init_0 : decode cX4_init 0 = .ok (.aload_n 0, 1) := by decide +kernel
theorem dX4_init_1 : decode cX4_init 1 = .ok (.invokespecial 1, 3) := by decide +kernel
theorem dX4_init_4 : decode cX4_init 4 = .ok (.aload_n 0, 1) := by decide +kernel
theorem dX4_init_5 : decode cX4_init 5 = .ok (.new 7, 3) := by decide +kernel
theorem dX4_init_8 : decode cX4_init 8 = .ok (.dup, 1) := by decide +kernel
theorem dX4_init_9 : decode cX4_init 9 = .ok (.bipush 40, 2) := by decide +kernel
theorem dX4_init_11 : decode cX4_init 11 = .ok (.invokespecial 11, 3) := by decide +kernel
theorem dX4_init_14 : decode cX4_init 14 = .ok (.putfield 14, 3) := by decide +kernel
theorem dX4_init_17 : decode cX4_init 17 = .ok (.aload_n 0, 1) := by decide +kernel
theorem dX4_init_18 : decode cX4_init 18 = .ok (.iconst 4, 1) := by decide +kernel
theorem dX4_init_19 : decode cX4_init 19 = .ok (.anewarray 7, 3) := by decide +kernel
theorem dX4_init_22 : decode cX4_init 22 = .ok (.putfield 18, 3) := by decide +kernel
theorem dX4_init_25 : decode cX4_init 25 = .ok (.iconst 0, 1) := by decide +kernel
theorem dX4_init_26 : decode cX4_init 26 = .ok (.istore_n 1, 1) := by decide +kernel
theorem dX4_init_27 : decode cX4_init 27 = .ok (.iload_n 1, 1) := by decide +kernel
theorem dX4_init_28 : decode cX4_init 28 = .ok (.aload_n 0, 1) := by decide +kernel
theorem dX4_init_29 : decode cX4_init 29 = .ok (.getfield 18, 3) := by decide +kernel
theorem dX4_init_32 : decode cX4_init 32 = .ok (.arraylength, 1) := by decide +kernel
theorem dX4_init_33 : decode cX4_init 33 = .ok (.if_icmp .ge 24, 3) := by decide +kernel
theorem dX4_init_36 : decode cX4_init 36 = .ok (.aload_n 0, 1) := by decide +kernel
theorem dX4_init_37 : decode cX4_init 37 = .ok (.getfield 18, 3) := by decide +kernel
theorem dX4_init_40 : decode cX4_init 40 = .ok (.iload_n 1, 1) := by decide +kernel
theorem dX4_init_41 : decode cX4_init 41 = .ok (.new 7, 3) := by decide +kernel
theorem dX4_init_44 : decode cX4_init 44 = .ok (.dup, 1) := by decide +kernel
theorem dX4_init_45 : decode cX4_init 45 = .ok (.bipush 10, 2) := by decide +kernel
theorem dX4_init_47 : decode cX4_init 47 = .ok (.invokespecial 11, 3) := by decide +kernel
theorem dX4_init_50 : decode cX4_init 50 = .ok (.aastore, 1) := by decide +kernel
theorem dX4_init_51 : decode cX4_init 51 = .ok (.iinc 1 1, 3) := by decide +kernel
theorem dX4_init_54 : decode cX4_init 54 = .ok (.goto (-27), 3) := by decide +kernel
theorem dX4_init_57 : decode cX4_init 57 = .ok (.aload_n 0, 1) := by decide +kernel
theorem dX4_init_58 : decode cX4_init 58 = .ok (.new 7, 3) := by decide +kernel
theorem dX4_init_61 : decode cX4_init 61 = .ok (.dup, 1) := by decide +kernel
theorem dX4_init_62 : decode cX4_init 62 = .ok (.bipush 40, 2) := by decide +kernel
theorem dX4_init_64 : decode cX4_init 64 = .ok (.invokespecial 11, 3) := by decide +kernel
theorem dX4_init_67 : decode cX4_init 67 = .ok (.putfield 22, 3) := by decide +kernel
theorem dX4_init_70 : decode cX4_init 70 = .ok (.aload_n 0, 1) := by decide +kernel
theorem dX4_init_71 : decode cX4_init 71 = .ok (.new 25, 3) := by decide +kernel
theorem dX4_init_74 : decode cX4_init 74 = .ok (.dup, 1) := by decide +kernel
theorem dX4_init_75 : decode cX4_init 75 = .ok (.invokespecial 27, 3) := by decide +kernel
theorem dX4_init_78 : decode cX4_init 78 = .ok (.putfield 28, 3) := by decide +kernel
theorem dX4_init_81 : decode cX4_init 81 = .ok (.aload_n 0, 1) := by decide +kernel
theorem dX4_init_82 : decode cX4_init 82 = .ok (.new 32, 3) := by decide +kernel
theorem dX4_init_85 : decode cX4_init 85 = .ok (.dup, 1) := by decide +kernel
theorem dX4_init_86 : decode cX4_init 86 = .ok (.invokespecial 34, 3) := by decide +kernel
theorem dX4_init_89 : decode cX4_init 89 = .ok (.putfield 35, 3) := by decide +kernel
theorem dX4_init_92 : decode cX4_init 92 = .ok (.aload_n 0, 1) := by decide +kernel
theorem dX4_init_93 : decode cX4_init 93 = .ok (.iconst 0, 1) := by decide +kernel
theorem dX4_init_94 : decode cX4_init 94 = .ok (.putfield 39, 3) := by decide +kernel
theorem dX4_init_97 : decode cX4_init 97 = .ok (.aload_n 0, 1) := by decide +kernel
theorem dX4_init_98 : decode cX4_init 98 = .ok (.iconst 0, 1) := by decide +kernel
theorem dX4_init_99 : decode cX4_init 99 = .ok (.putfield 43, 3) := by decide +kernel
theorem dX4_init_102 : decode cX4_init 102 = .ok (.return_, 1) := by decide +kernel
set_option maxRecDepth 20000 in
theorem ggX4_write_X4_charOf : GoodIn wsX4_write wsX4_charOf := goodIn_r _ [6] (by decide +kernel) (by decide +kernel)
set_option maxRecDepth 20000 in
theorem gX4_write_X4_charOf : GoodIn wsX4_write (va_wsS RX4 46 yX4_charOf wsX4_charOf) := goodIn_app (goodIn_of _ (by decide +kernel)) ggX4_write_X4_charOf
set_option maxRecDepth 20000 in
theorem ggX4_write_X2_append : GoodIn wsX4_write wsX2_append := goodIn_r _ [11, 12, 13, 21, 22] (by decide +kernel) (by decide +kernel)
set_option maxRecDepth 20000 in
theorem gX4_write_X2_append : GoodIn wsX4_write (wsV RX4 53 RX2 yX2_append wsX2_append) := goodIn_app (goodIn_of _ (by decide +kernel)) ggX4_write_X2_append
theorem dX4_write_0 : decode cX4_write 0 = .ok (.iconst 0, 1) := by decide +kernel
theorem dX4_write_1 : decode cX4_write 1 = .ok (.istore_n 3, 1) := by decide +kernel
theorem dX4_write_2 : decode cX4_write 2 = .ok (.iload_n 3, 1) := by decide +kernel
theorem dX4_write_3 : decode cX4_write 3 = .ok (.bipush 8, 2) := by decide +kernel
theorem dX4_write_5 : decode cX4_write 5 = .ok (.if_icmp .ge 29, 3) := by decide +kernel
theorem dX4_write_8 : decode cX4_write 8 = .ok (.lload_n 1, 1) := by decide +kernel
theorem dX4_write_9 : decode cX4_write 9 = .ok (.iload_n 3, 1) := by decide +kernel
theorem dX4_write_10 : decode cX4_write 10 = .ok (.invokestatic 46, 3) := by decide +kernel
theorem dX4_write_13 : decode cX4_write 13 = .ok (.ifCond .eq 21, 3) := by decide +kernel
theorem dX4_write_16 : decode cX4_write 16 = .ok (.lload_n 1, 1) := by decide +kernel
theorem dX4_write_17 : decode cX4_write 17 = .ok (.iload_n 3, 1) := by decide +kernel
theorem dX4_write_18 : decode cX4_write 18 = .ok (.invokestatic 46, 3) := by decide +kernel
theorem dX4_write_21 : decode cX4_write 21 = .ok (.bipush 127, 2) := by decide +kernel
theorem dX4_write_23 : decode cX4_write 23 = .ok (.if_icmp .le 5, 3) := by decide +kernel
theorem dX4_write_26 : decode cX4_write 26 = .ok (.iconst (-1), 1) := by decide +kernel
theorem dX4_write_27 : decode cX4_write 27 = .ok (.ireturn, 1) := by decide +kernel
theorem dX4_write_28 : decode cX4_write 28 = .ok (.iinc 3 1, 3) := by decide +kernel
theorem dX4_write_31 : decode cX4_write 31 = .ok (.goto (-29), 3) := by decide +kernel
theorem dX4_write_34 : decode cX4_write 34 = .ok (.aload_n 0, 1) := by decide +kernel
theorem dX4_write_35 : decode cX4_write 35 = .ok (.getfield 35, 3) := by decide +kernel
theorem dX4_write_38 : decode cX4_write 38 = .ok (.getfield 50, 3) := by decide +kernel
theorem dX4_write_41 : decode cX4_write 41 = .ok (.iload_n 3, 1) := by decide +kernel
theorem dX4_write_42 : decode cX4_write 42 = .ok (.iadd, 1) := by decide +kernel
theorem dX4_write_43 : decode cX4_write 43 = .ok (.sipush 160, 3) := by decide +kernel
theorem dX4_write_46 : decode cX4_write 46 = .ok (.if_icmp .le 5, 3) := by decide +kernel
theorem dX4_write_49 : decode cX4_write 49 = .ok (.iconst (-1), 1) := by decide +kernel
theorem dX4_write_50 : decode cX4_write 50 = .ok (.ireturn, 1) := by decide +kernel
theorem dX4_write_51 : decode cX4_write 51 = .ok (.iconst 0, 1) := by decide +kernel
theorem dX4_write_52 : decode cX4_write 52 = .ok (.istore 4, 2) := by decide +kernel
theorem dX4_write_54 : decode cX4_write 54 = .ok (.iload 4, 2) := by decide +kernel
theorem dX4_write_56 : decode cX4_write 56 = .ok (.iload_n 3, 1) := by decide +kernel
theorem dX4_write_57 : decode cX4_write 57 = .ok (.if_icmp .ge 22, 3) := by decide +kernel
theorem dX4_write_60 : decode cX4_write 60 = .ok (.aload_n 0, 1) := by decide +kernel
theorem dX4_write_61 : decode cX4_write 61 = .ok (.getfield 35, 3) := by decide +kernel
theorem dX4_write_64 : decode cX4_write 64 = .ok (.lload_n 1, 1) := by decide +kernel
theorem dX4_write_65 : decode cX4_write 65 = .ok (.iload 4, 2) := by decide +kernel
theorem dX4_write_67 : decode cX4_write 67 = .ok (.invokestatic 46, 3) := by decide +kernel
theorem dX4_write_70 : decode cX4_write 70 = .ok (.invokevirtual 53, 3) := by decide +kernel
theorem dX4_write_73 : decode cX4_write 73 = .ok (.iinc 4 1, 3) := by decide +kernel
theorem dX4_write_76 : decode cX4_write 76 = .ok (.goto (-22), 3) := by decide +kernel
theorem dX4_write_79 : decode cX4_write 79 = .ok (.iload_n 3, 1) := by decide +kernel
theorem dX4_write_80 : decode cX4_write 80 = .ok (.ireturn, 1) := by decide +kernel
set_option maxRecDepth 20000 in
theorem ggX4_erase_X2_init : GoodIn wsX4_erase wsX2_init := goodIn_r _ [8, 9, 10, 11, 12, 13, 14, 22, 23] (by decide +kernel) (by decide +kernel)
set_option maxRecDepth 20000 in
theorem gX4_erase_X2_init : GoodIn wsX4_erase (wsX2_init) := ggX4_erase_X2_init
theorem dX4_erase_0 : decode cX4_erase 0 = .ok (.aload_n 0, 1) := by decide +kernel
theorem dX4_erase_1 : decode cX4_erase 1 = .ok (.getfield 35, 3) := by decide +kernel
theorem dX4_erase_4 : decode cX4_erase 4 = .ok (.getfield 50, 3) := by decide +kernel
theorem dX4_erase_7 : decode cX4_erase 7 = .ok (.istore_n 1, 1) := by decide +kernel
theorem dX4_erase_8 : decode cX4_erase 8 = .ok (.iload_n 1, 1) := by decide +kernel
theorem dX4_erase_9 : decode cX4_erase 9 = .ok (.ifCond .le 14, 3) := by decide +kernel
theorem dX4_erase_12 : decode cX4_erase 12 = .ok (.aload_n 0, 1) := by decide +kernel
theorem dX4_erase_13 : decode cX4_erase 13 = .ok (.new 32, 3) := by decide +kernel
theorem dX4_erase_16 : decode cX4_erase 16 = .ok (.dup, 1) := by decide +kernel
theorem dX4_erase_17 : decode cX4_erase 17 = .ok (.invokespecial 34, 3) := by decide +kernel
theorem dX4_erase_20 : decode cX4_erase 20 = .ok (.putfield 35, 3) := by decide +kernel
theorem dX4_erase_23 : decode cX4_erase 23 = .ok (.iload_n 1, 1) := by decide +kernel
theorem dX4_erase_24 : decode cX4_erase 24 = .ok (.ireturn, 1) := by decide +kernel
set_option maxRecDepth 20000 in
theorem ggX4_run_X3_clear : GoodIn wsX4_run wsX3_clear := goodIn_r _ [16, 17, 293, 294, 295, 296, 297] (by decide +kernel) (by decide +kernel)
set_option maxRecDepth 20000 in
theorem gX4_run_X3_clear : GoodIn wsX4_run (wsV RX4 63 RX3 yX3_clear wsX3_clear) := goodIn_app (goodIn_of _ (by decide +kernel)) ggX4_run_X3_clear
set_option maxRecDepth 20000 in
theorem ggX4_run_X1_leaveAll : GoodIn wsX4_run wsX1_leaveAll := goodIn_r _ [22, 23, 289, 290, 291, 292] (by decide +kernel) (by decide +kernel)
set_option maxRecDepth 20000 in
theorem gX4_run_X1_leaveAll : GoodIn wsX4_run (wsV RX4 66 RX1 yX1_leaveAll wsX1_leaveAll) := goodIn_app (goodIn_of _ (by decide +kernel)) ggX4_run_X1_leaveAll
set_option maxRecDepth 20000 in
theorem ggX4_run_X1_enter : GoodIn wsX4_run wsX1_enter := goodIn_ca (goodIn_r _ [27, 28, 4, 23, 29, 30, 31, 289, 290, 291, 292] (by decide +kernel) (by decide +kernel)) (goodIn_sub (fun _ h => List.mem_cons_of_mem _ (List.mem_append_left _ (List.mem_append_left _ (List.mem_append_left _ (List.mem_append_left _ (List.mem_append_left _ (List.mem_append_right _ h))))))) (by decide +kernel))
set_option maxRecDepth 20000 in
theorem gX4_run_X1_enter : GoodIn wsX4_run (wsV RX4 69 RX1 yX1_enter wsX1_enter) := goodIn_app (goodIn_of _ (by decide +kernel)) ggX4_run_X1_enter
set_option maxRecDepth 20000 in
theorem ggX4_run_X1_skipBlanks : GoodIn wsX4_run wsX1_skipBlanks := goodIn_r _ [35, 36, 37, 38, 21, 39, 30, 23, 31, 29, 40, 41, 42, 43, 44, 45, 46, 47, 48, 49, 50, 51, 52, 53, 54, 289, 290, 291, 292, 287, 288] (by decide +kernel) (by decide +kernel)
set_option maxRecDepth 20000 in
theorem gX4_run_X1_skipBlanks : GoodIn wsX4_run (wsV RX4 77 RX1 yX1_skipBlanks wsX1_skipBlanks) := goodIn_app (goodIn_of _ (by decide +kernel)) ggX4_run_X1_skipBlanks
set_option maxRecDepth 20000 in
theorem ggX4_run_X1_look : GoodIn wsX4_run wsX1_look := goodIn_r _ [39, 30, 23, 31, 29, 40, 41, 42, 21, 43, 44, 45, 46, 47, 48, 49, 50, 289, 290, 291, 292, 287, 288] (by decide +kernel) (by decide +kernel)
set_option maxRecDepth 20000 in
theorem gX4_run_X1_look : GoodIn wsX4_run (wsV RX4 80 RX1 yX1_look wsX1_look) := goodIn_app (goodIn_of _ (by decide +kernel)) ggX4_run_X1_look
set_option maxRecDepth 20000 in
theorem ggX4_run_X1_leave : GoodIn wsX4_run wsX1_leave := goodIn_r _ [59, 23, 60, 61, 62, 63, 289, 290, 291, 292] (by decide +kernel) (by decide +kernel)
set_option maxRecDepth 20000 in
theorem gX4_run_X1_leave : GoodIn wsX4_run (wsV RX4 84 RX1 yX1_leave wsX1_leave) := goodIn_app (goodIn_of _ (by decide +kernel)) ggX4_run_X1_leave
set_option maxRecDepth 20000 in
theorem ggX4_run_X4_doCommand : GoodIn wsX4_run wsX4_doCommand := goodIn_ca (goodIn_ca (goodIn_ca (goodIn_ca (goodIn_ca (goodIn_ca (goodIn_ca (goodIn_r _ [68, 7, 55, 37, 38, 21, 39, 30, 23, 31, 29, 40, 41, 42, 43, 44, 45, 46, 47, 48, 49, 50, 69, 70, 67, 71, 72, 73, 74, 75, 76, 77, 78, 1, 2, 79, 80, 81, 52, 53, 54, 82, 83, 84, 15, 85, 86, 87, 88, 89, 90, 4, 17, 91, 92, 93, 94, 95, 96, 97, 98, 99, 100, 101, 102, 103, 104, 105, 106, 107, 108, 109, 110, 111, 112, 113, 114, 115, 116, 117, 118, 119, 120, 121, 122, 123, 124, 125, 126, 127, 61, 62, 63, 128, 129, 130, 131, 132, 133, 134, 135, 136, 137, 138, 139, 140, 141, 142, 143, 144, 145, 146, 147, 148, 149, 150, 151, 152, 153, 154, 155, 156, 157, 158, 159, 160, 161, 162, 163, 164, 165, 166, 167, 168, 169, 170, 171, 172, 173, 174, 175, 176, 177, 178, 179, 180, 181, 182, 183, 184, 185, 186, 187, 188, 189, 190, 191, 192, 193, 194, 195, 196, 197, 198, 199, 200, 201, 202, 203, 204, 205, 206, 207, 208, 209, 210, 211, 212, 213, 214, 215, 216, 217, 218, 219, 220, 221, 222, 223, 224, 225, 226, 227, 228, 229, 230, 231, 232, 233, 234, 235, 236, 237, 238, 239, 240, 241, 242, 243, 244, 245, 246, 247, 248, 249, 250, 251, 252, 253, 254, 255, 256, 257, 258, 259, 260, 261, 262, 263, 264, 33, 34, 35, 36, 51, 265, 57, 58, 59, 60, 266, 25, 26, 27, 28, 267, 268, 269, 270, 18, 19, 20, 22, 271, 272, 273, 274, 5, 275, 276, 277, 278, 12, 13, 14, 16, 279, 280, 281, 282, 283, 284, 285, 286, 289, 290, 291, 292, 287, 288, 293, 294, 295, 296, 297] rfl (by decide +kernel)) (goodIn_sub (fun _ h => List.mem_cons_of_mem _ (List.mem_append_left _ (List.mem_append_left _ (List.mem_append_left _ (List.mem_append_left _ (List.mem_append_left _ (List.mem_append_left _ (List.mem_append_left _ (List.mem_append_right _ h))))))))) (by decide +kernel))) (goodIn_sub (fun _ h => List.mem_cons_of_mem _ (List.mem_append_left _ (List.mem_append_left _ (List.mem_append_left _ (List.mem_append_left _ (List.mem_append_right _ h)))))) (by decide +kernel))) (goodIn_sub (fun _ h => List.mem_cons_of_mem _ (List.mem_append_left _ (List.mem_append_left _ (List.mem_append_left _ (List.mem_append_right _ h))))) (by decide +kernel))) (goodIn_sub (fun _ h => List.mem_cons_of_mem _ (List.mem_append_left _ (List.mem_append_left _ (List.mem_append_right _ h)))) (by decide +kernel))) (goodIn_sub (fun _ h => List.mem_cons_of_mem _ (List.mem_append_left _ (List.mem_append_right _ h))) (by decide +kernel))) (goodIn_sub (fun _ h => List.mem_cons_of_mem _ (List.mem_append_right _ h)) (by decide +kernel))) (goodIn_sub (fun _ h => List.mem_cons_of_mem _ (List.mem_append_left _ (List.mem_append_left _ (List.mem_append_left _ (List.mem_append_left _ (List.mem_append_left _ (List.mem_append_right _ h))))))) (by decide +kernel))
set_option maxRecDepth 20000 in
theorem gX4_run_X4_doCommand : GoodIn wsX4_run (wsV RX4 92 RX4 yX4_doCommand wsX4_doCommand) := goodIn_app (goodIn_of _ (by decide +kernel)) ggX4_run_X4_doCommand
theorem dX4_run_0 : decode cX4_run 0 = .ok (.iload_n 1, 1) := by decide +kernel
theorem dX4_run_1 : decode cX4_run 1 = .ok (.ifCond .lt 10, 3) := by decide +kernel
theorem dX4_run_4 : decode cX4_run 4 = .ok (.iload_n 1, 1) := by decide +kernel
theorem dX4_run_5 : decode cX4_run 5 = .ok (.sipush 500, 3) := by decide +kernel
theorem dX4_run_8 : decode cX4_run 8 = .ok (.if_icmp .le 13, 3) := by decide +kernel
theorem dX4_run_11 : decode cX4_run 11 = .ok (.new 56, 3) := by decide +kernel
theorem dX4_run_14 : decode cX4_run 14 = .ok (.dup, 1) := by decide +kernel
theorem dX4_run_15 : decode cX4_run 15 = .ok (.ldc 58, 2) := by decide +kernel
theorem dX4_run_17 : decode cX4_run 17 = .ok (.invokespecial 60, 3) := by decide +kernel
theorem dX4_run_20 : decode cX4_run 20 = .ok (.athrow, 1) := by decide +kernel
theorem dX4_run_21 : decode cX4_run 21 = .ok (.aload_n 0, 1) := by decide +kernel
theorem dX4_run_22 : decode cX4_run 22 = .ok (.getfield 22, 3) := by decide +kernel
theorem dX4_run_25 : decode cX4_run 25 = .ok (.invokevirtual 63, 3) := by decide +kernel
theorem dX4_run_28 : decode cX4_run 28 = .ok (.aload_n 0, 1) := by decide +kernel
theorem dX4_run_29 : decode cX4_run 29 = .ok (.iconst 0, 1) := by decide +kernel
theorem dX4_run_30 : decode cX4_run 30 = .ok (.putfield 43, 3) := by decide +kernel
theorem dX4_run_33 : decode cX4_run 33 = .ok (.aload_n 0, 1) := by decide +kernel
theorem dX4_run_34 : decode cX4_run 34 = .ok (.getfield 28, 3) := by decide +kernel
theorem dX4_run_37 : decode cX4_run 37 = .ok (.invokevirtual 66, 3) := by decide +kernel
theorem dX4_run_40 : decode cX4_run 40 = .ok (.aload_n 0, 1) := by decide +kernel
theorem dX4_run_41 : decode cX4_run 41 = .ok (.getfield 28, 3) := by decide +kernel
theorem dX4_run_44 : decode cX4_run 44 = .ok (.aload_n 0, 1) := by decide +kernel
theorem dX4_run_45 : decode cX4_run 45 = .ok (.getfield 35, 3) := by decide +kernel
theorem dX4_run_48 : decode cX4_run 48 = .ok (.iconst 0, 1) := by decide +kernel
theorem dX4_run_49 : decode cX4_run 49 = .ok (.aload_n 0, 1) := by decide +kernel
theorem dX4_run_50 : decode cX4_run 50 = .ok (.getfield 35, 3) := by decide +kernel
theorem dX4_run_53 : decode cX4_run 53 = .ok (.getfield 50, 3) := by decide +kernel
theorem dX4_run_56 : decode cX4_run 56 = .ok (.invokevirtual 69, 3) := by decide +kernel
theorem dX4_run_59 : decode cX4_run 59 = .ok (.iconst 0, 1) := by decide +kernel
theorem dX4_run_60 : decode cX4_run 60 = .ok (.istore_n 2, 1) := by decide +kernel
theorem dX4_run_61 : decode cX4_run 61 = .ok (.iload_n 2, 1) := by decide +kernel
theorem dX4_run_62 : decode cX4_run 62 = .ok (.ldc 73, 2) := by decide +kernel
theorem dX4_run_64 : decode cX4_run 64 = .ok (.if_icmp .ge 78, 3) := by decide +kernel
theorem dX4_run_67 : decode cX4_run 67 = .ok (.aload_n 0, 1) := by decide +kernel
theorem dX4_run_68 : decode cX4_run 68 = .ok (.getfield 28, 3) := by decide +kernel
theorem dX4_run_71 : decode cX4_run 71 = .ok (.getfield 74, 3) := by decide +kernel
theorem dX4_run_74 : decode cX4_run 74 = .ok (.ifCond .le 68, 3) := by decide +kernel
theorem dX4_run_77 : decode cX4_run 77 = .ok (.aload_n 0, 1) := by decide +kernel
theorem dX4_run_78 : decode cX4_run 78 = .ok (.getfield 28, 3) := by decide +kernel
theorem dX4_run_81 : decode cX4_run 81 = .ok (.invokevirtual 77, 3) := by decide +kernel
theorem dX4_run_84 : decode cX4_run 84 = .ok (.aload_n 0, 1) := by decide +kernel
theorem dX4_run_85 : decode cX4_run 85 = .ok (.getfield 28, 3) := by decide +kernel
theorem dX4_run_88 : decode cX4_run 88 = .ok (.invokevirtual 80, 3) := by decide +kernel
theorem dX4_run_91 : decode cX4_run 91 = .ok (.ifCond .ne 13, 3) := by decide +kernel
theorem dX4_run_94 : decode cX4_run 94 = .ok (.aload_n 0, 1) := by decide +kernel
theorem dX4_run_95 : decode cX4_run 95 = .ok (.getfield 28, 3) := by decide +kernel
theorem dX4_run_98 : decode cX4_run 98 = .ok (.invokevirtual 84, 3) := by decide +kernel
theorem dX4_run_101 : decode cX4_run 101 = .ok (.goto 35, 3) := by decide +kernel
theorem dX4_run_104 : decode cX4_run 104 = .ok (.aload_n 0, 1) := by decide +kernel
theorem dX4_run_105 : decode cX4_run 105 = .ok (.getfield 43, 3) := by decide +kernel
theorem dX4_run_108 : decode cX4_run 108 = .ok (.iload_n 1, 1) := by decide +kernel
theorem dX4_run_109 : decode cX4_run 109 = .ok (.if_icmp .lt 13, 3) := by decide +kernel
theorem dX4_run_112 : decode cX4_run 112 = .ok (.new 87, 3) := by decide +kernel
theorem dX4_run_115 : decode cX4_run 115 = .ok (.dup, 1) := by decide +kernel
theorem dX4_run_116 : decode cX4_run 116 = .ok (.ldc 89, 2) := by decide +kernel
theorem dX4_run_118 : decode cX4_run 118 = .ok (.invokespecial 91, 3) := by decide +kernel
theorem dX4_run_121 : decode cX4_run 121 = .ok (.athrow, 1) := by decide +kernel
theorem dX4_run_122 : decode cX4_run 122 = .ok (.aload_n 0, 1) := by decide +kernel
theorem dX4_run_123 : decode cX4_run 123 = .ok (.invokevirtual 92, 3) := by decide +kernel
theorem dX4_run_126 : decode cX4_run 126 = .ok (.aload_n 0, 1) := by decide +kernel
theorem dX4_run_127 : decode cX4_run 127 = .ok (.dup, 1) := by decide +kernel
theorem dX4_run_128 : decode cX4_run 128 = .ok (.getfield 43, 3) := by decide +kernel
theorem dX4_run_131 : decode cX4_run 131 = .ok (.iconst 1, 1) := by decide +kernel
theorem dX4_run_132 : decode cX4_run 132 = .ok (.iadd, 1) := by decide +kernel
theorem dX4_run_133 : decode cX4_run 133 = .ok (.putfield 43, 3) := by decide +kernel
theorem dX4_run_136 : decode cX4_run 136 = .ok (.iinc 2 1, 3) := by decide +kernel
theorem dX4_run_139 : decode cX4_run 139 = .ok (.goto (-78), 3) := by decide +kernel
theorem dX4_run_142 : decode cX4_run 142 = .ok (.aload_n 0, 1) := by decide +kernel
theorem dX4_run_143 : decode cX4_run 143 = .ok (.getfield 43, 3) := by decide +kernel
theorem dX4_run_146 : decode cX4_run 146 = .ok (.ireturn, 1) := by decide +kernel
theorem dX4_cost_0 : decode cX4_cost 0 = .ok (.aload_n 0, 1) := by decide +kernel
theorem dX4_cost_1 : decode cX4_cost 1 = .ok (.getfield 43, 3) := by decide +kernel
theorem dX4_cost_4 : decode cX4_cost 4 = .ok (.ireturn, 1) := by decide +kernel
theorem dX4_prints_0 : decode cX4_prints 0 = .ok (.aload_n 0, 1) := by decide +kernel
theorem dX4_prints_1 : decode cX4_prints 1 = .ok (.getfield 22, 3) := by decide +kernel
theorem dX4_prints_4 : decode cX4_prints 4 = .ok (.getfield 95, 3) := by decide +kernel
theorem dX4_prints_7 : decode cX4_prints 7 = .ok (.ireturn, 1) := by decide +kernel
set_option maxRecDepth 20000 in
theorem ggX4_printed_X3_valueAt : GoodIn wsX4_printed wsX3_valueAt := goodIn_r _ [6, 7, 8, 9, 10, 5, 11, 12, 20, 21, 22, 23, 24] (by decide +kernel) (by decide +kernel)
set_option maxRecDepth 20000 in
theorem gX4_printed_X3_valueAt : GoodIn wsX4_printed (wsV RX4 96 RX3 yX3_valueAt wsX3_valueAt) := goodIn_app (goodIn_of _ (by decide +kernel)) ggX4_printed_X3_valueAt
theorem dX4_printed_0 : decode cX4_printed 0 = .ok (.aload_n 0, 1) := by decide +kernel
theorem dX4_printed_1 : decode cX4_printed 1 = .ok (.getfield 22, 3) := by decide +kernel
theorem dX4_printed_4 : decode cX4_printed 4 = .ok (.iload_n 1, 1) := by decide +kernel
theorem dX4_printed_5 : decode cX4_printed 5 = .ok (.invokevirtual 96, 3) := by decide +kernel
theorem dX4_printed_8 : decode cX4_printed 8 = .ok (.lreturn, 1) := by decide +kernel
set_option maxRecDepth 20000 in
theorem ggX4_places_X3_placesAt : GoodIn wsX4_places wsX3_placesAt := goodIn_r _ [6, 7, 8, 9, 10, 5, 11, 12, 13, 21, 22, 23, 24, 25] (by decide +kernel) (by decide +kernel)
set_option maxRecDepth 20000 in
theorem gX4_places_X3_placesAt : GoodIn wsX4_places (wsV RX4 100 RX3 yX3_placesAt wsX3_placesAt) := goodIn_app (goodIn_of _ (by decide +kernel)) ggX4_places_X3_placesAt
theorem dX4_places_0 : decode cX4_places 0 = .ok (.aload_n 0, 1) := by decide +kernel
theorem dX4_places_1 : decode cX4_places 1 = .ok (.getfield 22, 3) := by decide +kernel
theorem dX4_places_4 : decode cX4_places 4 = .ok (.iload_n 1, 1) := by decide +kernel
theorem dX4_places_5 : decode cX4_places 5 = .ok (.invokevirtual 100, 3) := by decide +kernel
theorem dX4_places_8 : decode cX4_places 8 = .ok (.ireturn, 1) := by decide +kernel
theorem dX4_depth_0 : decode cX4_depth 0 = .ok (.aload_n 0, 1) := by decide +kernel
theorem dX4_depth_1 : decode cX4_depth 1 = .ok (.getfield 14, 3) := by decide +kernel
theorem dX4_depth_4 : decode cX4_depth 4 = .ok (.getfield 95, 3) := by decide +kernel
theorem dX4_depth_7 : decode cX4_depth 7 = .ok (.ireturn, 1) := by decide +kernel
set_option maxRecDepth 20000 in
theorem ggX4_item_X3_slotBelowTop : GoodIn wsX4_item wsX3_slotBelowTop := goodIn_r _ [6, 7, 24, 25, 26, 27, 28] (by decide +kernel) (by decide +kernel)
set_option maxRecDepth 20000 in
theorem gX4_item_X3_slotBelowTop : GoodIn wsX4_item (wsV RX4 104 RX3 yX3_slotBelowTop wsX3_slotBelowTop) := goodIn_app (goodIn_of _ (by decide +kernel)) ggX4_item_X3_slotBelowTop
set_option maxRecDepth 20000 in
theorem ggX4_item_X3_valueAt : GoodIn wsX4_item wsX3_valueAt := goodIn_r _ [11, 12, 13, 14, 15, 5, 16, 7, 24, 25, 26, 27, 28] (by decide +kernel) (by decide +kernel)
set_option maxRecDepth 20000 in
theorem gX4_item_X3_valueAt : GoodIn wsX4_item (wsV RX4 96 RX3 yX3_valueAt wsX3_valueAt) := goodIn_app (goodIn_of _ (by decide +kernel)) ggX4_item_X3_valueAt
theorem dX4_item_0 : decode cX4_item 0 = .ok (.aload_n 0, 1) := by decide +kernel
theorem dX4_item_1 : decode cX4_item 1 = .ok (.getfield 14, 3) := by decide +kernel
theorem dX4_item_4 : decode cX4_item 4 = .ok (.aload_n 0, 1) := by decide +kernel
theorem dX4_item_5 : decode cX4_item 5 = .ok (.getfield 14, 3) := by decide +kernel
theorem dX4_item_8 : decode cX4_item 8 = .ok (.iload_n 1, 1) := by decide +kernel
theorem dX4_item_9 : decode cX4_item 9 = .ok (.invokevirtual 104, 3) := by decide +kernel
theorem dX4_item_12 : decode cX4_item 12 = .ok (.invokevirtual 96, 3) := by decide +kernel
theorem dX4_item_15 : decode cX4_item 15 = .ok (.lreturn, 1) := by decide +kernel
set_option maxRecDepth 20000 in
theorem ggX4_scale_X3_slotBelowTop : GoodIn wsX4_scale wsX3_slotBelowTop := goodIn_r _ [6, 7, 25, 26, 27, 28, 29] (by decide +kernel) (by decide +kernel)
set_option maxRecDepth 20000 in
theorem gX4_scale_X3_slotBelowTop : GoodIn wsX4_scale (wsV RX4 104 RX3 yX3_slotBelowTop wsX3_slotBelowTop) := goodIn_app (goodIn_of _ (by decide +kernel)) ggX4_scale_X3_slotBelowTop
set_option maxRecDepth 20000 in
theorem ggX4_scale_X3_placesAt : GoodIn wsX4_scale wsX3_placesAt := goodIn_r _ [11, 12, 13, 14, 15, 5, 16, 7, 17, 25, 26, 27, 28, 29] (by decide +kernel) (by decide +kernel)
set_option maxRecDepth 20000 in
theorem gX4_scale_X3_placesAt : GoodIn wsX4_scale (wsV RX4 100 RX3 yX3_placesAt wsX3_placesAt) := goodIn_app (goodIn_of _ (by decide +kernel)) ggX4_scale_X3_placesAt
theorem dX4_scale_0 : decode cX4_scale 0 = .ok (.aload_n 0, 1) := by decide +kernel
theorem dX4_scale_1 : decode cX4_scale 1 = .ok (.getfield 14, 3) := by decide +kernel
theorem dX4_scale_4 : decode cX4_scale 4 = .ok (.aload_n 0, 1) := by decide +kernel
theorem dX4_scale_5 : decode cX4_scale 5 = .ok (.getfield 14, 3) := by decide +kernel
theorem dX4_scale_8 : decode cX4_scale 8 = .ok (.iload_n 1, 1) := by decide +kernel
theorem dX4_scale_9 : decode cX4_scale 9 = .ok (.invokevirtual 104, 3) := by decide +kernel
theorem dX4_scale_12 : decode cX4_scale 12 = .ok (.invokevirtual 100, 3) := by decide +kernel
theorem dX4_scale_15 : decode cX4_scale 15 = .ok (.ireturn, 1) := by decide +kernel
set_option maxRecDepth 20000 in
theorem ggX4_held_X4_registerNumbered : GoodIn wsX4_held wsX4_registerNumbered := goodIn_r _ [6, 7, 13, 14, 15, 16, 17, 18, 19] (by decide +kernel) (by decide +kernel)
set_option maxRecDepth 20000 in
theorem gX4_held_X4_registerNumbered : GoodIn wsX4_held (wsV RX4 107 RX4 yX4_registerNumbered wsX4_registerNumbered) := goodIn_app (goodIn_of _ (by decide +kernel)) ggX4_held_X4_registerNumbered
theorem dX4_held_0 : decode cX4_held 0 = .ok (.aload_n 0, 1) := by decide +kernel
theorem dX4_held_1 : decode cX4_held 1 = .ok (.iload_n 1, 1) := by decide +kernel
theorem dX4_held_2 : decode cX4_held 2 = .ok (.invokevirtual 107, 3) := by decide +kernel
theorem dX4_held_5 : decode cX4_held 5 = .ok (.astore_n 2, 1) := by decide +kernel
theorem dX4_held_6 : decode cX4_held 6 = .ok (.aload_n 2, 1) := by decide +kernel
theorem dX4_held_7 : decode cX4_held 7 = .ok (.ifnonnull 7, 3) := by decide +kernel
theorem dX4_held_10 : decode cX4_held 10 = .ok (.iconst (-1), 1) := by decide +kernel
theorem dX4_held_11 : decode cX4_held 11 = .ok (.goto 7, 3) := by decide +kernel
theorem dX4_held_14 : decode cX4_held 14 = .ok (.aload_n 2, 1) := by decide +kernel
theorem dX4_held_15 : decode cX4_held 15 = .ok (.getfield 95, 3) := by decide +kernel
theorem dX4_held_18 : decode cX4_held 18 = .ok (.ireturn, 1) := by decide +kernel
theorem dX4_precision_0 : decode cX4_precision 0 = .ok (.aload_n 0, 1) := by decide +kernel
theorem dX4_precision_1 : decode cX4_precision 1 = .ok (.getfield 39, 3) := by decide +kernel
theorem dX4_precision_4 : decode cX4_precision 4 = .ok (.ireturn, 1) := by decide +kernel
set_option maxRecDepth 20000 in
theorem ggX4_reset_X3_clear : GoodIn wsX4_reset wsX3_clear := goodIn_r _ [8, 9, 23, 24, 25, 26, 27] (by decide +kernel) (by decide +kernel)
set_option maxRecDepth 20000 in
theorem gX4_reset_X3_clear : GoodIn wsX4_reset (wsV RX4 63 RX3 yX3_clear wsX3_clear) := goodIn_app (goodIn_of _ (by decide +kernel)) ggX4_reset_X3_clear
set_option maxRecDepth 20000 in
theorem ggX4_reset_X4_registerNumbered : GoodIn wsX4_reset wsX4_registerNumbered := goodIn_r _ [14, 15, 16, 17, 18, 19, 20, 21, 22] (by decide +kernel) (by decide +kernel)
set_option maxRecDepth 20000 in
theorem gX4_reset_X4_registerNumbered : GoodIn wsX4_reset (wsV RX4 107 RX4 yX4_registerNumbered wsX4_registerNumbered) := goodIn_app (goodIn_of _ (by decide +kernel)) ggX4_reset_X4_registerNumbered
theorem dX4_reset_0 : decode cX4_reset 0 = .ok (.aload_n 0, 1) := by decide +kernel
theorem dX4_reset_1 : decode cX4_reset 1 = .ok (.getfield 14, 3) := by decide +kernel
theorem dX4_reset_4 : decode cX4_reset 4 = .ok (.invokevirtual 63, 3) := by decide +kernel
theorem dX4_reset_7 : decode cX4_reset 7 = .ok (.iconst 0, 1) := by decide +kernel
theorem dX4_reset_8 : decode cX4_reset 8 = .ok (.istore_n 1, 1) := by decide +kernel
theorem dX4_reset_9 : decode cX4_reset 9 = .ok (.iload_n 1, 1) := by decide +kernel
theorem dX4_reset_10 : decode cX4_reset 10 = .ok (.iconst 4, 1) := by decide +kernel
theorem dX4_reset_11 : decode cX4_reset 11 = .ok (.if_icmp .ge 23, 3) := by decide +kernel
theorem dX4_reset_14 : decode cX4_reset 14 = .ok (.aload_n 0, 1) := by decide +kernel
theorem dX4_reset_15 : decode cX4_reset 15 = .ok (.iload_n 1, 1) := by decide +kernel
theorem dX4_reset_16 : decode cX4_reset 16 = .ok (.invokevirtual 107, 3) := by decide +kernel
theorem dX4_reset_19 : decode cX4_reset 19 = .ok (.astore_n 2, 1) := by decide +kernel
theorem dX4_reset_20 : decode cX4_reset 20 = .ok (.aload_n 2, 1) := by decide +kernel
theorem dX4_reset_21 : decode cX4_reset 21 = .ok (.ifnull 7, 3) := by decide +kernel
theorem dX4_reset_24 : decode cX4_reset 24 = .ok (.aload_n 2, 1) := by decide +kernel
theorem dX4_reset_25 : decode cX4_reset 25 = .ok (.invokevirtual 63, 3) := by decide +kernel
theorem dX4_reset_28 : decode cX4_reset 28 = .ok (.iinc 1 1, 3) := by decide +kernel
theorem dX4_reset_31 : decode cX4_reset 31 = .ok (.goto (-22), 3) := by decide +kernel
theorem dX4_reset_34 : decode cX4_reset 34 = .ok (.aload_n 0, 1) := by decide +kernel
theorem dX4_reset_35 : decode cX4_reset 35 = .ok (.getfield 22, 3) := by decide +kernel
theorem dX4_reset_38 : decode cX4_reset 38 = .ok (.invokevirtual 63, 3) := by decide +kernel
theorem dX4_reset_41 : decode cX4_reset 41 = .ok (.aload_n 0, 1) := by decide +kernel
theorem dX4_reset_42 : decode cX4_reset 42 = .ok (.iconst 0, 1) := by decide +kernel
theorem dX4_reset_43 : decode cX4_reset 43 = .ok (.putfield 39, 3) := by decide +kernel
theorem dX4_reset_46 : decode cX4_reset 46 = .ok (.return_, 1) := by decide +kernel
theorem dX4_charOf_0 : decode cX4_charOf 0 = .ok (.lload_n 0, 1) := by decide +kernel
theorem dX4_charOf_1 : decode cX4_charOf 1 = .ok (.bipush 8, 2) := by decide +kernel
theorem dX4_charOf_3 : decode cX4_charOf 3 = .ok (.iload_n 2, 1) := by decide +kernel
theorem dX4_charOf_4 : decode cX4_charOf 4 = .ok (.imul, 1) := by decide +kernel
theorem dX4_charOf_5 : decode cX4_charOf 5 = .ok (.lushr, 1) := by decide +kernel
theorem dX4_charOf_6 : decode cX4_charOf 6 = .ok (.l2i, 1) := by decide +kernel
theorem dX4_charOf_7 : decode cX4_charOf 7 = .ok (.sipush 255, 3) := by decide +kernel
theorem dX4_charOf_10 : decode cX4_charOf 10 = .ok (.iand, 1) := by decide +kernel
theorem dX4_charOf_11 : decode cX4_charOf 11 = .ok (.ireturn, 1) := by decide +kernel
theorem dX4_registerNumbered_0 : decode cX4_registerNumbered 0 = .ok (.iload_n 1, 1) := by decide +kernel
theorem dX4_registerNumbered_1 : decode cX4_registerNumbered 1 = .ok (.ifCond .lt 12, 3) := by decide +kernel
theorem dX4_registerNumbered_4 : decode cX4_registerNumbered 4 = .ok (.iload_n 1, 1) := by decide +kernel
theorem dX4_registerNumbered_5 : decode cX4_registerNumbered 5 = .ok (.aload_n 0, 1) := by decide +kernel
theorem dX4_registerNumbered_6 : decode cX4_registerNumbered 6 = .ok (.getfield 18, 3) := by decide +kernel
theorem dX4_registerNumbered_9 : decode cX4_registerNumbered 9 = .ok (.arraylength, 1) := by decide +kernel
theorem dX4_registerNumbered_10 : decode cX4_registerNumbered 10 = .ok (.if_icmp .lt 7, 3) := by decide +kernel
theorem dX4_registerNumbered_13 : decode cX4_registerNumbered 13 = .ok (.aconst_null, 1) := by decide +kernel
theorem dX4_registerNumbered_14 : decode cX4_registerNumbered 14 = .ok (.goto 9, 3) := by decide +kernel
theorem dX4_registerNumbered_17 : decode cX4_registerNumbered 17 = .ok (.aload_n 0, 1) := by decide +kernel
theorem dX4_registerNumbered_18 : decode cX4_registerNumbered 18 = .ok (.getfield 18, 3) := by decide +kernel
theorem dX4_registerNumbered_21 : decode cX4_registerNumbered 21 = .ok (.iload_n 1, 1) := by decide +kernel
theorem dX4_registerNumbered_22 : decode cX4_registerNumbered 22 = .ok (.aaload, 1) := by decide +kernel
theorem dX4_registerNumbered_23 : decode cX4_registerNumbered 23 = .ok (.areturn, 1) := by decide +kernel
set_option maxRecDepth 20000 in
theorem ggX4_doCommand_X1_look : GoodIn wsX4_doCommand wsX1_look := goodIn_r _ [6, 7, 8, 9, 10, 11, 12, 13, 5, 14, 15, 16, 17, 18, 19, 20, 21, 274, 275, 276, 277, 278, 279] (by decide +kernel) (by decide +kernel)
set_option maxRecDepth 20000 in
theorem gX4_doCommand_X1_look : GoodIn wsX4_doCommand (wsV RX4 80 RX1 yX1_look wsX1_look) := goodIn_app (goodIn_of _ (by decide +kernel)) ggX4_doCommand_X1_look
set_option maxRecDepth 20000 in
theorem ggX4_doCommand_X4_beginsNumber : GoodIn wsX4_doCommand wsX4_beginsNumber := goodIn_r _ [25, 26, 27, 24, 28] (by decide +kernel) (by decide +kernel)
set_option maxRecDepth 20000 in
theorem gX4_doCommand_X4_beginsNumber : GoodIn wsX4_doCommand (va_wsS RX4 111 yX4_beginsNumber wsX4_beginsNumber) := goodIn_app (goodIn_of _ (by decide +kernel)) ggX4_doCommand_X4_beginsNumber
set_option maxRecDepth 20000 in
theorem ggX4_doCommand_X4_putWrittenNumber : GoodIn wsX4_doCommand wsX4_putWrittenNumber := goodIn_ca (goodIn_ca (goodIn_r _ [32, 33, 34, 1, 35, 36, 2, 3, 4, 5, 6, 7, 8, 9, 10, 11, 12, 13, 14, 15, 16, 17, 18, 19, 20, 21, 37, 38, 39, 40, 26, 27, 24, 28, 41, 42, 43, 44, 45, 46, 47, 48, 49, 50, 51, 52, 53, 54, 55, 56, 57, 58, 59, 60, 61, 62, 63, 64, 65, 66, 67, 68, 267, 268, 269, 270, 271, 272, 273, 274, 275, 276, 277, 278, 279, 280, 281, 282, 283, 284] rfl (by decide +kernel)) (goodIn_sub (fun _ h => List.mem_cons_of_mem _ (List.mem_append_left _ (List.mem_append_left _ (List.mem_append_left _ (List.mem_append_left _ (List.mem_append_left _ (List.mem_append_left _ (List.mem_append_right _ h)))))))) (by decide +kernel))) (goodIn_sub (fun _ h => List.mem_cons_of_mem _ (List.mem_append_left _ (List.mem_append_left _ (List.mem_append_left _ (List.mem_append_left _ (List.mem_append_left _ (List.mem_append_right _ h))))))) (by decide +kernel))
set_option maxRecDepth 20000 in
theorem gX4_doCommand_X4_putWrittenNumber : GoodIn wsX4_doCommand (wsV RX4 115 RX4 yX4_putWrittenNumber wsX4_putWrittenNumber) := goodIn_app (goodIn_of _ (by decide +kernel)) ggX4_doCommand_X4_putWrittenNumber
set_option maxRecDepth 20000 in
theorem ggX4_doCommand_X1_pass : GoodIn wsX4_doCommand wsX1_pass := goodIn_r _ [40, 7, 8, 11, 12, 13, 5, 14, 10, 274, 275, 276, 277] (by decide +kernel) (by decide +kernel)
set_option maxRecDepth 20000 in
theorem gX4_doCommand_X1_pass : GoodIn wsX4_doCommand (wsV RX4 118 RX1 yX1_pass wsX1_pass) := goodIn_app (goodIn_of _ (by decide +kernel)) ggX4_doCommand_X1_pass
set_option maxRecDepth 20000 in
theorem ggX4_doCommand_X4_putWrittenText : GoodIn wsX4_doCommand wsX4_putWrittenText := goodIn_ca (goodIn_ca (goodIn_r _ [72, 33, 34, 1, 36, 73, 74, 75, 5, 76, 10, 8, 11, 12, 13, 14, 77, 78, 79, 80, 7, 2, 3, 4, 6, 9, 15, 16, 17, 18, 19, 20, 21, 37, 38, 39, 40, 81, 82, 83, 44, 84, 46, 47, 48, 49, 50, 51, 52, 53, 54, 55, 56, 57, 58, 59, 60, 61, 62, 63, 64, 65, 66, 67, 68, 267, 268, 269, 270, 271, 272, 273, 274, 275, 276, 277, 278, 279, 280, 281, 282, 283, 284] rfl (by decide +kernel)) (goodIn_sub (fun _ h => List.mem_cons_of_mem _ (List.mem_append_left _ (List.mem_append_left _ (List.mem_append_left _ (List.mem_append_left _ (List.mem_append_left _ (List.mem_append_left _ (List.mem_append_right _ h)))))))) (by decide +kernel))) (goodIn_sub (fun _ h => List.mem_cons_of_mem _ (List.mem_append_left _ (List.mem_append_left _ (List.mem_append_left _ (List.mem_append_left _ (List.mem_append_left _ (List.mem_append_right _ h))))))) (by decide +kernel))
set_option maxRecDepth 20000 in
theorem gX4_doCommand_X4_putWrittenText : GoodIn wsX4_doCommand (wsV RX4 121 RX4 yX4_putWrittenText wsX4_putWrittenText) := goodIn_app (goodIn_of _ (by decide +kernel)) ggX4_doCommand_X4_putWrittenText
set_option maxRecDepth 20000 in
theorem ggX4_doCommand_X4_calculate : GoodIn wsX4_doCommand wsX4_calculate := goodIn_ca (goodIn_ca (goodIn_ca (goodIn_ca (goodIn_ca (goodIn_r _ [88, 36, 89, 90, 91, 92, 93, 94, 95, 96, 97, 98, 99, 24, 100, 101, 102, 103, 104, 105, 106, 107, 108, 109, 110, 111, 112, 44, 113, 52, 114, 115, 116, 117, 63, 65, 66, 67, 68, 57, 118, 119, 120, 121, 122, 123, 124, 125, 62, 126, 127, 128, 129, 130, 131, 132, 133, 134, 135, 136, 137, 138, 139, 140, 141, 142, 51, 143, 144, 145, 146, 147, 148, 149, 150, 151, 152, 153, 154, 155, 156, 157, 158, 159, 160, 161, 162, 163, 164, 165, 166, 167, 168, 169, 170, 41, 42, 43, 45, 46, 47, 48, 49, 50, 53, 54, 55, 56, 58, 59, 60, 61, 64, 267, 268, 269, 270, 271, 272, 273, 280, 281, 282, 283, 284] rfl (by decide +kernel)) (goodIn_sub (fun _ h => List.mem_cons_of_mem _ (List.mem_append_left _ (List.mem_append_left _ (List.mem_append_left _ (List.mem_append_left _ (List.mem_append_right _ h)))))) (by decide +kernel))) (goodIn_sub (fun _ h => List.mem_cons_of_mem _ (List.mem_append_left _ (List.mem_append_left _ (List.mem_append_left _ (List.mem_append_right _ h))))) (by decide +kernel))) (goodIn_sub (fun _ h => List.mem_cons_of_mem _ (List.mem_append_left _ (List.mem_append_left _ (List.mem_append_right _ h)))) (by decide +kernel))) (goodIn_sub (fun _ h => List.mem_cons_of_mem _ (List.mem_append_left _ (List.mem_append_right _ h))) (by decide +kernel))) (goodIn_sub (fun _ h => List.mem_cons_of_mem _ (List.mem_append_left _ (List.mem_append_left _ (List.mem_append_left _ (List.mem_append_left _ (List.mem_append_left _ (List.mem_append_right _ h))))))) (by decide +kernel))
set_option maxRecDepth 20000 in
theorem gX4_doCommand_X4_calculate : GoodIn wsX4_doCommand (wsV RX4 124 RX4 yX4_calculate wsX4_calculate) := goodIn_app (goodIn_of _ (by decide +kernel)) ggX4_doCommand_X4_calculate
set_option maxRecDepth 20000 in
theorem ggX4_doCommand_X4_changeNumber : GoodIn wsX4_doCommand wsX4_changeNumber := goodIn_ca (goodIn_ca (goodIn_ca (goodIn_ca (goodIn_ca (goodIn_r _ [174, 36, 93, 89, 90, 91, 92, 97, 98, 99, 24, 100, 101, 102, 103, 104, 105, 106, 107, 108, 109, 110, 111, 112, 44, 113, 52, 114, 115, 116, 117, 63, 65, 66, 67, 68, 57, 118, 119, 120, 121, 122, 123, 124, 125, 62, 175, 176, 128, 177, 160, 161, 178, 179, 152, 153, 134, 135, 136, 137, 130, 138, 95, 96, 154, 155, 156, 131, 132, 133, 139, 140, 141, 142, 51, 143, 144, 145, 146, 166, 167, 168, 169, 170, 180, 181, 182, 183, 184, 41, 42, 43, 45, 46, 47, 48, 49, 50, 53, 54, 55, 56, 58, 59, 60, 61, 64, 267, 268, 269, 270, 271, 272, 273, 280, 281, 282, 283, 284] rfl (by decide +kernel)) (goodIn_sub (fun _ h => List.mem_cons_of_mem _ (List.mem_append_left _ (List.mem_append_left _ (List.mem_append_left _ (List.mem_append_left _ (List.mem_append_right _ h)))))) (by decide +kernel))) (goodIn_sub (fun _ h => List.mem_cons_of_mem _ (List.mem_append_left _ (List.mem_append_left _ (List.mem_append_left _ (List.mem_append_right _ h))))) (by decide +kernel))) (goodIn_sub (fun _ h => List.mem_cons_of_mem _ (List.mem_append_left _ (List.mem_append_right _ h))) (by decide +kernel))) (goodIn_sub (fun _ h => List.mem_cons_of_mem _ (List.mem_append_left _ (List.mem_append_left _ (List.mem_append_right _ h)))) (by decide +kernel))) (goodIn_sub (fun _ h => List.mem_cons_of_mem _ (List.mem_append_left _ (List.mem_append_left _ (List.mem_append_left _ (List.mem_append_left _ (List.mem_append_left _ (List.mem_append_right _ h))))))) (by decide +kernel))
set_option maxRecDepth 20000 in
theorem gX4_doCommand_X4_changeNumber : GoodIn wsX4_doCommand (wsV RX4 127 RX4 yX4_changeNumber wsX4_changeNumber) := goodIn_app (goodIn_of _ (by decide +kernel)) ggX4_doCommand_X4_changeNumber
set_option maxRecDepth 20000 in
theorem ggX4_doCommand_X4_moveToOrFromRegister : GoodIn wsX4_doCommand wsX4_moveToOrFromRegister := goodIn_ca (goodIn_ca (goodIn_ca (goodIn_r _ [188, 36, 189, 190, 191, 24, 192, 33, 34, 1, 2, 3, 4, 5, 6, 7, 8, 9, 10, 11, 12, 13, 14, 15, 16, 17, 18, 19, 20, 21, 193, 194, 195, 196, 197, 37, 38, 39, 40, 103, 104, 105, 106, 107, 108, 109, 166, 167, 168, 44, 169, 52, 170, 90, 91, 92, 198, 199, 200, 201, 202, 111, 112, 113, 203, 119, 120, 121, 57, 65, 66, 67, 68, 204, 123, 124, 125, 62, 205, 115, 116, 117, 63, 206, 207, 208, 209, 64, 46, 47, 48, 49, 50, 51, 53, 54, 55, 56, 58, 59, 60, 61, 210, 211, 212, 267, 268, 269, 270, 271, 272, 273, 274, 275, 276, 277, 278, 279, 280, 281, 282, 283, 284] rfl (by decide +kernel)) (goodIn_sub (fun _ h => List.mem_cons_of_mem _ (List.mem_append_left _ (List.mem_append_left _ (List.mem_append_left _ (List.mem_append_left _ (List.mem_append_left _ (List.mem_append_left _ (List.mem_append_right _ h)))))))) (by decide +kernel))) (goodIn_sub (fun _ h => List.mem_cons_of_mem _ (List.mem_append_left _ (List.mem_append_left _ (List.mem_append_left _ (List.mem_append_right _ h))))) (by decide +kernel))) (goodIn_sub (fun _ h => List.mem_cons_of_mem _ (List.mem_append_left _ (List.mem_append_left _ (List.mem_append_left _ (List.mem_append_left _ (List.mem_append_left _ (List.mem_append_right _ h))))))) (by decide +kernel))
set_option maxRecDepth 20000 in
theorem gX4_doCommand_X4_moveToOrFromRegister : GoodIn wsX4_doCommand (wsV RX4 130 RX4 yX4_moveToOrFromRegister wsX4_moveToOrFromRegister) := goodIn_app (goodIn_of _ (by decide +kernel)) ggX4_doCommand_X4_moveToOrFromRegister
set_option maxRecDepth 20000 in
theorem ggX4_doCommand_X4_runIfOrdered : GoodIn wsX4_doCommand wsX4_runIfOrdered := goodIn_ca (goodIn_ca (goodIn_ca (goodIn_ca (goodIn_ca (goodIn_r _ [216, 101, 102, 36, 1, 189, 190, 191, 24, 192, 33, 34, 2, 3, 4, 5, 6, 7, 8, 9, 10, 11, 12, 13, 14, 15, 16, 17, 18, 19, 20, 21, 193, 194, 195, 196, 197, 37, 38, 39, 40, 97, 98, 99, 100, 103, 104, 105, 106, 107, 108, 109, 110, 111, 112, 44, 113, 52, 114, 115, 116, 117, 63, 65, 66, 67, 68, 57, 118, 119, 120, 121, 122, 123, 124, 125, 62, 217, 218, 128, 219, 130, 90, 91, 92, 131, 132, 133, 134, 135, 136, 137, 138, 95, 96, 139, 140, 141, 142, 51, 143, 144, 145, 146, 220, 221, 222, 223, 210, 211, 212, 224, 207, 208, 209, 64, 225, 226, 227, 228, 229, 230, 231, 232, 233, 234, 235, 236, 237, 238, 239, 240, 241, 242, 243, 244, 166, 167, 168, 169, 170, 267, 268, 269, 270, 271, 272, 273, 274, 275, 276, 277, 278, 279, 280, 281, 282, 283, 284] rfl (by decide +kernel)) (goodIn_sub (fun _ h => List.mem_cons_of_mem _ (List.mem_append_left _ (List.mem_append_left _ (List.mem_append_left _ (List.mem_append_left _ (List.mem_append_right _ h)))))) (by decide +kernel))) (goodIn_sub (fun _ h => List.mem_cons_of_mem _ (List.mem_append_left _ (List.mem_append_left _ (List.mem_append_left _ (List.mem_append_left _ (List.mem_append_left _ (List.mem_append_left _ (List.mem_append_right _ h)))))))) (by decide +kernel))) (goodIn_sub (fun _ h => List.mem_cons_of_mem _ (List.mem_append_left _ (List.mem_append_left _ (List.mem_append_left _ (List.mem_append_right _ h))))) (by decide +kernel))) (goodIn_sub (fun _ h => List.mem_cons_of_mem _ (List.mem_append_left _ (List.mem_append_left _ (List.mem_append_right _ h)))) (by decide +kernel))) (goodIn_sub (fun _ h => List.mem_cons_of_mem _ (List.mem_append_right _ h)) (by decide +kernel))
set_option maxRecDepth 20000 in
theorem gX4_doCommand_X4_runIfOrdered : GoodIn wsX4_doCommand (wsV RX4 133 RX4 yX4_runIfOrdered wsX4_runIfOrdered) := goodIn_app (goodIn_of _ (by decide +kernel)) ggX4_doCommand_X4_runIfOrdered
set_option maxRecDepth 20000 in
theorem ggX4_doCommand_X4_runTop : GoodIn wsX4_doCommand wsX4_runTop := goodIn_ca (goodIn_ca (goodIn_r _ [248, 36, 1, 103, 104, 105, 24, 106, 107, 108, 109, 110, 111, 112, 44, 113, 52, 114, 115, 116, 117, 63, 65, 66, 67, 68, 57, 224, 207, 208, 209, 64, 118, 119, 120, 121, 225, 226, 227, 5, 228, 229, 230, 231, 232, 233, 3, 4, 6, 7, 8, 9, 10, 11, 12, 13, 14, 15, 16, 17, 18, 19, 20, 21, 234, 38, 39, 40, 235, 236, 237, 238, 239, 90, 91, 92, 240, 241, 242, 243, 244, 51, 166, 167, 168, 169, 170, 267, 268, 269, 270, 271, 272, 273, 280, 281, 282, 283, 284, 274, 275, 276, 277, 278, 279] rfl (by decide +kernel)) (goodIn_sub (fun _ h => List.mem_cons_of_mem _ (List.mem_append_left _ (List.mem_append_left _ (List.mem_append_left _ (List.mem_append_right _ h))))) (by decide +kernel))) (goodIn_sub (fun _ h => List.mem_cons_of_mem _ (List.mem_append_right _ h)) (by decide +kernel))
set_option maxRecDepth 20000 in
theorem gX4_doCommand_X4_runTop : GoodIn wsX4_doCommand (wsV RX4 136 RX4 yX4_runTop wsX4_runTop) := goodIn_app (goodIn_of _ (by decide +kernel)) ggX4_doCommand_X4_runTop
set_option maxRecDepth 20000 in
theorem ggX4_doCommand_X1_leaveAll : GoodIn wsX4_doCommand wsX1_leaveAll := goodIn_r _ [252, 8, 274, 275, 276, 277] (by decide +kernel) (by decide +kernel)
set_option maxRecDepth 20000 in
theorem gX4_doCommand_X1_leaveAll : GoodIn wsX4_doCommand (wsV RX4 66 RX1 yX1_leaveAll wsX1_leaveAll) := goodIn_app (goodIn_of _ (by decide +kernel)) ggX4_doCommand_X1_leaveAll
set_option maxRecDepth 20000 in
theorem ggX4_doCommand_X4_arrangeStack : GoodIn wsX4_doCommand wsX4_arrangeStack := goodIn_ca (goodIn_ca (goodIn_ca (goodIn_r _ [256, 33, 34, 36, 109, 93, 257, 103, 104, 105, 24, 106, 107, 108, 198, 199, 200, 44, 201, 202, 111, 112, 113, 52, 203, 119, 120, 121, 57, 65, 66, 67, 68, 204, 123, 124, 125, 62, 205, 115, 116, 117, 63, 206, 207, 208, 209, 64, 46, 47, 48, 49, 50, 51, 53, 54, 55, 56, 58, 59, 60, 61, 258, 259, 260, 261, 166, 167, 168, 169, 170, 90, 91, 92, 262, 263, 264, 265, 41, 42, 43, 45, 266, 267, 268, 269, 270, 271, 272, 273, 280, 281, 282, 283, 284] rfl (by decide +kernel)) (goodIn_sub (fun _ h => List.mem_cons_of_mem _ (List.mem_append_left _ (List.mem_append_left _ (List.mem_append_left _ (List.mem_append_left _ (List.mem_append_left _ (List.mem_append_left _ (List.mem_append_right _ h)))))))) (by decide +kernel))) (goodIn_sub (fun _ h => List.mem_cons_of_mem _ (List.mem_append_left _ (List.mem_append_left _ (List.mem_append_left _ (List.mem_append_right _ h))))) (by decide +kernel))) (goodIn_sub (fun _ h => List.mem_cons_of_mem _ (List.mem_append_left _ (List.mem_append_left _ (List.mem_append_left _ (List.mem_append_left _ (List.mem_append_left _ (List.mem_append_right _ h))))))) (by decide +kernel))
set_option maxRecDepth 20000 in
theorem gX4_doCommand_X4_arrangeStack : GoodIn wsX4_doCommand (wsV RX4 139 RX4 yX4_arrangeStack wsX4_arrangeStack) := goodIn_app (goodIn_of _ (by decide +kernel)) ggX4_doCommand_X4_arrangeStack
theorem dX4_doCommand_0 : decode cX4_doCommand 0 = .ok (.aload_n 0, 1) := by decide +kernel
theorem dX4_doCommand_1 : decode cX4_doCommand 1 = .ok (.getfield 28, 3) := by decide +kernel
theorem dX4_doCommand_4 : decode cX4_doCommand 4 = .ok (.invokevirtual 80, 3) := by decide +kernel
theorem dX4_doCommand_7 : decode cX4_doCommand 7 = .ok (.istore_n 1, 1) := by decide +kernel
theorem dX4_doCommand_8 : decode cX4_doCommand 8 = .ok (.iload_n 1, 1) := by decide +kernel
theorem dX4_doCommand_9 : decode cX4_doCommand 9 = .ok (.invokestatic 111, 3) := by decide +kernel
theorem dX4_doCommand_12 : decode cX4_doCommand 12 = .ok (.ifCond .eq 8, 3) := by decide +kernel
theorem dX4_doCommand_15 : decode cX4_doCommand 15 = .ok (.aload_n 0, 1) := by decide +kernel
theorem dX4_doCommand_16 : decode cX4_doCommand 16 = .ok (.invokevirtual 115, 3) := by decide +kernel
theorem dX4_doCommand_19 : decode cX4_doCommand 19 = .ok (.return_, 1) := by decide +kernel
theorem dX4_doCommand_20 : decode cX4_doCommand 20 = .ok (.aload_n 0, 1) := by decide +kernel
theorem dX4_doCommand_21 : decode cX4_doCommand 21 = .ok (.getfield 28, 3) := by decide +kernel
theorem dX4_doCommand_24 : decode cX4_doCommand 24 = .ok (.invokevirtual 118, 3) := by decide +kernel
theorem dX4_doCommand_27 : decode cX4_doCommand 27 = .ok (.iload_n 1, 1) := by decide +kernel
theorem dX4_doCommand_28 : decode cX4_doCommand 28 = .ok (.lookupswitch 220 #[(37, 171), (42, 171), (43, 171), (45, 171), (47, 171), (60, 195), (61, 195), (62, 195), (76, 187), (83, 187), (88, 179), (91, 164), (107, 179), (108, 187), (113, 210), (115, 187), (118, 179), (120, 203), (126, 179)], 164) := by decide +kernel
theorem dX4_doCommand_192 : decode cX4_doCommand 192 = .ok (.aload_n 0, 1) := by decide +kernel
theorem dX4_doCommand_193 : decode cX4_doCommand 193 = .ok (.invokevirtual 121, 3) := by decide +kernel
theorem dX4_doCommand_196 : decode cX4_doCommand 196 = .ok (.goto 57, 3) := by decide +kernel
theorem dX4_doCommand_199 : decode cX4_doCommand 199 = .ok (.aload_n 0, 1) := by decide +kernel
theorem dX4_doCommand_200 : decode cX4_doCommand 200 = .ok (.iload_n 1, 1) := by decide +kernel
theorem dX4_doCommand_201 : decode cX4_doCommand 201 = .ok (.invokevirtual 124, 3) := by decide +kernel
theorem dX4_doCommand_204 : decode cX4_doCommand 204 = .ok (.goto 49, 3) := by decide +kernel
theorem dX4_doCommand_207 : decode cX4_doCommand 207 = .ok (.aload_n 0, 1) := by decide +kernel
theorem dX4_doCommand_208 : decode cX4_doCommand 208 = .ok (.iload_n 1, 1) := by decide +kernel
theorem dX4_doCommand_209 : decode cX4_doCommand 209 = .ok (.invokevirtual 127, 3) := by decide +kernel
theorem dX4_doCommand_212 : decode cX4_doCommand 212 = .ok (.goto 41, 3) := by decide +kernel
theorem dX4_doCommand_215 : decode cX4_doCommand 215 = .ok (.aload_n 0, 1) := by decide +kernel
theorem dX4_doCommand_216 : decode cX4_doCommand 216 = .ok (.iload_n 1, 1) := by decide +kernel
theorem dX4_doCommand_217 : decode cX4_doCommand 217 = .ok (.invokevirtual 130, 3) := by decide +kernel
theorem dX4_doCommand_220 : decode cX4_doCommand 220 = .ok (.goto 33, 3) := by decide +kernel
theorem dX4_doCommand_223 : decode cX4_doCommand 223 = .ok (.aload_n 0, 1) := by decide +kernel
theorem dX4_doCommand_224 : decode cX4_doCommand 224 = .ok (.iload_n 1, 1) := by decide +kernel
theorem dX4_doCommand_225 : decode cX4_doCommand 225 = .ok (.invokevirtual 133, 3) := by decide +kernel
theorem dX4_doCommand_228 : decode cX4_doCommand 228 = .ok (.goto 25, 3) := by decide +kernel
theorem dX4_doCommand_231 : decode cX4_doCommand 231 = .ok (.aload_n 0, 1) := by decide +kernel
theorem dX4_doCommand_232 : decode cX4_doCommand 232 = .ok (.invokevirtual 136, 3) := by decide +kernel
theorem dX4_doCommand_235 : decode cX4_doCommand 235 = .ok (.goto 18, 3) := by decide +kernel
theorem dX4_doCommand_238 : decode cX4_doCommand 238 = .ok (.aload_n 0, 1) := by decide +kernel
theorem dX4_doCommand_239 : decode cX4_doCommand 239 = .ok (.getfield 28, 3) := by decide +kernel
theorem dX4_doCommand_242 : decode cX4_doCommand 242 = .ok (.invokevirtual 66, 3) := by decide +kernel
theorem dX4_doCommand_245 : decode cX4_doCommand 245 = .ok (.goto 8, 3) := by decide +kernel
theorem dX4_doCommand_248 : decode cX4_doCommand 248 = .ok (.aload_n 0, 1) := by decide +kernel
theorem dX4_doCommand_249 : decode cX4_doCommand 249 = .ok (.iload_n 1, 1) := by decide +kernel
theorem dX4_doCommand_250 : decode cX4_doCommand 250 = .ok (.invokevirtual 139, 3) := by decide +kernel
theorem dX4_doCommand_253 : decode cX4_doCommand 253 = .ok (.return_, 1) := by decide +kernel
theorem dX4_isDigit_0 : decode cX4_isDigit 0 = .ok (.iload_n 0, 1) := by decide +kernel
theorem dX4_isDigit_1 : decode cX4_isDigit 1 = .ok (.bipush 48, 2) := by decide +kernel
theorem dX4_isDigit_3 : decode cX4_isDigit 3 = .ok (.if_icmp .lt 13, 3) := by decide +kernel
theorem dX4_isDigit_6 : decode cX4_isDigit 6 = .ok (.iload_n 0, 1) := by decide +kernel
theorem dX4_isDigit_7 : decode cX4_isDigit 7 = .ok (.bipush 57, 2) := by decide +kernel
theorem dX4_isDigit_9 : decode cX4_isDigit 9 = .ok (.if_icmp .gt 7, 3) := by decide +kernel
theorem dX4_isDigit_12 : decode cX4_isDigit 12 = .ok (.iconst 1, 1) := by decide +kernel
theorem dX4_isDigit_13 : decode cX4_isDigit 13 = .ok (.goto 4, 3) := by decide +kernel
theorem dX4_isDigit_16 : decode cX4_isDigit 16 = .ok (.iconst 0, 1) := by decide +kernel
theorem dX4_isDigit_17 : decode cX4_isDigit 17 = .ok (.ireturn, 1) := by decide +kernel
set_option maxRecDepth 20000 in
theorem ggX4_beginsNumber_X4_isDigit : GoodIn wsX4_beginsNumber wsX4_isDigit := goodIn_r _ [4] (by decide +kernel) (by decide +kernel)
set_option maxRecDepth 20000 in
theorem gX4_beginsNumber_X4_isDigit : GoodIn wsX4_beginsNumber (va_wsS RX4 142 yX4_isDigit wsX4_isDigit) := goodIn_app (goodIn_of _ (by decide +kernel)) ggX4_beginsNumber_X4_isDigit
theorem dX4_beginsNumber_0 : decode cX4_beginsNumber 0 = .ok (.iload_n 0, 1) := by decide +kernel
theorem dX4_beginsNumber_1 : decode cX4_beginsNumber 1 = .ok (.invokestatic 142, 3) := by decide +kernel
theorem dX4_beginsNumber_4 : decode cX4_beginsNumber 4 = .ok (.ifCond .ne 15, 3) := by decide +kernel
theorem dX4_beginsNumber_7 : decode cX4_beginsNumber 7 = .ok (.iload_n 0, 1) := by decide +kernel
theorem dX4_beginsNumber_8 : decode cX4_beginsNumber 8 = .ok (.bipush 46, 2) := by decide +kernel
theorem dX4_beginsNumber_10 : decode cX4_beginsNumber 10 = .ok (.if_icmp .eq 9, 3) := by decide +kernel
theorem dX4_beginsNumber_13 : decode cX4_beginsNumber 13 = .ok (.iload_n 0, 1) := by decide +kernel
theorem dX4_beginsNumber_14 : decode cX4_beginsNumber 14 = .ok (.bipush 95, 2) := by decide +kernel
theorem dX4_beginsNumber_16 : decode cX4_beginsNumber 16 = .ok (.if_icmp .ne 7, 3) := by decide +kernel
theorem dX4_beginsNumber_19 : decode cX4_beginsNumber 19 = .ok (.iconst 1, 1) := by decide +kernel
theorem dX4_beginsNumber_20 : decode cX4_beginsNumber 20 = .ok (.goto 4, 3) := by decide +kernel
theorem dX4_beginsNumber_23 : decode cX4_beginsNumber 23 = .ok (.iconst 0, 1) := by decide +kernel
theorem dX4_beginsNumber_24 : decode cX4_beginsNumber 24 = .ok (.ireturn, 1) := by decide +kernel
set_option maxRecDepth 20000 in
theorem ggX4_putWrittenNumber_X1_look : GoodIn wsX4_putWrittenNumber wsX1_look := goodIn_r _ [10, 11, 12, 13, 14, 15, 16, 17, 9, 18, 19, 20, 21, 22, 23, 24, 25, 69, 70, 71, 72, 73, 74] (by decide +kernel) (by decide +kernel)
set_option maxRecDepth 20000 in
theorem gX4_putWrittenNumber_X1_look : GoodIn wsX4_putWrittenNumber (wsV RX4 80 RX1 yX1_look wsX1_look) := goodIn_app (goodIn_of _ (by decide +kernel)) ggX4_putWrittenNumber_X1_look
set_option maxRecDepth 20000 in
theorem ggX4_putWrittenNumber_X1_pass : GoodIn wsX4_putWrittenNumber wsX1_pass := goodIn_r _ [29, 11, 12, 15, 16, 17, 9, 18, 14, 69, 70, 71, 72] (by decide +kernel) (by decide +kernel)
set_option maxRecDepth 20000 in
theorem gX4_putWrittenNumber_X1_pass : GoodIn wsX4_putWrittenNumber (wsV RX4 118 RX1 yX1_pass wsX1_pass) := goodIn_app (goodIn_of _ (by decide +kernel)) ggX4_putWrittenNumber_X1_pass
set_option maxRecDepth 20000 in
theorem ggX4_putWrittenNumber_X4_isDigit : GoodIn wsX4_putWrittenNumber wsX4_isDigit := goodIn_r _ [33] (by decide +kernel) (by decide +kernel)
set_option maxRecDepth 20000 in
theorem gX4_putWrittenNumber_X4_isDigit : GoodIn wsX4_putWrittenNumber (va_wsS RX4 142 yX4_isDigit wsX4_isDigit) := goodIn_app (goodIn_of _ (by decide +kernel)) ggX4_putWrittenNumber_X4_isDigit
set_option maxRecDepth 20000 in
theorem ggX4_putWrittenNumber_X3_putNumber : GoodIn wsX4_putWrittenNumber wsX3_putNumber := goodIn_ca (goodIn_r _ [38, 39, 40, 41, 37, 42, 43, 44, 45, 46, 47, 48, 49, 50, 51, 52, 53, 54, 55, 56, 57, 58, 59, 60, 61, 75, 76, 77, 78, 79] (by decide +kernel) (by decide +kernel)) (goodIn_sub (fun _ h => List.mem_cons_of_mem _ (List.mem_append_right _ h)) (by decide +kernel))
set_option maxRecDepth 20000 in
theorem gX4_putWrittenNumber_X3_putNumber : GoodIn wsX4_putWrittenNumber (wsV RX4 149 RX3 yX3_putNumber wsX3_putNumber) := goodIn_app (goodIn_of _ (by decide +kernel)) ggX4_putWrittenNumber_X3_putNumber
theorem dX4_putWrittenNumber_0 : decode cX4_putWrittenNumber 0 = .ok (.aload_n 0, 1) := by decide +kernel
theorem dX4_putWrittenNumber_1 : decode cX4_putWrittenNumber 1 = .ok (.getfield 28, 3) := by decide +kernel
theorem dX4_putWrittenNumber_4 : decode cX4_putWrittenNumber 4 = .ok (.invokevirtual 80, 3) := by decide +kernel
theorem dX4_putWrittenNumber_7 : decode cX4_putWrittenNumber 7 = .ok (.bipush 95, 2) := by decide +kernel
theorem dX4_putWrittenNumber_9 : decode cX4_putWrittenNumber 9 = .ok (.if_icmp .ne 7, 3) := by decide +kernel
theorem dX4_putWrittenNumber_12 : decode cX4_putWrittenNumber 12 = .ok (.iconst 1, 1) := by decide +kernel
theorem dX4_putWrittenNumber_13 : decode cX4_putWrittenNumber 13 = .ok (.goto 4, 3) := by decide +kernel
theorem dX4_putWrittenNumber_16 : decode cX4_putWrittenNumber 16 = .ok (.iconst 0, 1) := by decide +kernel
theorem dX4_putWrittenNumber_17 : decode cX4_putWrittenNumber 17 = .ok (.istore_n 1, 1) := by decide +kernel
theorem dX4_putWrittenNumber_18 : decode cX4_putWrittenNumber 18 = .ok (.iload_n 1, 1) := by decide +kernel
theorem dX4_putWrittenNumber_19 : decode cX4_putWrittenNumber 19 = .ok (.ifCond .eq 10, 3) := by decide +kernel
theorem dX4_putWrittenNumber_22 : decode cX4_putWrittenNumber 22 = .ok (.aload_n 0, 1) := by decide +kernel
theorem dX4_putWrittenNumber_23 : decode cX4_putWrittenNumber 23 = .ok (.getfield 28, 3) := by decide +kernel
theorem dX4_putWrittenNumber_26 : decode cX4_putWrittenNumber 26 = .ok (.invokevirtual 118, 3) := by decide +kernel
theorem dX4_putWrittenNumber_29 : decode cX4_putWrittenNumber 29 = .ok (.lconst 0, 1) := by decide +kernel
theorem dX4_putWrittenNumber_30 : decode cX4_putWrittenNumber 30 = .ok (.lstore_n 2, 1) := by decide +kernel
theorem dX4_putWrittenNumber_31 : decode cX4_putWrittenNumber 31 = .ok (.iconst 0, 1) := by decide +kernel
theorem dX4_putWrittenNumber_32 : decode cX4_putWrittenNumber 32 = .ok (.istore 4, 2) := by decide +kernel
theorem dX4_putWrittenNumber_34 : decode cX4_putWrittenNumber 34 = .ok (.iconst 0, 1) := by decide +kernel
theorem dX4_putWrittenNumber_35 : decode cX4_putWrittenNumber 35 = .ok (.istore 5, 2) := by decide +kernel
theorem dX4_putWrittenNumber_37 : decode cX4_putWrittenNumber 37 = .ok (.iconst 0, 1) := by decide +kernel
theorem dX4_putWrittenNumber_38 : decode cX4_putWrittenNumber 38 = .ok (.istore 6, 2) := by decide +kernel
theorem dX4_putWrittenNumber_40 : decode cX4_putWrittenNumber 40 = .ok (.iconst 0, 1) := by decide +kernel
theorem dX4_putWrittenNumber_41 : decode cX4_putWrittenNumber 41 = .ok (.istore 7, 2) := by decide +kernel
theorem dX4_putWrittenNumber_43 : decode cX4_putWrittenNumber 43 = .ok (.iload 7, 2) := by decide +kernel
theorem dX4_putWrittenNumber_45 : decode cX4_putWrittenNumber 45 = .ok (.sipush 160, 3) := by decide +kernel
theorem dX4_putWrittenNumber_48 : decode cX4_putWrittenNumber 48 = .ok (.if_icmp .ge 93, 3) := by decide +kernel
theorem dX4_putWrittenNumber_51 : decode cX4_putWrittenNumber 51 = .ok (.aload_n 0, 1) := by decide +kernel
