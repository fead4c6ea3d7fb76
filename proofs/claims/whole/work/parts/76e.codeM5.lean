theorem dX5_compared_40 : decode cX5_compared 40 = .ok (.getfield 17, 3) := by decide +kernel
theorem dX5_compared_43 : decode cX5_compared 43 = .ok (.aload_n 0, 1) := by decide +kernel
theorem dX5_compared_44 : decode cX5_compared 44 = .ok (.getfield 51, 3) := by decide +kernel
theorem dX5_compared_47 : decode cX5_compared 47 = .ok (.iconst 2, 1) := by decide +kernel
theorem dX5_compared_48 : decode cX5_compared 48 = .ok (.isub, 1) := by decide +kernel
theorem dX5_compared_49 : decode cX5_compared 49 = .ok (.iaload, 1) := by decide +kernel
theorem dX5_compared_50 : decode cX5_compared 50 = .ok (.isub, 1) := by decide +kernel
theorem dX5_compared_51 : decode cX5_compared 51 = .ok (.invokevirtual 81, 3) := by decide +kernel
theorem dX5_compared_54 : decode cX5_compared 54 = .ok (.lstore_n 2, 1) := by decide +kernel
theorem dX5_compared_55 : decode cX5_compared 55 = .ok (.aload_n 0, 1) := by decide +kernel
theorem dX5_compared_56 : decode cX5_compared 56 = .ok (.aload_n 0, 1) := by decide +kernel
theorem dX5_compared_57 : decode cX5_compared 57 = .ok (.getfield 13, 3) := by decide +kernel
theorem dX5_compared_60 : decode cX5_compared 60 = .ok (.aload_n 0, 1) := by decide +kernel
theorem dX5_compared_61 : decode cX5_compared 61 = .ok (.getfield 51, 3) := by decide +kernel
theorem dX5_compared_64 : decode cX5_compared 64 = .ok (.iconst 1, 1) := by decide +kernel
theorem dX5_compared_65 : decode cX5_compared 65 = .ok (.isub, 1) := by decide +kernel
theorem dX5_compared_66 : decode cX5_compared 66 = .ok (.laload, 1) := by decide +kernel
theorem dX5_compared_67 : decode cX5_compared 67 = .ok (.iload_n 1, 1) := by decide +kernel
theorem dX5_compared_68 : decode cX5_compared 68 = .ok (.aload_n 0, 1) := by decide +kernel
theorem dX5_compared_69 : decode cX5_compared 69 = .ok (.getfield 17, 3) := by decide +kernel
theorem dX5_compared_72 : decode cX5_compared 72 = .ok (.aload_n 0, 1) := by decide +kernel
theorem dX5_compared_73 : decode cX5_compared 73 = .ok (.getfield 51, 3) := by decide +kernel
theorem dX5_compared_76 : decode cX5_compared 76 = .ok (.iconst 1, 1) := by decide +kernel
theorem dX5_compared_77 : decode cX5_compared 77 = .ok (.isub, 1) := by decide +kernel
theorem dX5_compared_78 : decode cX5_compared 78 = .ok (.iaload, 1) := by decide +kernel
theorem dX5_compared_79 : decode cX5_compared 79 = .ok (.isub, 1) := by decide +kernel
theorem dX5_compared_80 : decode cX5_compared 80 = .ok (.invokevirtual 81, 3) := by decide +kernel
theorem dX5_compared_83 : decode cX5_compared 83 = .ok (.lstore 4, 2) := by decide +kernel
theorem dX5_compared_85 : decode cX5_compared 85 = .ok (.aload_n 0, 1) := by decide +kernel
theorem dX5_compared_86 : decode cX5_compared 86 = .ok (.lload_n 2, 1) := by decide +kernel
theorem dX5_compared_87 : decode cX5_compared 87 = .ok (.lload 4, 2) := by decide +kernel
theorem dX5_compared_89 : decode cX5_compared 89 = .ok (.lcmp, 1) := by decide +kernel
theorem dX5_compared_90 : decode cX5_compared 90 = .ok (.ifCond .le 7, 3) := by decide +kernel
theorem dX5_compared_93 : decode cX5_compared 93 = .ok (.lconst 1, 1) := by decide +kernel
theorem dX5_compared_94 : decode cX5_compared 94 = .ok (.goto 17, 3) := by decide +kernel
theorem dX5_compared_97 : decode cX5_compared 97 = .ok (.lload_n 2, 1) := by decide +kernel
theorem dX5_compared_98 : decode cX5_compared 98 = .ok (.lload 4, 2) := by decide +kernel
theorem dX5_compared_100 : decode cX5_compared 100 = .ok (.lcmp, 1) := by decide +kernel
theorem dX5_compared_101 : decode cX5_compared 101 = .ok (.ifCond .ge 9, 3) := by decide +kernel
theorem dX5_compared_104 : decode cX5_compared 104 = .ok (.ldc2_w 173, 3) := by decide +kernel
theorem dX5_compared_107 : decode cX5_compared 107 = .ok (.goto 4, 3) := by decide +kernel
theorem dX5_compared_110 : decode cX5_compared 110 = .ok (.lconst 0, 1) := by decide +kernel
theorem dX5_compared_111 : decode cX5_compared 111 = .ok (.putfield 85, 3) := by decide +kernel
theorem dX5_compared_114 : decode cX5_compared 114 = .ok (.aload_n 0, 1) := by decide +kernel
theorem dX5_compared_115 : decode cX5_compared 115 = .ok (.getfield 48, 3) := by decide +kernel
theorem dX5_compared_118 : decode cX5_compared 118 = .ok (.ifCond .ne 7, 3) := by decide +kernel
theorem dX5_compared_121 : decode cX5_compared 121 = .ok (.iconst 1, 1) := by decide +kernel
theorem dX5_compared_122 : decode cX5_compared 122 = .ok (.goto 4, 3) := by decide +kernel
theorem dX5_compared_125 : decode cX5_compared 125 = .ok (.iconst 0, 1) := by decide +kernel
theorem dX5_compared_126 : decode cX5_compared 126 = .ok (.ireturn, 1) := by decide +kernel
set_option maxRecDepth 20000 in
theorem ggX5_runs_X5_have : GoodIn wsX5_runs wsX5_have := goodIn_r _ [7, 2, 8, 9, 10, 6, 11, 12, 35, 36, 37, 38, 39, 40, 41, 42, 43, 44, 45, 46, 47, 48, 49, 50, 51, 52, 53, 54, 55] (by decide +kernel) (by decide +kernel)
set_option maxRecDepth 20000 in
theorem gX5_runs_X5_have : GoodIn wsX5_runs (wsV RX5 58 RX5 yX5_have wsX5_have) := goodIn_app (goodIn_of _ (by decide +kernel)) ggX5_runs_X5_have
set_option maxRecDepth 20000 in
theorem ggX5_runs_X5_mayRun : GoodIn wsX5_runs wsX5_mayRun := goodIn_r _ [16, 17, 18, 19, 20, 6, 21, 22, 23, 24, 25, 26, 27, 8, 9, 10, 11, 12, 35, 36, 37, 38, 39, 40, 41, 42, 43, 44, 45, 46, 47, 48, 49, 50, 51, 52, 53, 54, 55] (by decide +kernel) (by decide +kernel)
set_option maxRecDepth 20000 in
theorem gX5_runs_X5_mayRun : GoodIn wsX5_runs (wsV RX5 167 RX5 yX5_mayRun wsX5_mayRun) := goodIn_app (goodIn_of _ (by decide +kernel)) ggX5_runs_X5_mayRun
set_option maxRecDepth 20000 in
theorem ggX5_runs_X5_begin : GoodIn wsX5_runs wsX5_begin := goodIn_r _ [31, 32, 17, 22, 33, 23, 34, 18, 19, 20, 6, 21, 24, 25, 26, 27, 35, 36, 37, 38, 39, 40, 41, 42, 43, 44, 45, 46, 47, 48, 49, 50, 51, 52, 53, 54, 55] (by decide +kernel) (by decide +kernel)
set_option maxRecDepth 20000 in
theorem gX5_runs_X5_begin : GoodIn wsX5_runs (wsV RX5 170 RX5 yX5_begin wsX5_begin) := goodIn_app (goodIn_of _ (by decide +kernel)) ggX5_runs_X5_begin
theorem dX5_runs_0 : decode cX5_runs 0 = .ok (.aload_n 0, 1) := by decide +kernel
theorem dX5_runs_1 : decode cX5_runs 1 = .ok (.iconst 1, 1) := by decide +kernel
theorem dX5_runs_2 : decode cX5_runs 2 = .ok (.invokevirtual 58, 3) := by decide +kernel
theorem dX5_runs_5 : decode cX5_runs 5 = .ok (.ifCond .ne 5, 3) := by decide +kernel
theorem dX5_runs_8 : decode cX5_runs 8 = .ok (.iconst 0, 1) := by decide +kernel
theorem dX5_runs_9 : decode cX5_runs 9 = .ok (.ireturn, 1) := by decide +kernel
theorem dX5_runs_10 : decode cX5_runs 10 = .ok (.aload_n 0, 1) := by decide +kernel
theorem dX5_runs_11 : decode cX5_runs 11 = .ok (.getfield 17, 3) := by decide +kernel
theorem dX5_runs_14 : decode cX5_runs 14 = .ok (.aload_n 0, 1) := by decide +kernel
theorem dX5_runs_15 : decode cX5_runs 15 = .ok (.getfield 51, 3) := by decide +kernel
theorem dX5_runs_18 : decode cX5_runs 18 = .ok (.iconst 1, 1) := by decide +kernel
theorem dX5_runs_19 : decode cX5_runs 19 = .ok (.isub, 1) := by decide +kernel
theorem dX5_runs_20 : decode cX5_runs 20 = .ok (.iaload, 1) := by decide +kernel
theorem dX5_runs_21 : decode cX5_runs 21 = .ok (.ifCond .lt 5, 3) := by decide +kernel
theorem dX5_runs_24 : decode cX5_runs 24 = .ok (.iconst 1, 1) := by decide +kernel
theorem dX5_runs_25 : decode cX5_runs 25 = .ok (.ireturn, 1) := by decide +kernel
theorem dX5_runs_26 : decode cX5_runs 26 = .ok (.aload_n 0, 1) := by decide +kernel
theorem dX5_runs_27 : decode cX5_runs 27 = .ok (.iload_n 1, 1) := by decide +kernel
theorem dX5_runs_28 : decode cX5_runs 28 = .ok (.invokevirtual 167, 3) := by decide +kernel
theorem dX5_runs_31 : decode cX5_runs 31 = .ok (.ifCond .ne 5, 3) := by decide +kernel
theorem dX5_runs_34 : decode cX5_runs 34 = .ok (.iconst 0, 1) := by decide +kernel
theorem dX5_runs_35 : decode cX5_runs 35 = .ok (.ireturn, 1) := by decide +kernel
theorem dX5_runs_36 : decode cX5_runs 36 = .ok (.aload_n 0, 1) := by decide +kernel
theorem dX5_runs_37 : decode cX5_runs 37 = .ok (.dup, 1) := by decide +kernel
theorem dX5_runs_38 : decode cX5_runs 38 = .ok (.getfield 51, 3) := by decide +kernel
theorem dX5_runs_41 : decode cX5_runs 41 = .ok (.iconst 1, 1) := by decide +kernel
theorem dX5_runs_42 : decode cX5_runs 42 = .ok (.isub, 1) := by decide +kernel
theorem dX5_runs_43 : decode cX5_runs 43 = .ok (.putfield 51, 3) := by decide +kernel
theorem dX5_runs_46 : decode cX5_runs 46 = .ok (.aload_n 0, 1) := by decide +kernel
theorem dX5_runs_47 : decode cX5_runs 47 = .ok (.aload_n 0, 1) := by decide +kernel
theorem dX5_runs_48 : decode cX5_runs 48 = .ok (.getfield 51, 3) := by decide +kernel
theorem dX5_runs_51 : decode cX5_runs 51 = .ok (.iload_n 1, 1) := by decide +kernel
theorem dX5_runs_52 : decode cX5_runs 52 = .ok (.invokevirtual 170, 3) := by decide +kernel
theorem dX5_runs_55 : decode cX5_runs 55 = .ok (.iconst 1, 1) := by decide +kernel
theorem dX5_runs_56 : decode cX5_runs 56 = .ok (.ireturn, 1) := by decide +kernel
theorem dX5_isOne_0 : decode cX5_isOne 0 = .ok (.iload_n 0, 1) := by decide +kernel
theorem dX5_isOne_1 : decode cX5_isOne 1 = .ok (.iload_n 1, 1) := by decide +kernel
theorem dX5_isOne_2 : decode cX5_isOne 2 = .ok (.if_icmp .eq 19, 3) := by decide +kernel
theorem dX5_isOne_5 : decode cX5_isOne 5 = .ok (.iload_n 0, 1) := by decide +kernel
theorem dX5_isOne_6 : decode cX5_isOne 6 = .ok (.iload_n 2, 1) := by decide +kernel
theorem dX5_isOne_7 : decode cX5_isOne 7 = .ok (.if_icmp .eq 14, 3) := by decide +kernel
theorem dX5_isOne_10 : decode cX5_isOne 10 = .ok (.iload_n 0, 1) := by decide +kernel
theorem dX5_isOne_11 : decode cX5_isOne 11 = .ok (.iload_n 3, 1) := by decide +kernel
theorem dX5_isOne_12 : decode cX5_isOne 12 = .ok (.if_icmp .eq 9, 3) := by decide +kernel
theorem dX5_isOne_15 : decode cX5_isOne 15 = .ok (.iload_n 0, 1) := by decide +kernel
theorem dX5_isOne_16 : decode cX5_isOne 16 = .ok (.iload 4, 2) := by decide +kernel
theorem dX5_isOne_18 : decode cX5_isOne 18 = .ok (.if_icmp .ne 7, 3) := by decide +kernel
theorem dX5_isOne_21 : decode cX5_isOne 21 = .ok (.iconst 1, 1) := by decide +kernel
theorem dX5_isOne_22 : decode cX5_isOne 22 = .ok (.goto 4, 3) := by decide +kernel
theorem dX5_isOne_25 : decode cX5_isOne 25 = .ok (.iconst 0, 1) := by decide +kernel
theorem dX5_isOne_26 : decode cX5_isOne 26 = .ok (.ireturn, 1) := by decide +kernel
set_option maxRecDepth 20000 in
theorem ggX5_command_X5_charAt : GoodIn wsX5_command wsX5_charAt := goodIn_r _ [12, 13, 14, 158, 159, 160, 161, 162, 163, 164, 165, 166, 167, 168, 169, 170, 171, 172, 173, 174, 175, 176, 177, 178] (by decide +kernel) (by decide +kernel)
set_option maxRecDepth 20000 in
theorem gX5_command_X5_charAt : GoodIn wsX5_command (wsV RX5 120 RX5 yX5_charAt wsX5_charAt) := goodIn_app (goodIn_of _ (by decide +kernel)) ggX5_command_X5_charAt
set_option maxRecDepth 20000 in
theorem ggX5_command_X5_within : GoodIn wsX5_command wsX5_within := goodIn_r _ [17] (by decide +kernel) (by decide +kernel)
set_option maxRecDepth 20000 in
theorem gX5_command_X5_within : GoodIn wsX5_command (va_wsS RX5 127 yX5_within wsX5_within) := goodIn_app (goodIn_of _ (by decide +kernel)) ggX5_command_X5_within
set_option maxRecDepth 20000 in
theorem ggX5_command_X5_digits : GoodIn wsX5_command wsX5_digits := goodIn_r _ [21, 1, 2, 3, 22, 6, 8, 9, 10, 11, 12, 13, 14, 15, 16, 17, 23, 24, 25, 26, 27, 28, 29, 30, 31, 32, 33, 34, 35, 36, 37, 38, 158, 159, 160, 161, 162, 163, 164, 165, 166, 167, 168, 169, 170, 171, 172, 173, 174, 175, 176, 177, 178] (by decide +kernel) (by decide +kernel)
set_option maxRecDepth 20000 in
theorem gX5_command_X5_digits : GoodIn wsX5_command (wsV RX5 175 RX5 yX5_digits wsX5_digits) := goodIn_app (goodIn_of _ (by decide +kernel)) ggX5_command_X5_digits
set_option maxRecDepth 20000 in
theorem ggX5_command_X5_brackets : GoodIn wsX5_command wsX5_brackets := goodIn_r _ [42, 1, 13, 14, 43, 32, 6, 23, 24, 25, 11, 26, 27, 28, 29, 30, 31, 33, 34, 35, 36, 37, 38, 158, 159, 160, 161, 162, 163, 164, 165, 166, 167, 168, 169, 170, 171, 172, 173, 174, 175, 176, 177, 178] (by decide +kernel) (by decide +kernel)
set_option maxRecDepth 20000 in
theorem gX5_command_X5_brackets : GoodIn wsX5_command (wsV RX5 178 RX5 yX5_brackets wsX5_brackets) := goodIn_app (goodIn_of _ (by decide +kernel)) ggX5_command_X5_brackets
set_option maxRecDepth 20000 in
theorem ggX5_command_X5_isOne : GoodIn wsX5_command wsX5_isOne := goodIn_r _ [46] (by decide +kernel) (by decide +kernel)
set_option maxRecDepth 20000 in
theorem gX5_command_X5_isOne : GoodIn wsX5_command (va_wsS RX5 181 yX5_isOne wsX5_isOne) := goodIn_app (goodIn_of _ (by decide +kernel)) ggX5_command_X5_isOne
set_option maxRecDepth 20000 in
theorem ggX5_command_X5_fail : GoodIn wsX5_command wsX5_fail := goodIn_r _ [26, 27, 158, 159, 160, 161, 162, 163, 164, 165, 166, 167, 168, 169, 170, 171, 172, 173, 174, 175, 176, 177, 178] (by decide +kernel) (by decide +kernel)
set_option maxRecDepth 20000 in
theorem gX5_command_X5_fail : GoodIn wsX5_command (wsV RX5 54 RX5 yX5_fail wsX5_fail) := goodIn_app (goodIn_of _ (by decide +kernel)) ggX5_command_X5_fail
set_option maxRecDepth 20000 in
theorem ggX5_command_X5_register : GoodIn wsX5_command wsX5_register := goodIn_r _ [49] (by decide +kernel) (by decide +kernel)
set_option maxRecDepth 20000 in
theorem gX5_command_X5_register : GoodIn wsX5_command (va_wsS RX5 189 yX5_register wsX5_register) := goodIn_app (goodIn_of _ (by decide +kernel)) ggX5_command_X5_register
set_option maxRecDepth 20000 in
theorem ggX5_command_X5_stores : GoodIn wsX5_command wsX5_stores := goodIn_r _ [53, 54, 32, 55, 56, 57, 11, 58, 23, 24, 25, 26, 27, 59, 60, 61, 62, 63, 64, 65, 66, 37, 38, 43, 28, 29, 30, 31, 158, 159, 160, 161, 162, 163, 164, 165, 166, 167, 168, 169, 170, 171, 172, 173, 174, 175, 176, 177, 178] (by decide +kernel) (by decide +kernel)
set_option maxRecDepth 20000 in
theorem gX5_command_X5_stores : GoodIn wsX5_command (wsV RX5 192 RX5 yX5_stores wsX5_stores) := goodIn_app (goodIn_of _ (by decide +kernel)) ggX5_command_X5_stores
set_option maxRecDepth 20000 in
theorem ggX5_command_X5_tests : GoodIn wsX5_command wsX5_tests := goodIn_r _ [70, 71, 32, 54, 38, 72, 73, 74, 11, 75, 55, 56, 57, 58, 23, 24, 25, 26, 27, 76, 77, 78, 79, 37, 80, 81, 82, 83, 84, 85, 86, 87, 88, 89, 22, 59, 60, 61, 62, 90, 91, 92, 93, 1, 94, 95, 96, 97, 13, 14, 98, 99, 100, 101, 102, 103, 104, 105, 6, 43, 158, 159, 160, 161, 162, 163, 164, 165, 166, 167, 168, 169, 170, 171, 172, 173, 174, 175, 176, 177, 178] rfl (by decide +kernel)
set_option maxRecDepth 20000 in
theorem gX5_command_X5_tests : GoodIn wsX5_command (wsV RX5 196 RX5 yX5_tests wsX5_tests) := goodIn_app (goodIn_of _ (by decide +kernel)) ggX5_command_X5_tests
set_option maxRecDepth 20000 in
theorem ggX5_command_X5_runs : GoodIn wsX5_command wsX5_runs := goodIn_r _ [109, 38, 32, 55, 56, 57, 11, 58, 23, 24, 25, 26, 27, 90, 91, 92, 93, 1, 94, 95, 96, 97, 13, 14, 98, 99, 100, 101, 102, 103, 104, 105, 6, 37, 43, 158, 159, 160, 161, 162, 163, 164, 165, 166, 167, 168, 169, 170, 171, 172, 173, 174, 175, 176, 177, 178] (by decide +kernel) (by decide +kernel)
set_option maxRecDepth 20000 in
theorem gX5_command_X5_runs : GoodIn wsX5_command (wsV RX5 200 RX5 yX5_runs wsX5_runs) := goodIn_app (goodIn_of _ (by decide +kernel)) ggX5_command_X5_runs
set_option maxRecDepth 20000 in
theorem ggX5_command_X5_calculates : GoodIn wsX5_command wsX5_calculates := goodIn_r _ [113, 37, 32, 38, 114, 115, 71, 116, 117, 118, 119, 11, 120, 27, 72, 73, 74, 75, 55, 56, 57, 58, 23, 24, 25, 26, 81, 82, 83, 84, 85, 86, 87, 88, 89, 22, 121, 122, 123, 124, 125, 126, 127, 128, 129, 130, 131, 132, 133, 134, 135, 136, 137, 138, 139, 140, 141, 142, 143, 144, 145, 146, 147, 148, 149, 150, 33, 34, 35, 36, 15, 16, 17, 158, 159, 160, 161, 162, 163, 164, 165, 166, 167, 168, 169, 170, 171, 172, 173, 174, 175, 176, 177, 178] rfl (by decide +kernel)
set_option maxRecDepth 20000 in
theorem gX5_command_X5_calculates : GoodIn wsX5_command (wsV RX5 207 RX5 yX5_calculates wsX5_calculates) := goodIn_app (goodIn_of _ (by decide +kernel)) ggX5_command_X5_calculates
set_option maxRecDepth 20000 in
theorem ggX5_command_X5_moves : GoodIn wsX5_command wsX5_moves := goodIn_r _ [154, 32, 115, 155, 156, 37, 157, 38, 28, 29, 30, 11, 31, 23, 24, 25, 26, 27, 33, 34, 35, 36, 55, 56, 57, 58, 63, 64, 65, 66, 43, 158, 159, 160, 161, 162, 163, 164, 165, 166, 167, 168, 169, 170, 171, 172, 173, 174, 175, 176, 177, 178] (by decide +kernel) (by decide +kernel)
set_option maxRecDepth 20000 in
theorem gX5_command_X5_moves : GoodIn wsX5_command (wsV RX5 210 RX5 yX5_moves wsX5_moves) := goodIn_app (goodIn_of _ (by decide +kernel)) ggX5_command_X5_moves
theorem dX5_command_0 : decode cX5_command 0 = .ok (.aload_n 0, 1) := by decide +kernel
theorem dX5_command_1 : decode cX5_command 1 = .ok (.getfield 111, 3) := by decide +kernel
theorem dX5_command_4 : decode cX5_command 4 = .ok (.iconst 1, 1) := by decide +kernel
theorem dX5_command_5 : decode cX5_command 5 = .ok (.isub, 1) := by decide +kernel
theorem dX5_command_6 : decode cX5_command 6 = .ok (.istore_n 2, 1) := by decide +kernel
theorem dX5_command_7 : decode cX5_command 7 = .ok (.aload_n 0, 1) := by decide +kernel
theorem dX5_command_8 : decode cX5_command 8 = .ok (.iload_n 2, 1) := by decide +kernel
theorem dX5_command_9 : decode cX5_command 9 = .ok (.iload_n 1, 1) := by decide +kernel
theorem dX5_command_10 : decode cX5_command 10 = .ok (.invokevirtual 120, 3) := by decide +kernel
theorem dX5_command_13 : decode cX5_command 13 = .ok (.istore_n 3, 1) := by decide +kernel
theorem dX5_command_14 : decode cX5_command 14 = .ok (.aload_n 0, 1) := by decide +kernel
theorem dX5_command_15 : decode cX5_command 15 = .ok (.iload_n 2, 1) := by decide +kernel
theorem dX5_command_16 : decode cX5_command 16 = .ok (.iload_n 1, 1) := by decide +kernel
theorem dX5_command_17 : decode cX5_command 17 = .ok (.iconst 1, 1) := by decide +kernel
theorem dX5_command_18 : decode cX5_command 18 = .ok (.iadd, 1) := by decide +kernel
theorem dX5_command_19 : decode cX5_command 19 = .ok (.invokevirtual 120, 3) := by decide +kernel
theorem dX5_command_22 : decode cX5_command 22 = .ok (.istore 4, 2) := by decide +kernel
theorem dX5_command_24 : decode cX5_command 24 = .ok (.iload_n 3, 1) := by decide +kernel
theorem dX5_command_25 : decode cX5_command 25 = .ok (.i2l, 1) := by decide +kernel
theorem dX5_command_26 : decode cX5_command 26 = .ok (.ldc2_w 123, 3) := by decide +kernel
theorem dX5_command_29 : decode cX5_command 29 = .ok (.ldc2_w 125, 3) := by decide +kernel
theorem dX5_command_32 : decode cX5_command 32 = .ok (.invokestatic 127, 3) := by decide +kernel
theorem dX5_command_35 : decode cX5_command 35 = .ok (.ifCond .ne 15, 3) := by decide +kernel
theorem dX5_command_38 : decode cX5_command 38 = .ok (.iload_n 3, 1) := by decide +kernel
theorem dX5_command_39 : decode cX5_command 39 = .ok (.bipush 95, 2) := by decide +kernel
theorem dX5_command_41 : decode cX5_command 41 = .ok (.if_icmp .eq 9, 3) := by decide +kernel
theorem dX5_command_44 : decode cX5_command 44 = .ok (.iload_n 3, 1) := by decide +kernel
theorem dX5_command_45 : decode cX5_command 45 = .ok (.bipush 46, 2) := by decide +kernel
theorem dX5_command_47 : decode cX5_command 47 = .ok (.if_icmp .ne 9, 3) := by decide +kernel
theorem dX5_command_50 : decode cX5_command 50 = .ok (.aload_n 0, 1) := by decide +kernel
theorem dX5_command_51 : decode cX5_command 51 = .ok (.iload_n 1, 1) := by decide +kernel
theorem dX5_command_52 : decode cX5_command 52 = .ok (.invokevirtual 175, 3) := by decide +kernel
theorem dX5_command_55 : decode cX5_command 55 = .ok (.ireturn, 1) := by decide +kernel
theorem dX5_command_56 : decode cX5_command 56 = .ok (.iload_n 3, 1) := by decide +kernel
theorem dX5_command_57 : decode cX5_command 57 = .ok (.bipush 91, 2) := by decide +kernel
theorem dX5_command_59 : decode cX5_command 59 = .ok (.if_icmp .ne 9, 3) := by decide +kernel
theorem dX5_command_62 : decode cX5_command 62 = .ok (.aload_n 0, 1) := by decide +kernel
theorem dX5_command_63 : decode cX5_command 63 = .ok (.iload_n 1, 1) := by decide +kernel
theorem dX5_command_64 : decode cX5_command 64 = .ok (.invokevirtual 178, 3) := by decide +kernel
theorem dX5_command_67 : decode cX5_command 67 = .ok (.ireturn, 1) := by decide +kernel
theorem dX5_command_68 : decode cX5_command 68 = .ok (.iload_n 3, 1) := by decide +kernel
theorem dX5_command_69 : decode cX5_command 69 = .ok (.bipush 115, 2) := by decide +kernel
theorem dX5_command_71 : decode cX5_command 71 = .ok (.bipush 108, 2) := by decide +kernel
theorem dX5_command_73 : decode cX5_command 73 = .ok (.bipush 83, 2) := by decide +kernel
theorem dX5_command_75 : decode cX5_command 75 = .ok (.bipush 76, 2) := by decide +kernel
theorem dX5_command_77 : decode cX5_command 77 = .ok (.invokestatic 181, 3) := by decide +kernel
theorem dX5_command_80 : decode cX5_command 80 = .ok (.ifCond .ne 18, 3) := by decide +kernel
theorem dX5_command_83 : decode cX5_command 83 = .ok (.iload_n 3, 1) := by decide +kernel
theorem dX5_command_84 : decode cX5_command 84 = .ok (.bipush 60, 2) := by decide +kernel
theorem dX5_command_86 : decode cX5_command 86 = .ok (.bipush 62, 2) := by decide +kernel
theorem dX5_command_88 : decode cX5_command 88 = .ok (.bipush 61, 2) := by decide +kernel
theorem dX5_command_90 : decode cX5_command 90 = .ok (.bipush 60, 2) := by decide +kernel
theorem dX5_command_92 : decode cX5_command 92 = .ok (.invokestatic 181, 3) := by decide +kernel
theorem dX5_command_95 : decode cX5_command 95 = .ok (.ifCond .eq 7, 3) := by decide +kernel
theorem dX5_command_98 : decode cX5_command 98 = .ok (.iconst 1, 1) := by decide +kernel
theorem dX5_command_99 : decode cX5_command 99 = .ok (.goto 4, 3) := by decide +kernel
theorem dX5_command_102 : decode cX5_command 102 = .ok (.iconst 0, 1) := by decide +kernel
theorem dX5_command_103 : decode cX5_command 103 = .ok (.istore 5, 2) := by decide +kernel
theorem dX5_command_105 : decode cX5_command 105 = .ok (.iload 5, 2) := by decide +kernel
theorem dX5_command_107 : decode cX5_command 107 = .ok (.ifCond .eq 24, 3) := by decide +kernel
theorem dX5_command_110 : decode cX5_command 110 = .ok (.iload 4, 2) := by decide +kernel
theorem dX5_command_112 : decode cX5_command 112 = .ok (.i2l, 1) := by decide +kernel
theorem dX5_command_113 : decode cX5_command 113 = .ok (.ldc2_w 185, 3) := by decide +kernel
theorem dX5_command_116 : decode cX5_command 116 = .ok (.ldc2_w 187, 3) := by decide +kernel
theorem dX5_command_119 : decode cX5_command 119 = .ok (.invokestatic 127, 3) := by decide +kernel
theorem dX5_command_122 : decode cX5_command 122 = .ok (.ifCond .ne 9, 3) := by decide +kernel
theorem dX5_command_125 : decode cX5_command 125 = .ok (.aload_n 0, 1) := by decide +kernel
theorem dX5_command_126 : decode cX5_command 126 = .ok (.iconst 1, 1) := by decide +kernel
theorem dX5_command_127 : decode cX5_command 127 = .ok (.invokevirtual 54, 3) := by decide +kernel
theorem dX5_command_130 : decode cX5_command 130 = .ok (.ireturn, 1) := by decide +kernel
theorem dX5_command_131 : decode cX5_command 131 = .ok (.iload 5, 2) := by decide +kernel
theorem dX5_command_133 : decode cX5_command 133 = .ok (.ifCond .eq 9, 3) := by decide +kernel
theorem dX5_command_136 : decode cX5_command 136 = .ok (.iload_n 1, 1) := by decide +kernel
theorem dX5_command_137 : decode cX5_command 137 = .ok (.iconst 2, 1) := by decide +kernel
theorem dX5_command_138 : decode cX5_command 138 = .ok (.iadd, 1) := by decide +kernel
theorem dX5_command_139 : decode cX5_command 139 = .ok (.goto 6, 3) := by decide +kernel
theorem dX5_command_142 : decode cX5_command 142 = .ok (.iload_n 1, 1) := by decide +kernel
theorem dX5_command_143 : decode cX5_command 143 = .ok (.iconst 1, 1) := by decide +kernel
theorem dX5_command_144 : decode cX5_command 144 = .ok (.iadd, 1) := by decide +kernel
theorem dX5_command_145 : decode cX5_command 145 = .ok (.istore 6, 2) := by decide +kernel
theorem dX5_command_147 : decode cX5_command 147 = .ok (.aload_n 0, 1) := by decide +kernel
theorem dX5_command_148 : decode cX5_command 148 = .ok (.getfield 32, 3) := by decide +kernel
theorem dX5_command_151 : decode cX5_command 151 = .ok (.iload_n 2, 1) := by decide +kernel
theorem dX5_command_152 : decode cX5_command 152 = .ok (.iload 6, 2) := by decide +kernel
theorem dX5_command_154 : decode cX5_command 154 = .ok (.iastore, 1) := by decide +kernel
theorem dX5_command_155 : decode cX5_command 155 = .ok (.iload_n 3, 1) := by decide +kernel
theorem dX5_command_156 : decode cX5_command 156 = .ok (.bipush 115, 2) := by decide +kernel
theorem dX5_command_158 : decode cX5_command 158 = .ok (.bipush 108, 2) := by decide +kernel
theorem dX5_command_160 : decode cX5_command 160 = .ok (.bipush 83, 2) := by decide +kernel
theorem dX5_command_162 : decode cX5_command 162 = .ok (.bipush 76, 2) := by decide +kernel
theorem dX5_command_164 : decode cX5_command 164 = .ok (.invokestatic 181, 3) := by decide +kernel
theorem dX5_command_167 : decode cX5_command 167 = .ok (.ifCond .eq 14, 3) := by decide +kernel
theorem dX5_command_170 : decode cX5_command 170 = .ok (.aload_n 0, 1) := by decide +kernel
theorem dX5_command_171 : decode cX5_command 171 = .ok (.iload_n 3, 1) := by decide +kernel
theorem dX5_command_172 : decode cX5_command 172 = .ok (.iload 4, 2) := by decide +kernel
theorem dX5_command_174 : decode cX5_command 174 = .ok (.invokestatic 189, 3) := by decide +kernel
theorem dX5_command_177 : decode cX5_command 177 = .ok (.invokevirtual 192, 3) := by decide +kernel
theorem dX5_command_180 : decode cX5_command 180 = .ok (.ireturn, 1) := by decide +kernel
theorem dX5_command_181 : decode cX5_command 181 = .ok (.iload 5, 2) := by decide +kernel
theorem dX5_command_183 : decode cX5_command 183 = .ok (.ifCond .eq 16, 3) := by decide +kernel
theorem dX5_command_186 : decode cX5_command 186 = .ok (.aload_n 0, 1) := by decide +kernel
theorem dX5_command_187 : decode cX5_command 187 = .ok (.iload_n 3, 1) := by decide +kernel
theorem dX5_command_188 : decode cX5_command 188 = .ok (.iload 4, 2) := by decide +kernel
theorem dX5_command_190 : decode cX5_command 190 = .ok (.invokestatic 189, 3) := by decide +kernel
theorem dX5_command_193 : decode cX5_command 193 = .ok (.iload 6, 2) := by decide +kernel
theorem dX5_command_195 : decode cX5_command 195 = .ok (.invokevirtual 196, 3) := by decide +kernel
theorem dX5_command_198 : decode cX5_command 198 = .ok (.ireturn, 1) := by decide +kernel
theorem dX5_command_199 : decode cX5_command 199 = .ok (.iload_n 3, 1) := by decide +kernel
theorem dX5_command_200 : decode cX5_command 200 = .ok (.bipush 120, 2) := by decide +kernel
theorem dX5_command_202 : decode cX5_command 202 = .ok (.if_icmp .ne 10, 3) := by decide +kernel
theorem dX5_command_205 : decode cX5_command 205 = .ok (.aload_n 0, 1) := by decide +kernel
theorem dX5_command_206 : decode cX5_command 206 = .ok (.iload 6, 2) := by decide +kernel
theorem dX5_command_208 : decode cX5_command 208 = .ok (.invokevirtual 200, 3) := by decide +kernel
theorem dX5_command_211 : decode cX5_command 211 = .ok (.ireturn, 1) := by decide +kernel
theorem dX5_command_212 : decode cX5_command 212 = .ok (.iload_n 3, 1) := by decide +kernel
theorem dX5_command_213 : decode cX5_command 213 = .ok (.bipush 113, 2) := by decide +kernel
theorem dX5_command_215 : decode cX5_command 215 = .ok (.if_icmp .ne 10, 3) := by decide +kernel
theorem dX5_command_218 : decode cX5_command 218 = .ok (.aload_n 0, 1) := by decide +kernel
theorem dX5_command_219 : decode cX5_command 219 = .ok (.iconst 1, 1) := by decide +kernel
theorem dX5_command_220 : decode cX5_command 220 = .ok (.putfield 203, 3) := by decide +kernel
theorem dX5_command_223 : decode cX5_command 223 = .ok (.iconst 1, 1) := by decide +kernel
theorem dX5_command_224 : decode cX5_command 224 = .ok (.ireturn, 1) := by decide +kernel
theorem dX5_command_225 : decode cX5_command 225 = .ok (.iload_n 3, 1) := by decide +kernel
theorem dX5_command_226 : decode cX5_command 226 = .ok (.bipush 43, 2) := by decide +kernel
theorem dX5_command_228 : decode cX5_command 228 = .ok (.bipush 45, 2) := by decide +kernel
theorem dX5_command_230 : decode cX5_command 230 = .ok (.bipush 42, 2) := by decide +kernel
theorem dX5_command_232 : decode cX5_command 232 = .ok (.bipush 47, 2) := by decide +kernel
theorem dX5_command_234 : decode cX5_command 234 = .ok (.invokestatic 181, 3) := by decide +kernel
theorem dX5_command_237 : decode cX5_command 237 = .ok (.ifCond .ne 24, 3) := by decide +kernel
theorem dX5_command_240 : decode cX5_command 240 = .ok (.iload_n 3, 1) := by decide +kernel
theorem dX5_command_241 : decode cX5_command 241 = .ok (.bipush 37, 2) := by decide +kernel
theorem dX5_command_243 : decode cX5_command 243 = .ok (.bipush 118, 2) := by decide +kernel
theorem dX5_command_245 : decode cX5_command 245 = .ok (.bipush 126, 2) := by decide +kernel
theorem dX5_command_247 : decode cX5_command 247 = .ok (.bipush 107, 2) := by decide +kernel
theorem dX5_command_249 : decode cX5_command 249 = .ok (.invokestatic 181, 3) := by decide +kernel
theorem dX5_command_252 : decode cX5_command 252 = .ok (.ifCond .ne 9, 3) := by decide +kernel
theorem dX5_command_255 : decode cX5_command 255 = .ok (.iload_n 3, 1) := by decide +kernel
theorem dX5_command_256 : decode cX5_command 256 = .ok (.bipush 88, 2) := by decide +kernel
theorem dX5_command_258 : decode cX5_command 258 = .ok (.if_icmp .ne 9, 3) := by decide +kernel
theorem dX5_command_261 : decode cX5_command 261 = .ok (.aload_n 0, 1) := by decide +kernel
theorem dX5_command_262 : decode cX5_command 262 = .ok (.iload_n 3, 1) := by decide +kernel
theorem dX5_command_263 : decode cX5_command 263 = .ok (.invokevirtual 207, 3) := by decide +kernel
theorem dX5_command_266 : decode cX5_command 266 = .ok (.ireturn, 1) := by decide +kernel
theorem dX5_command_267 : decode cX5_command 267 = .ok (.iload_n 3, 1) := by decide +kernel
theorem dX5_command_268 : decode cX5_command 268 = .ok (.bipush 100, 2) := by decide +kernel
theorem dX5_command_270 : decode cX5_command 270 = .ok (.bipush 114, 2) := by decide +kernel
theorem dX5_command_272 : decode cX5_command 272 = .ok (.bipush 68, 2) := by decide +kernel
theorem dX5_command_274 : decode cX5_command 274 = .ok (.bipush 99, 2) := by decide +kernel
theorem dX5_command_276 : decode cX5_command 276 = .ok (.invokestatic 181, 3) := by decide +kernel
theorem dX5_command_279 : decode cX5_command 279 = .ok (.ifCond .ne 18, 3) := by decide +kernel
theorem dX5_command_282 : decode cX5_command 282 = .ok (.iload_n 3, 1) := by decide +kernel
theorem dX5_command_283 : decode cX5_command 283 = .ok (.bipush 122, 2) := by decide +kernel
theorem dX5_command_285 : decode cX5_command 285 = .ok (.bipush 75, 2) := by decide +kernel
theorem dX5_command_287 : decode cX5_command 287 = .ok (.bipush 112, 2) := by decide +kernel
theorem dX5_command_289 : decode cX5_command 289 = .ok (.bipush 112, 2) := by decide +kernel
theorem dX5_command_291 : decode cX5_command 291 = .ok (.invokestatic 181, 3) := by decide +kernel
theorem dX5_command_294 : decode cX5_command 294 = .ok (.ifCond .eq 9, 3) := by decide +kernel
theorem dX5_command_297 : decode cX5_command 297 = .ok (.aload_n 0, 1) := by decide +kernel
theorem dX5_command_298 : decode cX5_command 298 = .ok (.iload_n 3, 1) := by decide +kernel
theorem dX5_command_299 : decode cX5_command 299 = .ok (.invokevirtual 210, 3) := by decide +kernel
theorem dX5_command_302 : decode cX5_command 302 = .ok (.ireturn, 1) := by decide +kernel
theorem dX5_command_303 : decode cX5_command 303 = .ok (.aload_n 0, 1) := by decide +kernel
theorem dX5_command_304 : decode cX5_command 304 = .ok (.iconst 1, 1) := by decide +kernel
theorem dX5_command_305 : decode cX5_command 305 = .ok (.invokevirtual 54, 3) := by decide +kernel
theorem dX5_command_308 : decode cX5_command 308 = .ok (.ireturn, 1) := by decide +kernel
set_option maxRecDepth 20000 in
theorem ggX5_run_X5_within : GoodIn wsX5_run wsX5_within := goodIn_r _ [17] (by decide +kernel) (by decide +kernel)
set_option maxRecDepth 20000 in
theorem gX5_run_X5_within : GoodIn wsX5_run (va_wsS RX5 127 yX5_within wsX5_within) := goodIn_app (goodIn_of _ (by decide +kernel)) ggX5_run_X5_within
set_option maxRecDepth 20000 in
theorem ggX5_run_X5_isNothing : GoodIn wsX5_run wsX5_isNothing := goodIn_r _ [21] (by decide +kernel) (by decide +kernel)
set_option maxRecDepth 20000 in
theorem gX5_run_X5_isNothing : GoodIn wsX5_run (wsV RX5 114 RX5 yX5_isNothing wsX5_isNothing) := goodIn_app (goodIn_of _ (by decide +kernel)) ggX5_run_X5_isNothing
set_option maxRecDepth 20000 in
theorem ggX5_run_X5_command : GoodIn wsX5_run wsX5_command := goodIn_r _ [25, 7, 26, 27, 28, 29, 10, 6, 30, 31, 32, 16, 33, 8, 11, 14, 15, 17, 34, 35, 36, 37, 38, 39, 40, 41, 42, 5, 43, 44, 45, 46, 47, 48, 49, 50, 51, 52, 53, 54, 55, 56, 57, 58, 59, 60, 61, 62, 63, 64, 65, 66, 67, 68, 69, 70, 71, 72, 73, 74, 75, 76, 77, 78, 79, 80, 81, 82, 83, 84, 85, 86, 87, 88, 89, 90, 91, 92, 93, 94, 95, 96, 97, 98, 99, 100, 101, 102, 103, 104, 105, 106, 107, 108, 109, 110, 111, 112, 18, 19, 20, 21, 113, 114, 115, 116, 117, 118, 119, 120, 121, 122, 123, 124, 125, 126, 127, 128, 129, 130, 131, 132, 133, 134, 135, 136, 137, 138, 139, 140, 141, 142, 143, 144, 145, 146, 147, 148, 149, 150, 151, 152, 153, 154, 155, 156, 157, 158, 159, 160, 161, 162, 163, 164, 165, 3, 166, 167, 168, 169, 170, 171, 172, 173, 174, 175, 176, 177, 178, 179, 180, 181, 182, 183, 184, 185, 186, 187, 188] rfl (by decide +kernel)
set_option maxRecDepth 20000 in
theorem gX5_run_X5_command : GoodIn wsX5_run (wsV RX5 219 RX5 yX5_command wsX5_command) := goodIn_app (goodIn_of _ (by decide +kernel)) ggX5_run_X5_command
theorem dX5_run_0 : decode cX5_run 0 = .ok (.aload_n 0, 1) := by decide +kernel
theorem dX5_run_1 : decode cX5_run 1 = .ok (.iconst 1, 1) := by decide +kernel
theorem dX5_run_2 : decode cX5_run 2 = .ok (.putfield 41, 3) := by decide +kernel
theorem dX5_run_5 : decode cX5_run 5 = .ok (.iload_n 1, 1) := by decide +kernel
theorem dX5_run_6 : decode cX5_run 6 = .ok (.i2l, 1) := by decide +kernel
theorem dX5_run_7 : decode cX5_run 7 = .ok (.lconst 0, 1) := by decide +kernel
theorem dX5_run_8 : decode cX5_run 8 = .ok (.ldc2_w 213, 3) := by decide +kernel
theorem dX5_run_11 : decode cX5_run 11 = .ok (.invokestatic 127, 3) := by decide +kernel
theorem dX5_run_14 : decode cX5_run 14 = .ok (.ifCond .ne 5, 3) := by decide +kernel
theorem dX5_run_17 : decode cX5_run 17 = .ok (.iconst 0, 1) := by decide +kernel
theorem dX5_run_18 : decode cX5_run 18 = .ok (.ireturn, 1) := by decide +kernel
theorem dX5_run_19 : decode cX5_run 19 = .ok (.aload_n 0, 1) := by decide +kernel
theorem dX5_run_20 : decode cX5_run 20 = .ok (.iconst 0, 1) := by decide +kernel
theorem dX5_run_21 : decode cX5_run 21 = .ok (.putfield 157, 3) := by decide +kernel
theorem dX5_run_24 : decode cX5_run 24 = .ok (.aload_n 0, 1) := by decide +kernel
theorem dX5_run_25 : decode cX5_run 25 = .ok (.iconst 0, 1) := by decide +kernel
theorem dX5_run_26 : decode cX5_run 26 = .ok (.putfield 215, 3) := by decide +kernel
theorem dX5_run_29 : decode cX5_run 29 = .ok (.aload_n 0, 1) := by decide +kernel
theorem dX5_run_30 : decode cX5_run 30 = .ok (.iconst 0, 1) := by decide +kernel
theorem dX5_run_31 : decode cX5_run 31 = .ok (.putfield 48, 3) := by decide +kernel
theorem dX5_run_34 : decode cX5_run 34 = .ok (.aload_n 0, 1) := by decide +kernel
theorem dX5_run_35 : decode cX5_run 35 = .ok (.iconst 0, 1) := by decide +kernel
theorem dX5_run_36 : decode cX5_run 36 = .ok (.putfield 203, 3) := by decide +kernel
theorem dX5_run_39 : decode cX5_run 39 = .ok (.aload_n 0, 1) := by decide +kernel
theorem dX5_run_40 : decode cX5_run 40 = .ok (.iconst 1, 1) := by decide +kernel
theorem dX5_run_41 : decode cX5_run 41 = .ok (.putfield 111, 3) := by decide +kernel
theorem dX5_run_44 : decode cX5_run 44 = .ok (.aload_n 0, 1) := by decide +kernel
theorem dX5_run_45 : decode cX5_run 45 = .ok (.getfield 29, 3) := by decide +kernel
theorem dX5_run_48 : decode cX5_run 48 = .ok (.iconst 0, 1) := by decide +kernel
theorem dX5_run_49 : decode cX5_run 49 = .ok (.aload_n 0, 1) := by decide +kernel
theorem dX5_run_50 : decode cX5_run 50 = .ok (.getfield 45, 3) := by decide +kernel
theorem dX5_run_53 : decode cX5_run 53 = .ok (.iastore, 1) := by decide +kernel
theorem dX5_run_54 : decode cX5_run 54 = .ok (.aload_n 0, 1) := by decide +kernel
theorem dX5_run_55 : decode cX5_run 55 = .ok (.getfield 32, 3) := by decide +kernel
theorem dX5_run_58 : decode cX5_run 58 = .ok (.iconst 0, 1) := by decide +kernel
theorem dX5_run_59 : decode cX5_run 59 = .ok (.iconst 0, 1) := by decide +kernel
theorem dX5_run_60 : decode cX5_run 60 = .ok (.iastore, 1) := by decide +kernel
theorem dX5_run_61 : decode cX5_run 61 = .ok (.iconst 0, 1) := by decide +kernel
theorem dX5_run_62 : decode cX5_run 62 = .ok (.istore_n 2, 1) := by decide +kernel
theorem dX5_run_63 : decode cX5_run 63 = .ok (.iload_n 2, 1) := by decide +kernel
theorem dX5_run_64 : decode cX5_run 64 = .ok (.aload_n 0, 1) := by decide +kernel
theorem dX5_run_65 : decode cX5_run 65 = .ok (.getfield 45, 3) := by decide +kernel
theorem dX5_run_68 : decode cX5_run 68 = .ok (.if_icmp .ge 21, 3) := by decide +kernel
theorem dX5_run_71 : decode cX5_run 71 = .ok (.aload_n 0, 1) := by decide +kernel
theorem dX5_run_72 : decode cX5_run 72 = .ok (.getfield 26, 3) := by decide +kernel
theorem dX5_run_75 : decode cX5_run 75 = .ok (.iload_n 2, 1) := by decide +kernel
theorem dX5_run_76 : decode cX5_run 76 = .ok (.aload_n 0, 1) := by decide +kernel
theorem dX5_run_77 : decode cX5_run 77 = .ok (.getfield 7, 3) := by decide +kernel
theorem dX5_run_80 : decode cX5_run 80 = .ok (.iload_n 2, 1) := by decide +kernel
theorem dX5_run_81 : decode cX5_run 81 = .ok (.iaload, 1) := by decide +kernel
theorem dX5_run_82 : decode cX5_run 82 = .ok (.iastore, 1) := by decide +kernel
theorem dX5_run_83 : decode cX5_run 83 = .ok (.iinc 2 1, 3) := by decide +kernel
theorem dX5_run_86 : decode cX5_run 86 = .ok (.goto (-23), 3) := by decide +kernel
theorem dX5_run_89 : decode cX5_run 89 = .ok (.iconst 0, 1) := by decide +kernel
theorem dX5_run_90 : decode cX5_run 90 = .ok (.istore_n 2, 1) := by decide +kernel
theorem dX5_run_91 : decode cX5_run 91 = .ok (.iload_n 2, 1) := by decide +kernel
theorem dX5_run_92 : decode cX5_run 92 = .ok (.ldc 218, 2) := by decide +kernel
theorem dX5_run_94 : decode cX5_run 94 = .ok (.if_icmp .ge 137, 3) := by decide +kernel
theorem dX5_run_97 : decode cX5_run 97 = .ok (.aload_n 0, 1) := by decide +kernel
theorem dX5_run_98 : decode cX5_run 98 = .ok (.getfield 111, 3) := by decide +kernel
theorem dX5_run_101 : decode cX5_run 101 = .ok (.ifCond .le 130, 3) := by decide +kernel
theorem dX5_run_104 : decode cX5_run 104 = .ok (.aload_n 0, 1) := by decide +kernel
theorem dX5_run_105 : decode cX5_run 105 = .ok (.getfield 203, 3) := by decide +kernel
theorem dX5_run_108 : decode cX5_run 108 = .ok (.ifCond .ne 123, 3) := by decide +kernel
theorem dX5_run_111 : decode cX5_run 111 = .ok (.aload_n 0, 1) := by decide +kernel
theorem dX5_run_112 : decode cX5_run 112 = .ok (.getfield 48, 3) := by decide +kernel
theorem dX5_run_115 : decode cX5_run 115 = .ok (.ifCond .ne 116, 3) := by decide +kernel
theorem dX5_run_118 : decode cX5_run 118 = .ok (.aload_n 0, 1) := by decide +kernel
theorem dX5_run_119 : decode cX5_run 119 = .ok (.getfield 111, 3) := by decide +kernel
theorem dX5_run_122 : decode cX5_run 122 = .ok (.iconst 1, 1) := by decide +kernel
theorem dX5_run_123 : decode cX5_run 123 = .ok (.isub, 1) := by decide +kernel
theorem dX5_run_124 : decode cX5_run 124 = .ok (.istore_n 3, 1) := by decide +kernel
theorem dX5_run_125 : decode cX5_run 125 = .ok (.aload_n 0, 1) := by decide +kernel
theorem dX5_run_126 : decode cX5_run 126 = .ok (.getfield 32, 3) := by decide +kernel
theorem dX5_run_129 : decode cX5_run 129 = .ok (.iload_n 3, 1) := by decide +kernel
theorem dX5_run_130 : decode cX5_run 130 = .ok (.iaload, 1) := by decide +kernel
theorem dX5_run_131 : decode cX5_run 131 = .ok (.istore 4, 2) := by decide +kernel
theorem dX5_run_133 : decode cX5_run 133 = .ok (.iload 4, 2) := by decide +kernel
theorem dX5_run_135 : decode cX5_run 135 = .ok (.aload_n 0, 1) := by decide +kernel
theorem dX5_run_136 : decode cX5_run 136 = .ok (.getfield 29, 3) := by decide +kernel
theorem dX5_run_139 : decode cX5_run 139 = .ok (.iload_n 3, 1) := by decide +kernel
theorem dX5_run_140 : decode cX5_run 140 = .ok (.iaload, 1) := by decide +kernel
theorem dX5_run_141 : decode cX5_run 141 = .ok (.if_icmp .lt 16, 3) := by decide +kernel
theorem dX5_run_144 : decode cX5_run 144 = .ok (.aload_n 0, 1) := by decide +kernel
theorem dX5_run_145 : decode cX5_run 145 = .ok (.dup, 1) := by decide +kernel
theorem dX5_run_146 : decode cX5_run 146 = .ok (.getfield 111, 3) := by decide +kernel
theorem dX5_run_149 : decode cX5_run 149 = .ok (.iconst 1, 1) := by decide +kernel
theorem dX5_run_150 : decode cX5_run 150 = .ok (.isub, 1) := by decide +kernel
theorem dX5_run_151 : decode cX5_run 151 = .ok (.putfield 111, 3) := by decide +kernel
theorem dX5_run_154 : decode cX5_run 154 = .ok (.goto 71, 3) := by decide +kernel
theorem dX5_run_157 : decode cX5_run 157 = .ok (.aload_n 0, 1) := by decide +kernel
theorem dX5_run_158 : decode cX5_run 158 = .ok (.aload_n 0, 1) := by decide +kernel
theorem dX5_run_159 : decode cX5_run 159 = .ok (.getfield 26, 3) := by decide +kernel
theorem dX5_run_162 : decode cX5_run 162 = .ok (.sipush 160, 3) := by decide +kernel
theorem dX5_run_165 : decode cX5_run 165 = .ok (.iload_n 3, 1) := by decide +kernel
theorem dX5_run_166 : decode cX5_run 166 = .ok (.imul, 1) := by decide +kernel
theorem dX5_run_167 : decode cX5_run 167 = .ok (.iload 4, 2) := by decide +kernel
theorem dX5_run_169 : decode cX5_run 169 = .ok (.iadd, 1) := by decide +kernel
theorem dX5_run_170 : decode cX5_run 170 = .ok (.iaload, 1) := by decide +kernel
theorem dX5_run_171 : decode cX5_run 171 = .ok (.invokevirtual 114, 3) := by decide +kernel
theorem dX5_run_174 : decode cX5_run 174 = .ok (.ifCond .eq 16, 3) := by decide +kernel
theorem dX5_run_177 : decode cX5_run 177 = .ok (.aload_n 0, 1) := by decide +kernel
theorem dX5_run_178 : decode cX5_run 178 = .ok (.getfield 32, 3) := by decide +kernel
theorem dX5_run_181 : decode cX5_run 181 = .ok (.iload_n 3, 1) := by decide +kernel
theorem dX5_run_182 : decode cX5_run 182 = .ok (.iload 4, 2) := by decide +kernel
theorem dX5_run_184 : decode cX5_run 184 = .ok (.iconst 1, 1) := by decide +kernel
theorem dX5_run_185 : decode cX5_run 185 = .ok (.iadd, 1) := by decide +kernel
theorem dX5_run_186 : decode cX5_run 186 = .ok (.iastore, 1) := by decide +kernel
theorem dX5_run_187 : decode cX5_run 187 = .ok (.goto 38, 3) := by decide +kernel
theorem dX5_run_190 : decode cX5_run 190 = .ok (.aload_n 0, 1) := by decide +kernel
theorem dX5_run_191 : decode cX5_run 191 = .ok (.getfield 215, 3) := by decide +kernel
theorem dX5_run_194 : decode cX5_run 194 = .ok (.iload_n 1, 1) := by decide +kernel
theorem dX5_run_195 : decode cX5_run 195 = .ok (.if_icmp .ne 11, 3) := by decide +kernel
theorem dX5_run_198 : decode cX5_run 198 = .ok (.aload_n 0, 1) := by decide +kernel
theorem dX5_run_199 : decode cX5_run 199 = .ok (.iconst 5, 1) := by decide +kernel
theorem dX5_run_200 : decode cX5_run 200 = .ok (.putfield 48, 3) := by decide +kernel
theorem dX5_run_203 : decode cX5_run 203 = .ok (.goto 22, 3) := by decide +kernel
theorem dX5_run_206 : decode cX5_run 206 = .ok (.aload_n 0, 1) := by decide +kernel
theorem dX5_run_207 : decode cX5_run 207 = .ok (.iload 4, 2) := by decide +kernel
theorem dX5_run_209 : decode cX5_run 209 = .ok (.invokevirtual 219, 3) := by decide +kernel
theorem dX5_run_212 : decode cX5_run 212 = .ok (.ifCond .eq 13, 3) := by decide +kernel
theorem dX5_run_215 : decode cX5_run 215 = .ok (.aload_n 0, 1) := by decide +kernel
theorem dX5_run_216 : decode cX5_run 216 = .ok (.dup, 1) := by decide +kernel
theorem dX5_run_217 : decode cX5_run 217 = .ok (.getfield 215, 3) := by decide +kernel
theorem dX5_run_220 : decode cX5_run 220 = .ok (.iconst 1, 1) := by decide +kernel
theorem dX5_run_221 : decode cX5_run 221 = .ok (.iadd, 1) := by decide +kernel
theorem dX5_run_222 : decode cX5_run 222 = .ok (.putfield 215, 3) := by decide +kernel
theorem dX5_run_225 : decode cX5_run 225 = .ok (.iinc 2 1, 3) := by decide +kernel
theorem dX5_run_228 : decode cX5_run 228 = .ok (.goto (-137), 3) := by decide +kernel
theorem dX5_run_231 : decode cX5_run 231 = .ok (.aload_n 0, 1) := by decide +kernel
theorem dX5_run_232 : decode cX5_run 232 = .ok (.aload_n 0, 1) := by decide +kernel
theorem dX5_run_233 : decode cX5_run 233 = .ok (.getfield 48, 3) := by decide +kernel
theorem dX5_run_236 : decode cX5_run 236 = .ok (.putfield 41, 3) := by decide +kernel
theorem dX5_run_239 : decode cX5_run 239 = .ok (.aload_n 0, 1) := by decide +kernel
theorem dX5_run_240 : decode cX5_run 240 = .ok (.getfield 48, 3) := by decide +kernel
theorem dX5_run_243 : decode cX5_run 243 = .ok (.ifCond .le 7, 3) := by decide +kernel
theorem dX5_run_246 : decode cX5_run 246 = .ok (.iconst 0, 1) := by decide +kernel
theorem dX5_run_247 : decode cX5_run 247 = .ok (.goto 7, 3) := by decide +kernel
theorem dX5_run_250 : decode cX5_run 250 = .ok (.aload_n 0, 1) := by decide +kernel
theorem dX5_run_251 : decode cX5_run 251 = .ok (.getfield 215, 3) := by decide +kernel
theorem dX5_run_254 : decode cX5_run 254 = .ok (.ireturn, 1) := by decide +kernel
theorem dX5_cost_0 : decode cX5_cost 0 = .ok (.aload_n 0, 1) := by decide +kernel
theorem dX5_cost_1 : decode cX5_cost 1 = .ok (.iconst 0, 1) := by decide +kernel
theorem dX5_cost_2 : decode cX5_cost 2 = .ok (.putfield 41, 3) := by decide +kernel
theorem dX5_cost_5 : decode cX5_cost 5 = .ok (.aload_n 0, 1) := by decide +kernel
theorem dX5_cost_6 : decode cX5_cost 6 = .ok (.getfield 215, 3) := by decide +kernel
theorem dX5_cost_9 : decode cX5_cost 9 = .ok (.ireturn, 1) := by decide +kernel
theorem dX5_prints_0 : decode cX5_prints 0 = .ok (.aload_n 0, 1) := by decide +kernel
