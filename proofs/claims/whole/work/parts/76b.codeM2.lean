theorem dX5_sum_76 : decode cX5_sum 76 = .ok (.aload_n 0, 1) := by decide +kernel
theorem dX5_sum_77 : decode cX5_sum 77 = .ok (.getfield 51, 3) := by decide +kernel
theorem dX5_sum_80 : decode cX5_sum 80 = .ok (.iconst 1, 1) := by decide +kernel
theorem dX5_sum_81 : decode cX5_sum 81 = .ok (.isub, 1) := by decide +kernel
theorem dX5_sum_82 : decode cX5_sum 82 = .ok (.laload, 1) := by decide +kernel
theorem dX5_sum_83 : decode cX5_sum 83 = .ok (.aload_n 0, 1) := by decide +kernel
theorem dX5_sum_84 : decode cX5_sum 84 = .ok (.getfield 78, 3) := by decide +kernel
theorem dX5_sum_87 : decode cX5_sum 87 = .ok (.aload_n 0, 1) := by decide +kernel
theorem dX5_sum_88 : decode cX5_sum 88 = .ok (.getfield 17, 3) := by decide +kernel
theorem dX5_sum_91 : decode cX5_sum 91 = .ok (.aload_n 0, 1) := by decide +kernel
theorem dX5_sum_92 : decode cX5_sum 92 = .ok (.getfield 51, 3) := by decide +kernel
theorem dX5_sum_95 : decode cX5_sum 95 = .ok (.iconst 1, 1) := by decide +kernel
theorem dX5_sum_96 : decode cX5_sum 96 = .ok (.isub, 1) := by decide +kernel
theorem dX5_sum_97 : decode cX5_sum 97 = .ok (.iaload, 1) := by decide +kernel
theorem dX5_sum_98 : decode cX5_sum 98 = .ok (.isub, 1) := by decide +kernel
theorem dX5_sum_99 : decode cX5_sum 99 = .ok (.invokevirtual 81, 3) := by decide +kernel
theorem dX5_sum_102 : decode cX5_sum 102 = .ok (.lstore 4, 2) := by decide +kernel
theorem dX5_sum_104 : decode cX5_sum 104 = .ok (.aload_n 0, 1) := by decide +kernel
theorem dX5_sum_105 : decode cX5_sum 105 = .ok (.getfield 48, 3) := by decide +kernel
theorem dX5_sum_108 : decode cX5_sum 108 = .ok (.ifCond .le 5, 3) := by decide +kernel
theorem dX5_sum_111 : decode cX5_sum 111 = .ok (.iconst 0, 1) := by decide +kernel
theorem dX5_sum_112 : decode cX5_sum 112 = .ok (.ireturn, 1) := by decide +kernel
theorem dX5_sum_113 : decode cX5_sum 113 = .ok (.aload_n 0, 1) := by decide +kernel
theorem dX5_sum_114 : decode cX5_sum 114 = .ok (.iload_n 1, 1) := by decide +kernel
theorem dX5_sum_115 : decode cX5_sum 115 = .ok (.ifCond .eq 10, 3) := by decide +kernel
theorem dX5_sum_118 : decode cX5_sum 118 = .ok (.lload_n 2, 1) := by decide +kernel
theorem dX5_sum_119 : decode cX5_sum 119 = .ok (.lload 4, 2) := by decide +kernel
theorem dX5_sum_121 : decode cX5_sum 121 = .ok (.lsub, 1) := by decide +kernel
theorem dX5_sum_122 : decode cX5_sum 122 = .ok (.goto 7, 3) := by decide +kernel
theorem dX5_sum_125 : decode cX5_sum 125 = .ok (.lload_n 2, 1) := by decide +kernel
theorem dX5_sum_126 : decode cX5_sum 126 = .ok (.lload 4, 2) := by decide +kernel
theorem dX5_sum_128 : decode cX5_sum 128 = .ok (.ladd, 1) := by decide +kernel
theorem dX5_sum_129 : decode cX5_sum 129 = .ok (.putfield 85, 3) := by decide +kernel
theorem dX5_sum_132 : decode cX5_sum 132 = .ok (.aload_n 0, 1) := by decide +kernel
theorem dX5_sum_133 : decode cX5_sum 133 = .ok (.getfield 85, 3) := by decide +kernel
theorem dX5_sum_136 : decode cX5_sum 136 = .ok (.invokestatic 89, 3) := by decide +kernel
theorem dX5_sum_139 : decode cX5_sum 139 = .ok (.ifCond .eq 11, 3) := by decide +kernel
theorem dX5_sum_142 : decode cX5_sum 142 = .ok (.aload_n 0, 1) := by decide +kernel
theorem dX5_sum_143 : decode cX5_sum 143 = .ok (.iconst 5, 1) := by decide +kernel
theorem dX5_sum_144 : decode cX5_sum 144 = .ok (.invokevirtual 54, 3) := by decide +kernel
theorem dX5_sum_147 : decode cX5_sum 147 = .ok (.ifCond .eq 7, 3) := by decide +kernel
theorem dX5_sum_150 : decode cX5_sum 150 = .ok (.iconst 1, 1) := by decide +kernel
theorem dX5_sum_151 : decode cX5_sum 151 = .ok (.goto 4, 3) := by decide +kernel
theorem dX5_sum_154 : decode cX5_sum 154 = .ok (.iconst 0, 1) := by decide +kernel
theorem dX5_sum_155 : decode cX5_sum 155 = .ok (.ireturn, 1) := by decide +kernel
set_option maxRecDepth 20000 in
theorem ggX5_times_X5_numbers : GoodIn wsX5_times wsX5_numbers := goodIn_r _ [12, 1, 2, 13, 14, 15, 11, 16, 17, 18, 19, 20, 7, 33, 34, 35, 36, 37, 38, 39, 40, 41, 42, 43, 44, 45, 46, 47, 48, 49, 50, 51, 52, 53] (by decide +kernel) (by decide +kernel)
set_option maxRecDepth 20000 in
theorem gX5_times_X5_numbers : GoodIn wsX5_times (wsV RX5 71 RX5 yX5_numbers wsX5_numbers) := goodIn_app (goodIn_of _ (by decide +kernel)) ggX5_times_X5_numbers
set_option maxRecDepth 20000 in
theorem ggX5_times_X5_greater : GoodIn wsX5_times wsX5_greater := goodIn_r _ [23] (by decide +kernel) (by decide +kernel)
set_option maxRecDepth 20000 in
theorem gX5_times_X5_greater : GoodIn wsX5_times (va_wsS RX5 74 yX5_greater wsX5_greater) := goodIn_app (goodIn_of _ (by decide +kernel)) ggX5_times_X5_greater
set_option maxRecDepth 20000 in
theorem ggX5_times_X5_product : GoodIn wsX5_times wsX5_product := goodIn_r _ [27, 28, 7, 33, 34, 35, 36, 37, 38, 39, 40, 41, 42, 43, 44, 45, 46, 47, 48, 49, 50, 51, 52, 53] (by decide +kernel) (by decide +kernel)
set_option maxRecDepth 20000 in
theorem gX5_times_X5_product : GoodIn wsX5_times (wsV RX5 96 RX5 yX5_product wsX5_product) := goodIn_app (goodIn_of _ (by decide +kernel)) ggX5_times_X5_product
set_option maxRecDepth 20000 in
theorem ggX5_times_X5_cut : GoodIn wsX5_times wsX5_cut := goodIn_r _ [31, 32] (by decide +kernel) (by decide +kernel)
set_option maxRecDepth 20000 in
theorem gX5_times_X5_cut : GoodIn wsX5_times (va_wsS RX5 100 yX5_cut wsX5_cut) := goodIn_app (goodIn_of _ (by decide +kernel)) ggX5_times_X5_cut
theorem dX5_times_0 : decode cX5_times 0 = .ok (.aload_n 0, 1) := by decide +kernel
theorem dX5_times_1 : decode cX5_times 1 = .ok (.iconst 2, 1) := by decide +kernel
theorem dX5_times_2 : decode cX5_times 2 = .ok (.invokevirtual 71, 3) := by decide +kernel
theorem dX5_times_5 : decode cX5_times 5 = .ok (.ifCond .ne 5, 3) := by decide +kernel
theorem dX5_times_8 : decode cX5_times 8 = .ok (.iconst 0, 1) := by decide +kernel
theorem dX5_times_9 : decode cX5_times 9 = .ok (.ireturn, 1) := by decide +kernel
theorem dX5_times_10 : decode cX5_times 10 = .ok (.aload_n 0, 1) := by decide +kernel
theorem dX5_times_11 : decode cX5_times 11 = .ok (.getfield 17, 3) := by decide +kernel
theorem dX5_times_14 : decode cX5_times 14 = .ok (.aload_n 0, 1) := by decide +kernel
theorem dX5_times_15 : decode cX5_times 15 = .ok (.getfield 51, 3) := by decide +kernel
theorem dX5_times_18 : decode cX5_times 18 = .ok (.iconst 1, 1) := by decide +kernel
theorem dX5_times_19 : decode cX5_times 19 = .ok (.isub, 1) := by decide +kernel
theorem dX5_times_20 : decode cX5_times 20 = .ok (.iaload, 1) := by decide +kernel
theorem dX5_times_21 : decode cX5_times 21 = .ok (.istore_n 1, 1) := by decide +kernel
theorem dX5_times_22 : decode cX5_times 22 = .ok (.aload_n 0, 1) := by decide +kernel
theorem dX5_times_23 : decode cX5_times 23 = .ok (.getfield 17, 3) := by decide +kernel
theorem dX5_times_26 : decode cX5_times 26 = .ok (.aload_n 0, 1) := by decide +kernel
theorem dX5_times_27 : decode cX5_times 27 = .ok (.getfield 51, 3) := by decide +kernel
theorem dX5_times_30 : decode cX5_times 30 = .ok (.iconst 2, 1) := by decide +kernel
theorem dX5_times_31 : decode cX5_times 31 = .ok (.isub, 1) := by decide +kernel
theorem dX5_times_32 : decode cX5_times 32 = .ok (.iaload, 1) := by decide +kernel
theorem dX5_times_33 : decode cX5_times 33 = .ok (.istore_n 2, 1) := by decide +kernel
theorem dX5_times_34 : decode cX5_times 34 = .ok (.aload_n 0, 1) := by decide +kernel
theorem dX5_times_35 : decode cX5_times 35 = .ok (.aload_n 0, 1) := by decide +kernel
theorem dX5_times_36 : decode cX5_times 36 = .ok (.getfield 93, 3) := by decide +kernel
theorem dX5_times_39 : decode cX5_times 39 = .ok (.iload_n 1, 1) := by decide +kernel
theorem dX5_times_40 : decode cX5_times 40 = .ok (.iload_n 2, 1) := by decide +kernel
theorem dX5_times_41 : decode cX5_times 41 = .ok (.invokestatic 74, 3) := by decide +kernel
theorem dX5_times_44 : decode cX5_times 44 = .ok (.invokestatic 74, 3) := by decide +kernel
theorem dX5_times_47 : decode cX5_times 47 = .ok (.putfield 78, 3) := by decide +kernel
theorem dX5_times_50 : decode cX5_times 50 = .ok (.iload_n 1, 1) := by decide +kernel
theorem dX5_times_51 : decode cX5_times 51 = .ok (.iload_n 2, 1) := by decide +kernel
theorem dX5_times_52 : decode cX5_times 52 = .ok (.iadd, 1) := by decide +kernel
theorem dX5_times_53 : decode cX5_times 53 = .ok (.aload_n 0, 1) := by decide +kernel
theorem dX5_times_54 : decode cX5_times 54 = .ok (.getfield 78, 3) := by decide +kernel
theorem dX5_times_57 : decode cX5_times 57 = .ok (.if_icmp .ge 10, 3) := by decide +kernel
theorem dX5_times_60 : decode cX5_times 60 = .ok (.aload_n 0, 1) := by decide +kernel
theorem dX5_times_61 : decode cX5_times 61 = .ok (.iload_n 1, 1) := by decide +kernel
theorem dX5_times_62 : decode cX5_times 62 = .ok (.iload_n 2, 1) := by decide +kernel
theorem dX5_times_63 : decode cX5_times 63 = .ok (.iadd, 1) := by decide +kernel
theorem dX5_times_64 : decode cX5_times 64 = .ok (.putfield 78, 3) := by decide +kernel
theorem dX5_times_67 : decode cX5_times 67 = .ok (.aload_n 0, 1) := by decide +kernel
theorem dX5_times_68 : decode cX5_times 68 = .ok (.aload_n 0, 1) := by decide +kernel
theorem dX5_times_69 : decode cX5_times 69 = .ok (.aload_n 0, 1) := by decide +kernel
theorem dX5_times_70 : decode cX5_times 70 = .ok (.getfield 13, 3) := by decide +kernel
theorem dX5_times_73 : decode cX5_times 73 = .ok (.aload_n 0, 1) := by decide +kernel
theorem dX5_times_74 : decode cX5_times 74 = .ok (.getfield 51, 3) := by decide +kernel
theorem dX5_times_77 : decode cX5_times 77 = .ok (.iconst 2, 1) := by decide +kernel
theorem dX5_times_78 : decode cX5_times 78 = .ok (.isub, 1) := by decide +kernel
theorem dX5_times_79 : decode cX5_times 79 = .ok (.laload, 1) := by decide +kernel
theorem dX5_times_80 : decode cX5_times 80 = .ok (.aload_n 0, 1) := by decide +kernel
theorem dX5_times_81 : decode cX5_times 81 = .ok (.getfield 13, 3) := by decide +kernel
theorem dX5_times_84 : decode cX5_times 84 = .ok (.aload_n 0, 1) := by decide +kernel
theorem dX5_times_85 : decode cX5_times 85 = .ok (.getfield 51, 3) := by decide +kernel
theorem dX5_times_88 : decode cX5_times 88 = .ok (.iconst 1, 1) := by decide +kernel
theorem dX5_times_89 : decode cX5_times 89 = .ok (.isub, 1) := by decide +kernel
theorem dX5_times_90 : decode cX5_times 90 = .ok (.laload, 1) := by decide +kernel
theorem dX5_times_91 : decode cX5_times 91 = .ok (.invokevirtual 96, 3) := by decide +kernel
theorem dX5_times_94 : decode cX5_times 94 = .ok (.iload_n 1, 1) := by decide +kernel
theorem dX5_times_95 : decode cX5_times 95 = .ok (.iload_n 2, 1) := by decide +kernel
theorem dX5_times_96 : decode cX5_times 96 = .ok (.iadd, 1) := by decide +kernel
theorem dX5_times_97 : decode cX5_times 97 = .ok (.aload_n 0, 1) := by decide +kernel
theorem dX5_times_98 : decode cX5_times 98 = .ok (.getfield 78, 3) := by decide +kernel
theorem dX5_times_101 : decode cX5_times 101 = .ok (.isub, 1) := by decide +kernel
theorem dX5_times_102 : decode cX5_times 102 = .ok (.invokestatic 100, 3) := by decide +kernel
theorem dX5_times_105 : decode cX5_times 105 = .ok (.putfield 85, 3) := by decide +kernel
theorem dX5_times_108 : decode cX5_times 108 = .ok (.aload_n 0, 1) := by decide +kernel
theorem dX5_times_109 : decode cX5_times 109 = .ok (.getfield 48, 3) := by decide +kernel
theorem dX5_times_112 : decode cX5_times 112 = .ok (.ifCond .ne 7, 3) := by decide +kernel
theorem dX5_times_115 : decode cX5_times 115 = .ok (.iconst 1, 1) := by decide +kernel
theorem dX5_times_116 : decode cX5_times 116 = .ok (.goto 4, 3) := by decide +kernel
theorem dX5_times_119 : decode cX5_times 119 = .ok (.iconst 0, 1) := by decide +kernel
theorem dX5_times_120 : decode cX5_times 120 = .ok (.ireturn, 1) := by decide +kernel
set_option maxRecDepth 20000 in
theorem ggX5_quotient_X5_numbers : GoodIn wsX5_quotient wsX5_numbers := goodIn_r _ [12, 4, 2, 13, 14, 15, 11, 16, 17, 18, 19, 20, 5, 28, 29, 30, 31, 32, 33, 34, 35, 36, 37, 38, 39, 40, 41, 42, 43, 44, 45, 46, 47, 48] (by decide +kernel) (by decide +kernel)
set_option maxRecDepth 20000 in
theorem gX5_quotient_X5_numbers : GoodIn wsX5_quotient (wsV RX5 71 RX5 yX5_numbers wsX5_numbers) := goodIn_app (goodIn_of _ (by decide +kernel)) ggX5_quotient_X5_numbers
set_option maxRecDepth 20000 in
theorem ggX5_quotient_X5_fail : GoodIn wsX5_quotient wsX5_fail := goodIn_r _ [20, 5, 28, 29, 30, 31, 32, 33, 34, 35, 36, 37, 38, 39, 40, 41, 42, 43, 44, 45, 46, 47, 48] (by decide +kernel) (by decide +kernel)
set_option maxRecDepth 20000 in
theorem gX5_quotient_X5_fail : GoodIn wsX5_quotient (wsV RX5 54 RX5 yX5_fail wsX5_fail) := goodIn_app (goodIn_of _ (by decide +kernel)) ggX5_quotient_X5_fail
set_option maxRecDepth 20000 in
theorem ggX5_quotient_X5_raised : GoodIn wsX5_quotient wsX5_raised := goodIn_r _ [24, 5, 25, 26, 27, 28, 29, 30, 31, 32, 33, 34, 35, 36, 37, 38, 39, 40, 41, 42, 43, 44, 45, 46, 47, 48] (by decide +kernel) (by decide +kernel)
set_option maxRecDepth 20000 in
theorem gX5_quotient_X5_raised : GoodIn wsX5_quotient (wsV RX5 81 RX5 yX5_raised wsX5_raised) := goodIn_app (goodIn_of _ (by decide +kernel)) ggX5_quotient_X5_raised
theorem dX5_quotient_0 : decode cX5_quotient 0 = .ok (.aload_n 0, 1) := by decide +kernel
theorem dX5_quotient_1 : decode cX5_quotient 1 = .ok (.iconst 2, 1) := by decide +kernel
theorem dX5_quotient_2 : decode cX5_quotient 2 = .ok (.invokevirtual 71, 3) := by decide +kernel
theorem dX5_quotient_5 : decode cX5_quotient 5 = .ok (.ifCond .ne 5, 3) := by decide +kernel
theorem dX5_quotient_8 : decode cX5_quotient 8 = .ok (.iconst 0, 1) := by decide +kernel
theorem dX5_quotient_9 : decode cX5_quotient 9 = .ok (.ireturn, 1) := by decide +kernel
theorem dX5_quotient_10 : decode cX5_quotient 10 = .ok (.aload_n 0, 1) := by decide +kernel
theorem dX5_quotient_11 : decode cX5_quotient 11 = .ok (.getfield 13, 3) := by decide +kernel
theorem dX5_quotient_14 : decode cX5_quotient 14 = .ok (.aload_n 0, 1) := by decide +kernel
theorem dX5_quotient_15 : decode cX5_quotient 15 = .ok (.getfield 51, 3) := by decide +kernel
theorem dX5_quotient_18 : decode cX5_quotient 18 = .ok (.iconst 2, 1) := by decide +kernel
theorem dX5_quotient_19 : decode cX5_quotient 19 = .ok (.isub, 1) := by decide +kernel
theorem dX5_quotient_20 : decode cX5_quotient 20 = .ok (.laload, 1) := by decide +kernel
theorem dX5_quotient_21 : decode cX5_quotient 21 = .ok (.lstore_n 1, 1) := by decide +kernel
theorem dX5_quotient_22 : decode cX5_quotient 22 = .ok (.aload_n 0, 1) := by decide +kernel
theorem dX5_quotient_23 : decode cX5_quotient 23 = .ok (.getfield 13, 3) := by decide +kernel
theorem dX5_quotient_26 : decode cX5_quotient 26 = .ok (.aload_n 0, 1) := by decide +kernel
theorem dX5_quotient_27 : decode cX5_quotient 27 = .ok (.getfield 51, 3) := by decide +kernel
theorem dX5_quotient_30 : decode cX5_quotient 30 = .ok (.iconst 1, 1) := by decide +kernel
theorem dX5_quotient_31 : decode cX5_quotient 31 = .ok (.isub, 1) := by decide +kernel
theorem dX5_quotient_32 : decode cX5_quotient 32 = .ok (.laload, 1) := by decide +kernel
theorem dX5_quotient_33 : decode cX5_quotient 33 = .ok (.lstore_n 3, 1) := by decide +kernel
theorem dX5_quotient_34 : decode cX5_quotient 34 = .ok (.lload_n 3, 1) := by decide +kernel
theorem dX5_quotient_35 : decode cX5_quotient 35 = .ok (.lconst 0, 1) := by decide +kernel
theorem dX5_quotient_36 : decode cX5_quotient 36 = .ok (.lcmp, 1) := by decide +kernel
theorem dX5_quotient_37 : decode cX5_quotient 37 = .ok (.ifCond .ne 9, 3) := by decide +kernel
theorem dX5_quotient_40 : decode cX5_quotient 40 = .ok (.aload_n 0, 1) := by decide +kernel
theorem dX5_quotient_41 : decode cX5_quotient 41 = .ok (.iconst 4, 1) := by decide +kernel
theorem dX5_quotient_42 : decode cX5_quotient 42 = .ok (.invokevirtual 54, 3) := by decide +kernel
theorem dX5_quotient_45 : decode cX5_quotient 45 = .ok (.ireturn, 1) := by decide +kernel
theorem dX5_quotient_46 : decode cX5_quotient 46 = .ok (.aload_n 0, 1) := by decide +kernel
theorem dX5_quotient_47 : decode cX5_quotient 47 = .ok (.getfield 93, 3) := by decide +kernel
theorem dX5_quotient_50 : decode cX5_quotient 50 = .ok (.aload_n 0, 1) := by decide +kernel
theorem dX5_quotient_51 : decode cX5_quotient 51 = .ok (.getfield 17, 3) := by decide +kernel
theorem dX5_quotient_54 : decode cX5_quotient 54 = .ok (.aload_n 0, 1) := by decide +kernel
theorem dX5_quotient_55 : decode cX5_quotient 55 = .ok (.getfield 51, 3) := by decide +kernel
theorem dX5_quotient_58 : decode cX5_quotient 58 = .ok (.iconst 1, 1) := by decide +kernel
theorem dX5_quotient_59 : decode cX5_quotient 59 = .ok (.isub, 1) := by decide +kernel
theorem dX5_quotient_60 : decode cX5_quotient 60 = .ok (.iaload, 1) := by decide +kernel
theorem dX5_quotient_61 : decode cX5_quotient 61 = .ok (.iadd, 1) := by decide +kernel
theorem dX5_quotient_62 : decode cX5_quotient 62 = .ok (.aload_n 0, 1) := by decide +kernel
theorem dX5_quotient_63 : decode cX5_quotient 63 = .ok (.getfield 17, 3) := by decide +kernel
theorem dX5_quotient_66 : decode cX5_quotient 66 = .ok (.aload_n 0, 1) := by decide +kernel
theorem dX5_quotient_67 : decode cX5_quotient 67 = .ok (.getfield 51, 3) := by decide +kernel
theorem dX5_quotient_70 : decode cX5_quotient 70 = .ok (.iconst 2, 1) := by decide +kernel
theorem dX5_quotient_71 : decode cX5_quotient 71 = .ok (.isub, 1) := by decide +kernel
theorem dX5_quotient_72 : decode cX5_quotient 72 = .ok (.iaload, 1) := by decide +kernel
theorem dX5_quotient_73 : decode cX5_quotient 73 = .ok (.isub, 1) := by decide +kernel
theorem dX5_quotient_74 : decode cX5_quotient 74 = .ok (.istore 5, 2) := by decide +kernel
theorem dX5_quotient_76 : decode cX5_quotient 76 = .ok (.aload_n 0, 1) := by decide +kernel
theorem dX5_quotient_77 : decode cX5_quotient 77 = .ok (.lload_n 1, 1) := by decide +kernel
theorem dX5_quotient_78 : decode cX5_quotient 78 = .ok (.iload 5, 2) := by decide +kernel
theorem dX5_quotient_80 : decode cX5_quotient 80 = .ok (.invokevirtual 81, 3) := by decide +kernel
theorem dX5_quotient_83 : decode cX5_quotient 83 = .ok (.lstore_n 1, 1) := by decide +kernel
theorem dX5_quotient_84 : decode cX5_quotient 84 = .ok (.aload_n 0, 1) := by decide +kernel
theorem dX5_quotient_85 : decode cX5_quotient 85 = .ok (.lload_n 3, 1) := by decide +kernel
theorem dX5_quotient_86 : decode cX5_quotient 86 = .ok (.iload 5, 2) := by decide +kernel
theorem dX5_quotient_88 : decode cX5_quotient 88 = .ok (.ineg, 1) := by decide +kernel
theorem dX5_quotient_89 : decode cX5_quotient 89 = .ok (.invokevirtual 81, 3) := by decide +kernel
theorem dX5_quotient_92 : decode cX5_quotient 92 = .ok (.lstore_n 3, 1) := by decide +kernel
theorem dX5_quotient_93 : decode cX5_quotient 93 = .ok (.aload_n 0, 1) := by decide +kernel
theorem dX5_quotient_94 : decode cX5_quotient 94 = .ok (.getfield 48, 3) := by decide +kernel
theorem dX5_quotient_97 : decode cX5_quotient 97 = .ok (.ifCond .le 5, 3) := by decide +kernel
theorem dX5_quotient_100 : decode cX5_quotient 100 = .ok (.iconst 0, 1) := by decide +kernel
theorem dX5_quotient_101 : decode cX5_quotient 101 = .ok (.ireturn, 1) := by decide +kernel
theorem dX5_quotient_102 : decode cX5_quotient 102 = .ok (.aload_n 0, 1) := by decide +kernel
theorem dX5_quotient_103 : decode cX5_quotient 103 = .ok (.lload_n 1, 1) := by decide +kernel
theorem dX5_quotient_104 : decode cX5_quotient 104 = .ok (.lload_n 3, 1) := by decide +kernel
theorem dX5_quotient_105 : decode cX5_quotient 105 = .ok (.ldiv, 1) := by decide +kernel
theorem dX5_quotient_106 : decode cX5_quotient 106 = .ok (.putfield 85, 3) := by decide +kernel
theorem dX5_quotient_109 : decode cX5_quotient 109 = .ok (.aload_n 0, 1) := by decide +kernel
theorem dX5_quotient_110 : decode cX5_quotient 110 = .ok (.aload_n 0, 1) := by decide +kernel
theorem dX5_quotient_111 : decode cX5_quotient 111 = .ok (.getfield 93, 3) := by decide +kernel
theorem dX5_quotient_114 : decode cX5_quotient 114 = .ok (.putfield 78, 3) := by decide +kernel
theorem dX5_quotient_117 : decode cX5_quotient 117 = .ok (.iconst 1, 1) := by decide +kernel
theorem dX5_quotient_118 : decode cX5_quotient 118 = .ok (.ireturn, 1) := by decide +kernel
set_option maxRecDepth 20000 in
theorem ggX5_rest_X5_quotient : GoodIn wsX5_rest wsX5_quotient := goodIn_r _ [12, 6, 3, 1, 2, 7, 5, 4, 13, 14, 15, 11, 16, 17, 18, 19, 20, 21, 22, 23, 24, 25, 26, 27, 28, 29, 30, 31, 44, 45, 46, 47, 48, 49, 50, 51, 52, 53, 54, 55, 56, 57, 58, 59, 60, 61, 62, 63, 64] (by decide +kernel) (by decide +kernel)
set_option maxRecDepth 20000 in
theorem gX5_rest_X5_quotient : GoodIn wsX5_rest (wsV RX5 103 RX5 yX5_quotient wsX5_quotient) := goodIn_app (goodIn_of _ (by decide +kernel)) ggX5_rest_X5_quotient
set_option maxRecDepth 20000 in
theorem ggX5_rest_X5_greater : GoodIn wsX5_rest wsX5_greater := goodIn_r _ [34] (by decide +kernel) (by decide +kernel)
set_option maxRecDepth 20000 in
theorem gX5_rest_X5_greater : GoodIn wsX5_rest (va_wsS RX5 74 yX5_greater wsX5_greater) := goodIn_app (goodIn_of _ (by decide +kernel)) ggX5_rest_X5_greater
set_option maxRecDepth 20000 in
theorem ggX5_rest_X5_product : GoodIn wsX5_rest wsX5_product := goodIn_r _ [38, 39, 7, 44, 45, 46, 47, 48, 49, 50, 51, 52, 53, 54, 55, 56, 57, 58, 59, 60, 61, 62, 63, 64] (by decide +kernel) (by decide +kernel)
set_option maxRecDepth 20000 in
theorem gX5_rest_X5_product : GoodIn wsX5_rest (wsV RX5 96 RX5 yX5_product wsX5_product) := goodIn_app (goodIn_of _ (by decide +kernel)) ggX5_rest_X5_product
set_option maxRecDepth 20000 in
theorem ggX5_rest_X5_raised : GoodIn wsX5_rest wsX5_raised := goodIn_r _ [28, 7, 29, 30, 31, 44, 45, 46, 47, 48, 49, 50, 51, 52, 53, 54, 55, 56, 57, 58, 59, 60, 61, 62, 63, 64] (by decide +kernel) (by decide +kernel)
set_option maxRecDepth 20000 in
theorem gX5_rest_X5_raised : GoodIn wsX5_rest (wsV RX5 81 RX5 yX5_raised wsX5_raised) := goodIn_app (goodIn_of _ (by decide +kernel)) ggX5_rest_X5_raised
set_option maxRecDepth 20000 in
theorem ggX5_rest_X5_isBig : GoodIn wsX5_rest wsX5_isBig := goodIn_r _ [42, 39, 43] (by decide +kernel) (by decide +kernel)
set_option maxRecDepth 20000 in
theorem gX5_rest_X5_isBig : GoodIn wsX5_rest (va_wsS RX5 89 yX5_isBig wsX5_isBig) := goodIn_app (goodIn_of _ (by decide +kernel)) ggX5_rest_X5_isBig
theorem dX5_rest_0 : decode cX5_rest 0 = .ok (.aload_n 0, 1) := by decide +kernel
theorem dX5_rest_1 : decode cX5_rest 1 = .ok (.invokevirtual 103, 3) := by decide +kernel
theorem dX5_rest_4 : decode cX5_rest 4 = .ok (.ifCond .ne 5, 3) := by decide +kernel
theorem dX5_rest_7 : decode cX5_rest 7 = .ok (.iconst 0, 1) := by decide +kernel
theorem dX5_rest_8 : decode cX5_rest 8 = .ok (.ireturn, 1) := by decide +kernel
theorem dX5_rest_9 : decode cX5_rest 9 = .ok (.aload_n 0, 1) := by decide +kernel
theorem dX5_rest_10 : decode cX5_rest 10 = .ok (.getfield 93, 3) := by decide +kernel
theorem dX5_rest_13 : decode cX5_rest 13 = .ok (.aload_n 0, 1) := by decide +kernel
theorem dX5_rest_14 : decode cX5_rest 14 = .ok (.getfield 17, 3) := by decide +kernel
theorem dX5_rest_17 : decode cX5_rest 17 = .ok (.aload_n 0, 1) := by decide +kernel
theorem dX5_rest_18 : decode cX5_rest 18 = .ok (.getfield 51, 3) := by decide +kernel
theorem dX5_rest_21 : decode cX5_rest 21 = .ok (.iconst 1, 1) := by decide +kernel
theorem dX5_rest_22 : decode cX5_rest 22 = .ok (.isub, 1) := by decide +kernel
theorem dX5_rest_23 : decode cX5_rest 23 = .ok (.iaload, 1) := by decide +kernel
theorem dX5_rest_24 : decode cX5_rest 24 = .ok (.iadd, 1) := by decide +kernel
theorem dX5_rest_25 : decode cX5_rest 25 = .ok (.istore_n 1, 1) := by decide +kernel
theorem dX5_rest_26 : decode cX5_rest 26 = .ok (.aload_n 0, 1) := by decide +kernel
theorem dX5_rest_27 : decode cX5_rest 27 = .ok (.getfield 17, 3) := by decide +kernel
theorem dX5_rest_30 : decode cX5_rest 30 = .ok (.aload_n 0, 1) := by decide +kernel
theorem dX5_rest_31 : decode cX5_rest 31 = .ok (.getfield 51, 3) := by decide +kernel
theorem dX5_rest_34 : decode cX5_rest 34 = .ok (.iconst 2, 1) := by decide +kernel
theorem dX5_rest_35 : decode cX5_rest 35 = .ok (.isub, 1) := by decide +kernel
theorem dX5_rest_36 : decode cX5_rest 36 = .ok (.iaload, 1) := by decide +kernel
theorem dX5_rest_37 : decode cX5_rest 37 = .ok (.istore_n 2, 1) := by decide +kernel
theorem dX5_rest_38 : decode cX5_rest 38 = .ok (.aload_n 0, 1) := by decide +kernel
theorem dX5_rest_39 : decode cX5_rest 39 = .ok (.iload_n 1, 1) := by decide +kernel
theorem dX5_rest_40 : decode cX5_rest 40 = .ok (.iload_n 2, 1) := by decide +kernel
theorem dX5_rest_41 : decode cX5_rest 41 = .ok (.invokestatic 74, 3) := by decide +kernel
theorem dX5_rest_44 : decode cX5_rest 44 = .ok (.putfield 78, 3) := by decide +kernel
theorem dX5_rest_47 : decode cX5_rest 47 = .ok (.aload_n 0, 1) := by decide +kernel
theorem dX5_rest_48 : decode cX5_rest 48 = .ok (.aload_n 0, 1) := by decide +kernel
theorem dX5_rest_49 : decode cX5_rest 49 = .ok (.aload_n 0, 1) := by decide +kernel
theorem dX5_rest_50 : decode cX5_rest 50 = .ok (.getfield 85, 3) := by decide +kernel
theorem dX5_rest_53 : decode cX5_rest 53 = .ok (.aload_n 0, 1) := by decide +kernel
theorem dX5_rest_54 : decode cX5_rest 54 = .ok (.getfield 13, 3) := by decide +kernel
theorem dX5_rest_57 : decode cX5_rest 57 = .ok (.aload_n 0, 1) := by decide +kernel
theorem dX5_rest_58 : decode cX5_rest 58 = .ok (.getfield 51, 3) := by decide +kernel
theorem dX5_rest_61 : decode cX5_rest 61 = .ok (.iconst 1, 1) := by decide +kernel
theorem dX5_rest_62 : decode cX5_rest 62 = .ok (.isub, 1) := by decide +kernel
theorem dX5_rest_63 : decode cX5_rest 63 = .ok (.laload, 1) := by decide +kernel
theorem dX5_rest_64 : decode cX5_rest 64 = .ok (.invokevirtual 96, 3) := by decide +kernel
theorem dX5_rest_67 : decode cX5_rest 67 = .ok (.aload_n 0, 1) := by decide +kernel
theorem dX5_rest_68 : decode cX5_rest 68 = .ok (.getfield 78, 3) := by decide +kernel
theorem dX5_rest_71 : decode cX5_rest 71 = .ok (.iload_n 1, 1) := by decide +kernel
theorem dX5_rest_72 : decode cX5_rest 72 = .ok (.isub, 1) := by decide +kernel
theorem dX5_rest_73 : decode cX5_rest 73 = .ok (.invokevirtual 81, 3) := by decide +kernel
theorem dX5_rest_76 : decode cX5_rest 76 = .ok (.lstore_n 3, 1) := by decide +kernel
theorem dX5_rest_77 : decode cX5_rest 77 = .ok (.aload_n 0, 1) := by decide +kernel
theorem dX5_rest_78 : decode cX5_rest 78 = .ok (.aload_n 0, 1) := by decide +kernel
theorem dX5_rest_79 : decode cX5_rest 79 = .ok (.getfield 13, 3) := by decide +kernel
theorem dX5_rest_82 : decode cX5_rest 82 = .ok (.aload_n 0, 1) := by decide +kernel
theorem dX5_rest_83 : decode cX5_rest 83 = .ok (.getfield 51, 3) := by decide +kernel
theorem dX5_rest_86 : decode cX5_rest 86 = .ok (.iconst 2, 1) := by decide +kernel
theorem dX5_rest_87 : decode cX5_rest 87 = .ok (.isub, 1) := by decide +kernel
theorem dX5_rest_88 : decode cX5_rest 88 = .ok (.laload, 1) := by decide +kernel
theorem dX5_rest_89 : decode cX5_rest 89 = .ok (.aload_n 0, 1) := by decide +kernel
theorem dX5_rest_90 : decode cX5_rest 90 = .ok (.getfield 78, 3) := by decide +kernel
theorem dX5_rest_93 : decode cX5_rest 93 = .ok (.iload_n 2, 1) := by decide +kernel
theorem dX5_rest_94 : decode cX5_rest 94 = .ok (.isub, 1) := by decide +kernel
theorem dX5_rest_95 : decode cX5_rest 95 = .ok (.invokevirtual 81, 3) := by decide +kernel
theorem dX5_rest_98 : decode cX5_rest 98 = .ok (.lstore 5, 2) := by decide +kernel
theorem dX5_rest_100 : decode cX5_rest 100 = .ok (.aload_n 0, 1) := by decide +kernel
theorem dX5_rest_101 : decode cX5_rest 101 = .ok (.lload 5, 2) := by decide +kernel
theorem dX5_rest_103 : decode cX5_rest 103 = .ok (.lload_n 3, 1) := by decide +kernel
theorem dX5_rest_104 : decode cX5_rest 104 = .ok (.lsub, 1) := by decide +kernel
theorem dX5_rest_105 : decode cX5_rest 105 = .ok (.putfield 85, 3) := by decide +kernel
theorem dX5_rest_108 : decode cX5_rest 108 = .ok (.aload_n 0, 1) := by decide +kernel
theorem dX5_rest_109 : decode cX5_rest 109 = .ok (.getfield 48, 3) := by decide +kernel
theorem dX5_rest_112 : decode cX5_rest 112 = .ok (.ifCond .ne 27, 3) := by decide +kernel
theorem dX5_rest_115 : decode cX5_rest 115 = .ok (.aload_n 0, 1) := by decide +kernel
theorem dX5_rest_116 : decode cX5_rest 116 = .ok (.getfield 78, 3) := by decide +kernel
theorem dX5_rest_119 : decode cX5_rest 119 = .ok (.bipush 9, 2) := by decide +kernel
theorem dX5_rest_121 : decode cX5_rest 121 = .ok (.if_icmp .gt 13, 3) := by decide +kernel
theorem dX5_rest_124 : decode cX5_rest 124 = .ok (.aload_n 0, 1) := by decide +kernel
theorem dX5_rest_125 : decode cX5_rest 125 = .ok (.getfield 85, 3) := by decide +kernel
theorem dX5_rest_128 : decode cX5_rest 128 = .ok (.invokestatic 89, 3) := by decide +kernel
theorem dX5_rest_131 : decode cX5_rest 131 = .ok (.ifCond .eq 8, 3) := by decide +kernel
theorem dX5_rest_134 : decode cX5_rest 134 = .ok (.aload_n 0, 1) := by decide +kernel
theorem dX5_rest_135 : decode cX5_rest 135 = .ok (.iconst 5, 1) := by decide +kernel
theorem dX5_rest_136 : decode cX5_rest 136 = .ok (.putfield 48, 3) := by decide +kernel
theorem dX5_rest_139 : decode cX5_rest 139 = .ok (.aload_n 0, 1) := by decide +kernel
theorem dX5_rest_140 : decode cX5_rest 140 = .ok (.getfield 48, 3) := by decide +kernel
theorem dX5_rest_143 : decode cX5_rest 143 = .ok (.ifCond .ne 7, 3) := by decide +kernel
theorem dX5_rest_146 : decode cX5_rest 146 = .ok (.iconst 1, 1) := by decide +kernel
theorem dX5_rest_147 : decode cX5_rest 147 = .ok (.goto 4, 3) := by decide +kernel
theorem dX5_rest_150 : decode cX5_rest 150 = .ok (.iconst 0, 1) := by decide +kernel
theorem dX5_rest_151 : decode cX5_rest 151 = .ok (.ireturn, 1) := by decide +kernel
set_option maxRecDepth 20000 in
theorem ggX5_root_X5_numbers : GoodIn wsX5_root wsX5_numbers := goodIn_r _ [14, 4, 2, 15, 16, 17, 13, 18, 19, 20, 21, 22, 6, 33, 34, 35, 36, 37, 38, 39, 40, 41, 42, 43, 44, 45, 46, 47, 48, 49, 50, 51, 52, 53] (by decide +kernel) (by decide +kernel)
set_option maxRecDepth 20000 in
theorem gX5_root_X5_numbers : GoodIn wsX5_root (wsV RX5 71 RX5 yX5_numbers wsX5_numbers) := goodIn_app (goodIn_of _ (by decide +kernel)) ggX5_root_X5_numbers
set_option maxRecDepth 20000 in
theorem ggX5_root_X5_fail : GoodIn wsX5_root wsX5_fail := goodIn_r _ [22, 6, 33, 34, 35, 36, 37, 38, 39, 40, 41, 42, 43, 44, 45, 46, 47, 48, 49, 50, 51, 52, 53] (by decide +kernel) (by decide +kernel)
set_option maxRecDepth 20000 in
theorem gX5_root_X5_fail : GoodIn wsX5_root (wsV RX5 54 RX5 yX5_fail wsX5_fail) := goodIn_app (goodIn_of _ (by decide +kernel)) ggX5_root_X5_fail
set_option maxRecDepth 20000 in
theorem ggX5_root_X5_greater : GoodIn wsX5_root wsX5_greater := goodIn_r _ [25] (by decide +kernel) (by decide +kernel)
set_option maxRecDepth 20000 in
theorem gX5_root_X5_greater : GoodIn wsX5_root (va_wsS RX5 74 yX5_greater wsX5_greater) := goodIn_app (goodIn_of _ (by decide +kernel)) ggX5_root_X5_greater
set_option maxRecDepth 20000 in
theorem ggX5_root_X5_raised : GoodIn wsX5_root wsX5_raised := goodIn_r _ [29, 6, 30, 31, 32, 33, 34, 35, 36, 37, 38, 39, 40, 41, 42, 43, 44, 45, 46, 47, 48, 49, 50, 51, 52, 53] (by decide +kernel) (by decide +kernel)
set_option maxRecDepth 20000 in
theorem gX5_root_X5_raised : GoodIn wsX5_root (wsV RX5 81 RX5 yX5_raised wsX5_raised) := goodIn_app (goodIn_of _ (by decide +kernel)) ggX5_root_X5_raised
theorem dX5_root_0 : decode cX5_root 0 = .ok (.aload_n 0, 1) := by decide +kernel
theorem dX5_root_1 : decode cX5_root 1 = .ok (.iconst 1, 1) := by decide +kernel
theorem dX5_root_2 : decode cX5_root 2 = .ok (.invokevirtual 71, 3) := by decide +kernel
theorem dX5_root_5 : decode cX5_root 5 = .ok (.ifCond .ne 5, 3) := by decide +kernel
theorem dX5_root_8 : decode cX5_root 8 = .ok (.iconst 0, 1) := by decide +kernel
theorem dX5_root_9 : decode cX5_root 9 = .ok (.ireturn, 1) := by decide +kernel
theorem dX5_root_10 : decode cX5_root 10 = .ok (.aload_n 0, 1) := by decide +kernel
theorem dX5_root_11 : decode cX5_root 11 = .ok (.getfield 13, 3) := by decide +kernel
theorem dX5_root_14 : decode cX5_root 14 = .ok (.aload_n 0, 1) := by decide +kernel
theorem dX5_root_15 : decode cX5_root 15 = .ok (.getfield 51, 3) := by decide +kernel
theorem dX5_root_18 : decode cX5_root 18 = .ok (.iconst 1, 1) := by decide +kernel
theorem dX5_root_19 : decode cX5_root 19 = .ok (.isub, 1) := by decide +kernel
theorem dX5_root_20 : decode cX5_root 20 = .ok (.laload, 1) := by decide +kernel
theorem dX5_root_21 : decode cX5_root 21 = .ok (.lconst 0, 1) := by decide +kernel
theorem dX5_root_22 : decode cX5_root 22 = .ok (.lcmp, 1) := by decide +kernel
theorem dX5_root_23 : decode cX5_root 23 = .ok (.ifCond .ge 9, 3) := by decide +kernel
theorem dX5_root_26 : decode cX5_root 26 = .ok (.aload_n 0, 1) := by decide +kernel
theorem dX5_root_27 : decode cX5_root 27 = .ok (.iconst 4, 1) := by decide +kernel
theorem dX5_root_28 : decode cX5_root 28 = .ok (.invokevirtual 54, 3) := by decide +kernel
theorem dX5_root_31 : decode cX5_root 31 = .ok (.ireturn, 1) := by decide +kernel
theorem dX5_root_32 : decode cX5_root 32 = .ok (.aload_n 0, 1) := by decide +kernel
theorem dX5_root_33 : decode cX5_root 33 = .ok (.aload_n 0, 1) := by decide +kernel
theorem dX5_root_34 : decode cX5_root 34 = .ok (.getfield 93, 3) := by decide +kernel
theorem dX5_root_37 : decode cX5_root 37 = .ok (.aload_n 0, 1) := by decide +kernel
theorem dX5_root_38 : decode cX5_root 38 = .ok (.getfield 17, 3) := by decide +kernel
theorem dX5_root_41 : decode cX5_root 41 = .ok (.aload_n 0, 1) := by decide +kernel
theorem dX5_root_42 : decode cX5_root 42 = .ok (.getfield 51, 3) := by decide +kernel
theorem dX5_root_45 : decode cX5_root 45 = .ok (.iconst 1, 1) := by decide +kernel
theorem dX5_root_46 : decode cX5_root 46 = .ok (.isub, 1) := by decide +kernel
theorem dX5_root_47 : decode cX5_root 47 = .ok (.iaload, 1) := by decide +kernel
theorem dX5_root_48 : decode cX5_root 48 = .ok (.invokestatic 74, 3) := by decide +kernel
theorem dX5_root_51 : decode cX5_root 51 = .ok (.putfield 78, 3) := by decide +kernel
theorem dX5_root_54 : decode cX5_root 54 = .ok (.aload_n 0, 1) := by decide +kernel
theorem dX5_root_55 : decode cX5_root 55 = .ok (.aload_n 0, 1) := by decide +kernel
theorem dX5_root_56 : decode cX5_root 56 = .ok (.getfield 13, 3) := by decide +kernel
theorem dX5_root_59 : decode cX5_root 59 = .ok (.aload_n 0, 1) := by decide +kernel
theorem dX5_root_60 : decode cX5_root 60 = .ok (.getfield 51, 3) := by decide +kernel
theorem dX5_root_63 : decode cX5_root 63 = .ok (.iconst 1, 1) := by decide +kernel
theorem dX5_root_64 : decode cX5_root 64 = .ok (.isub, 1) := by decide +kernel
theorem dX5_root_65 : decode cX5_root 65 = .ok (.laload, 1) := by decide +kernel
theorem dX5_root_66 : decode cX5_root 66 = .ok (.iconst 2, 1) := by decide +kernel
theorem dX5_root_67 : decode cX5_root 67 = .ok (.aload_n 0, 1) := by decide +kernel
theorem dX5_root_68 : decode cX5_root 68 = .ok (.getfield 78, 3) := by decide +kernel
theorem dX5_root_71 : decode cX5_root 71 = .ok (.imul, 1) := by decide +kernel
theorem dX5_root_72 : decode cX5_root 72 = .ok (.aload_n 0, 1) := by decide +kernel
theorem dX5_root_73 : decode cX5_root 73 = .ok (.getfield 17, 3) := by decide +kernel
theorem dX5_root_76 : decode cX5_root 76 = .ok (.aload_n 0, 1) := by decide +kernel
theorem dX5_root_77 : decode cX5_root 77 = .ok (.getfield 51, 3) := by decide +kernel
theorem dX5_root_80 : decode cX5_root 80 = .ok (.iconst 1, 1) := by decide +kernel
theorem dX5_root_81 : decode cX5_root 81 = .ok (.isub, 1) := by decide +kernel
theorem dX5_root_82 : decode cX5_root 82 = .ok (.iaload, 1) := by decide +kernel
theorem dX5_root_83 : decode cX5_root 83 = .ok (.isub, 1) := by decide +kernel
theorem dX5_root_84 : decode cX5_root 84 = .ok (.invokevirtual 81, 3) := by decide +kernel
theorem dX5_root_87 : decode cX5_root 87 = .ok (.lstore_n 1, 1) := by decide +kernel
theorem dX5_root_88 : decode cX5_root 88 = .ok (.aload_n 0, 1) := by decide +kernel
theorem dX5_root_89 : decode cX5_root 89 = .ok (.getfield 48, 3) := by decide +kernel
theorem dX5_root_92 : decode cX5_root 92 = .ok (.ifCond .le 5, 3) := by decide +kernel
theorem dX5_root_95 : decode cX5_root 95 = .ok (.iconst 0, 1) := by decide +kernel
theorem dX5_root_96 : decode cX5_root 96 = .ok (.ireturn, 1) := by decide +kernel
theorem dX5_root_97 : decode cX5_root 97 = .ok (.lconst 0, 1) := by decide +kernel
theorem dX5_root_98 : decode cX5_root 98 = .ok (.lstore_n 3, 1) := by decide +kernel
theorem dX5_root_99 : decode cX5_root 99 = .ok (.ldc2_w 107, 3) := by decide +kernel
theorem dX5_root_102 : decode cX5_root 102 = .ok (.lstore 5, 2) := by decide +kernel
theorem dX5_root_104 : decode cX5_root 104 = .ok (.iconst 0, 1) := by decide +kernel
theorem dX5_root_105 : decode cX5_root 105 = .ok (.istore 7, 2) := by decide +kernel
theorem dX5_root_107 : decode cX5_root 107 = .ok (.iload 7, 2) := by decide +kernel
theorem dX5_root_109 : decode cX5_root 109 = .ok (.bipush 40, 2) := by decide +kernel
theorem dX5_root_111 : decode cX5_root 111 = .ok (.if_icmp .ge 50, 3) := by decide +kernel
theorem dX5_root_114 : decode cX5_root 114 = .ok (.lload_n 3, 1) := by decide +kernel
theorem dX5_root_115 : decode cX5_root 115 = .ok (.lload 5, 2) := by decide +kernel
theorem dX5_root_117 : decode cX5_root 117 = .ok (.lcmp, 1) := by decide +kernel
theorem dX5_root_118 : decode cX5_root 118 = .ok (.ifCond .ge 43, 3) := by decide +kernel
theorem dX5_root_121 : decode cX5_root 121 = .ok (.lload_n 3, 1) := by decide +kernel
theorem dX5_root_122 : decode cX5_root 122 = .ok (.lload 5, 2) := by decide +kernel
theorem dX5_root_124 : decode cX5_root 124 = .ok (.ladd, 1) := by decide +kernel
theorem dX5_root_125 : decode cX5_root 125 = .ok (.lconst 1, 1) := by decide +kernel
theorem dX5_root_126 : decode cX5_root 126 = .ok (.ladd, 1) := by decide +kernel
theorem dX5_root_127 : decode cX5_root 127 = .ok (.ldc2_w 109, 3) := by decide +kernel
theorem dX5_root_130 : decode cX5_root 130 = .ok (.ldiv, 1) := by decide +kernel
theorem dX5_root_131 : decode cX5_root 131 = .ok (.lstore 8, 2) := by decide +kernel
theorem dX5_root_133 : decode cX5_root 133 = .ok (.lload 8, 2) := by decide +kernel
theorem dX5_root_135 : decode cX5_root 135 = .ok (.lload 8, 2) := by decide +kernel
theorem dX5_root_137 : decode cX5_root 137 = .ok (.lmul, 1) := by decide +kernel
theorem dX5_root_138 : decode cX5_root 138 = .ok (.lload_n 1, 1) := by decide +kernel
theorem dX5_root_139 : decode cX5_root 139 = .ok (.lcmp, 1) := by decide +kernel
theorem dX5_root_140 : decode cX5_root 140 = .ok (.ifCond .gt 9, 3) := by decide +kernel
theorem dX5_root_143 : decode cX5_root 143 = .ok (.lload 8, 2) := by decide +kernel
theorem dX5_root_145 : decode cX5_root 145 = .ok (.lstore_n 3, 1) := by decide +kernel
theorem dX5_root_146 : decode cX5_root 146 = .ok (.goto 9, 3) := by decide +kernel
theorem dX5_root_149 : decode cX5_root 149 = .ok (.lload 8, 2) := by decide +kernel
theorem dX5_root_151 : decode cX5_root 151 = .ok (.lconst 1, 1) := by decide +kernel
theorem dX5_root_152 : decode cX5_root 152 = .ok (.lsub, 1) := by decide +kernel
theorem dX5_root_153 : decode cX5_root 153 = .ok (.lstore 5, 2) := by decide +kernel
theorem dX5_root_155 : decode cX5_root 155 = .ok (.iinc 7 1, 3) := by decide +kernel
theorem dX5_root_158 : decode cX5_root 158 = .ok (.goto (-51), 3) := by decide +kernel
theorem dX5_root_161 : decode cX5_root 161 = .ok (.aload_n 0, 1) := by decide +kernel
theorem dX5_root_162 : decode cX5_root 162 = .ok (.lload_n 3, 1) := by decide +kernel
theorem dX5_root_163 : decode cX5_root 163 = .ok (.putfield 85, 3) := by decide +kernel
theorem dX5_root_166 : decode cX5_root 166 = .ok (.iconst 1, 1) := by decide +kernel
theorem dX5_root_167 : decode cX5_root 167 = .ok (.ireturn, 1) := by decide +kernel
theorem dX5_charAt_0 : decode cX5_charAt 0 = .ok (.iload_n 2, 1) := by decide +kernel
theorem dX5_charAt_1 : decode cX5_charAt 1 = .ok (.aload_n 0, 1) := by decide +kernel
theorem dX5_charAt_2 : decode cX5_charAt 2 = .ok (.getfield 29, 3) := by decide +kernel
theorem dX5_charAt_5 : decode cX5_charAt 5 = .ok (.iload_n 1, 1) := by decide +kernel
theorem dX5_charAt_6 : decode cX5_charAt 6 = .ok (.iaload, 1) := by decide +kernel
theorem dX5_charAt_7 : decode cX5_charAt 7 = .ok (.if_icmp .ge 18, 3) := by decide +kernel
theorem dX5_charAt_10 : decode cX5_charAt 10 = .ok (.aload_n 0, 1) := by decide +kernel
theorem dX5_charAt_11 : decode cX5_charAt 11 = .ok (.getfield 26, 3) := by decide +kernel
theorem dX5_charAt_14 : decode cX5_charAt 14 = .ok (.sipush 160, 3) := by decide +kernel
theorem dX5_charAt_17 : decode cX5_charAt 17 = .ok (.iload_n 1, 1) := by decide +kernel
theorem dX5_charAt_18 : decode cX5_charAt 18 = .ok (.imul, 1) := by decide +kernel
theorem dX5_charAt_19 : decode cX5_charAt 19 = .ok (.iload_n 2, 1) := by decide +kernel
theorem dX5_charAt_20 : decode cX5_charAt 20 = .ok (.iadd, 1) := by decide +kernel
theorem dX5_charAt_21 : decode cX5_charAt 21 = .ok (.iaload, 1) := by decide +kernel
theorem dX5_charAt_22 : decode cX5_charAt 22 = .ok (.goto 4, 3) := by decide +kernel
theorem dX5_charAt_25 : decode cX5_charAt 25 = .ok (.iconst 0, 1) := by decide +kernel
theorem dX5_charAt_26 : decode cX5_charAt 26 = .ok (.ireturn, 1) := by decide +kernel
theorem dX5_isNothing_0 : decode cX5_isNothing 0 = .ok (.iload_n 1, 1) := by decide +kernel
theorem dX5_isNothing_1 : decode cX5_isNothing 1 = .ok (.bipush 32, 2) := by decide +kernel
theorem dX5_isNothing_3 : decode cX5_isNothing 3 = .ok (.if_icmp .eq 9, 3) := by decide +kernel
theorem dX5_isNothing_6 : decode cX5_isNothing 6 = .ok (.iload_n 1, 1) := by decide +kernel
theorem dX5_isNothing_7 : decode cX5_isNothing 7 = .ok (.bipush 10, 2) := by decide +kernel
theorem dX5_isNothing_9 : decode cX5_isNothing 9 = .ok (.if_icmp .ne 7, 3) := by decide +kernel
theorem dX5_isNothing_12 : decode cX5_isNothing 12 = .ok (.iconst 1, 1) := by decide +kernel
theorem dX5_isNothing_13 : decode cX5_isNothing 13 = .ok (.goto 4, 3) := by decide +kernel
theorem dX5_isNothing_16 : decode cX5_isNothing 16 = .ok (.iconst 0, 1) := by decide +kernel
theorem dX5_isNothing_17 : decode cX5_isNothing 17 = .ok (.ireturn, 1) := by decide +kernel
set_option maxRecDepth 20000 in
theorem ggX5_isDone_X5_isNothing : GoodIn wsX5_isDone wsX5_isNothing := goodIn_r _ [8] (by decide +kernel) (by decide +kernel)
set_option maxRecDepth 20000 in
theorem gX5_isDone_X5_isNothing : GoodIn wsX5_isDone (wsV RX5 114 RX5 yX5_isNothing wsX5_isNothing) := goodIn_app (goodIn_of _ (by decide +kernel)) ggX5_isDone_X5_isNothing
theorem dX5_isDone_0 : decode cX5_isDone 0 = .ok (.aload_n 0, 1) := by decide +kernel
theorem dX5_isDone_1 : decode cX5_isDone 1 = .ok (.getfield 111, 3) := by decide +kernel
theorem dX5_isDone_4 : decode cX5_isDone 4 = .ok (.iconst 1, 1) := by decide +kernel
theorem dX5_isDone_5 : decode cX5_isDone 5 = .ok (.isub, 1) := by decide +kernel
theorem dX5_isDone_6 : decode cX5_isDone 6 = .ok (.istore_n 2, 1) := by decide +kernel
theorem dX5_isDone_7 : decode cX5_isDone 7 = .ok (.iload_n 1, 1) := by decide +kernel
theorem dX5_isDone_8 : decode cX5_isDone 8 = .ok (.istore_n 3, 1) := by decide +kernel
theorem dX5_isDone_9 : decode cX5_isDone 9 = .ok (.iload_n 3, 1) := by decide +kernel
