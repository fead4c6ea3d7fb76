theorem dX5_brackets_79 : decode cX5_brackets 79 = .ok (.ireturn, 1) := by decide +kernel
theorem dX5_brackets_80 : decode cX5_brackets 80 = .ok (.aload_n 0, 1) := by decide +kernel
theorem dX5_brackets_81 : decode cX5_brackets 81 = .ok (.invokevirtual 131, 3) := by decide +kernel
theorem dX5_brackets_84 : decode cX5_brackets 84 = .ok (.ifCond .ne 5, 3) := by decide +kernel
theorem dX5_brackets_87 : decode cX5_brackets 87 = .ok (.iconst 0, 1) := by decide +kernel
theorem dX5_brackets_88 : decode cX5_brackets 88 = .ok (.ireturn, 1) := by decide +kernel
theorem dX5_brackets_89 : decode cX5_brackets 89 = .ok (.iload 4, 2) := by decide +kernel
theorem dX5_brackets_91 : decode cX5_brackets 91 = .ok (.iload_n 1, 1) := by decide +kernel
theorem dX5_brackets_92 : decode cX5_brackets 92 = .ok (.isub, 1) := by decide +kernel
theorem dX5_brackets_93 : decode cX5_brackets 93 = .ok (.iconst 2, 1) := by decide +kernel
theorem dX5_brackets_94 : decode cX5_brackets 94 = .ok (.isub, 1) := by decide +kernel
theorem dX5_brackets_95 : decode cX5_brackets 95 = .ok (.istore 5, 2) := by decide +kernel
theorem dX5_brackets_97 : decode cX5_brackets 97 = .ok (.iconst 0, 1) := by decide +kernel
theorem dX5_brackets_98 : decode cX5_brackets 98 = .ok (.istore 6, 2) := by decide +kernel
theorem dX5_brackets_100 : decode cX5_brackets 100 = .ok (.iload 6, 2) := by decide +kernel
theorem dX5_brackets_102 : decode cX5_brackets 102 = .ok (.iload 5, 2) := by decide +kernel
theorem dX5_brackets_104 : decode cX5_brackets 104 = .ok (.if_icmp .ge 42, 3) := by decide +kernel
theorem dX5_brackets_107 : decode cX5_brackets 107 = .ok (.aload_n 0, 1) := by decide +kernel
theorem dX5_brackets_108 : decode cX5_brackets 108 = .ok (.getfield 20, 3) := by decide +kernel
theorem dX5_brackets_111 : decode cX5_brackets 111 = .ok (.sipush 160, 3) := by decide +kernel
theorem dX5_brackets_114 : decode cX5_brackets 114 = .ok (.aload_n 0, 1) := by decide +kernel
theorem dX5_brackets_115 : decode cX5_brackets 115 = .ok (.getfield 51, 3) := by decide +kernel
theorem dX5_brackets_118 : decode cX5_brackets 118 = .ok (.imul, 1) := by decide +kernel
theorem dX5_brackets_119 : decode cX5_brackets 119 = .ok (.iload 6, 2) := by decide +kernel
theorem dX5_brackets_121 : decode cX5_brackets 121 = .ok (.iadd, 1) := by decide +kernel
theorem dX5_brackets_122 : decode cX5_brackets 122 = .ok (.aload_n 0, 1) := by decide +kernel
theorem dX5_brackets_123 : decode cX5_brackets 123 = .ok (.getfield 26, 3) := by decide +kernel
theorem dX5_brackets_126 : decode cX5_brackets 126 = .ok (.sipush 160, 3) := by decide +kernel
theorem dX5_brackets_129 : decode cX5_brackets 129 = .ok (.iload_n 2, 1) := by decide +kernel
theorem dX5_brackets_130 : decode cX5_brackets 130 = .ok (.imul, 1) := by decide +kernel
theorem dX5_brackets_131 : decode cX5_brackets 131 = .ok (.iload_n 1, 1) := by decide +kernel
theorem dX5_brackets_132 : decode cX5_brackets 132 = .ok (.iadd, 1) := by decide +kernel
theorem dX5_brackets_133 : decode cX5_brackets 133 = .ok (.iconst 1, 1) := by decide +kernel
theorem dX5_brackets_134 : decode cX5_brackets 134 = .ok (.iadd, 1) := by decide +kernel
theorem dX5_brackets_135 : decode cX5_brackets 135 = .ok (.iload 6, 2) := by decide +kernel
theorem dX5_brackets_137 : decode cX5_brackets 137 = .ok (.iadd, 1) := by decide +kernel
theorem dX5_brackets_138 : decode cX5_brackets 138 = .ok (.iaload, 1) := by decide +kernel
theorem dX5_brackets_139 : decode cX5_brackets 139 = .ok (.iastore, 1) := by decide +kernel
theorem dX5_brackets_140 : decode cX5_brackets 140 = .ok (.iinc 6 1, 3) := by decide +kernel
theorem dX5_brackets_143 : decode cX5_brackets 143 = .ok (.goto (-43), 3) := by decide +kernel
theorem dX5_brackets_146 : decode cX5_brackets 146 = .ok (.aload_n 0, 1) := by decide +kernel
theorem dX5_brackets_147 : decode cX5_brackets 147 = .ok (.iconst 0, 1) := by decide +kernel
theorem dX5_brackets_148 : decode cX5_brackets 148 = .ok (.iload 5, 2) := by decide +kernel
theorem dX5_brackets_150 : decode cX5_brackets 150 = .ok (.i2l, 1) := by decide +kernel
theorem dX5_brackets_151 : decode cX5_brackets 151 = .ok (.iconst (-1), 1) := by decide +kernel
theorem dX5_brackets_152 : decode cX5_brackets 152 = .ok (.invokevirtual 134, 3) := by decide +kernel
theorem dX5_brackets_155 : decode cX5_brackets 155 = .ok (.aload_n 0, 1) := by decide +kernel
theorem dX5_brackets_156 : decode cX5_brackets 156 = .ok (.getfield 32, 3) := by decide +kernel
theorem dX5_brackets_159 : decode cX5_brackets 159 = .ok (.iload_n 2, 1) := by decide +kernel
theorem dX5_brackets_160 : decode cX5_brackets 160 = .ok (.iload 4, 2) := by decide +kernel
theorem dX5_brackets_162 : decode cX5_brackets 162 = .ok (.iastore, 1) := by decide +kernel
theorem dX5_brackets_163 : decode cX5_brackets 163 = .ok (.iconst 1, 1) := by decide +kernel
theorem dX5_brackets_164 : decode cX5_brackets 164 = .ok (.ireturn, 1) := by decide +kernel
set_option maxRecDepth 20000 in
theorem ggX5_calculates_X5_sum : GoodIn wsX5_calculates wsX5_sum := goodIn_r _ [12, 3, 2, 7, 1, 13, 6, 14, 15, 16, 11, 17, 18, 19, 20, 21, 22, 23, 24, 25, 26, 27, 28, 29, 30, 31, 32, 33, 34, 35, 36, 37, 38, 39, 40, 73, 74, 75, 76, 77, 78, 79, 80, 81, 82, 83, 84, 85, 86, 87, 88, 89, 90, 91, 92, 93] (by decide +kernel) (by decide +kernel)
set_option maxRecDepth 20000 in
theorem gX5_calculates_X5_sum : GoodIn wsX5_calculates (wsV RX5 138 RX5 yX5_sum wsX5_sum) := goodIn_app (goodIn_of _ (by decide +kernel)) ggX5_calculates_X5_sum
set_option maxRecDepth 20000 in
theorem ggX5_calculates_X5_times : GoodIn wsX5_calculates wsX5_times := goodIn_r _ [44, 3, 2, 5, 7, 1, 6, 13, 14, 15, 16, 11, 17, 18, 19, 20, 21, 22, 23, 24, 25, 26, 27, 28, 45, 46, 47, 48, 39, 49, 50, 51, 35, 73, 74, 75, 76, 77, 78, 79, 80, 81, 82, 83, 84, 85, 86, 87, 88, 89, 90, 91, 92, 93] (by decide +kernel) (by decide +kernel)
set_option maxRecDepth 20000 in
theorem gX5_calculates_X5_times : GoodIn wsX5_calculates (wsV RX5 142 RX5 yX5_times wsX5_times) := goodIn_app (goodIn_of _ (by decide +kernel)) ggX5_calculates_X5_times
set_option maxRecDepth 20000 in
theorem ggX5_calculates_X5_quotient : GoodIn wsX5_calculates wsX5_quotient := goodIn_r _ [55, 1, 2, 5, 3, 13, 6, 7, 14, 15, 16, 11, 17, 18, 19, 20, 21, 22, 23, 24, 25, 29, 30, 31, 32, 33, 34, 35, 73, 74, 75, 76, 77, 78, 79, 80, 81, 82, 83, 84, 85, 86, 87, 88, 89, 90, 91, 92, 93] (by decide +kernel) (by decide +kernel)
set_option maxRecDepth 20000 in
theorem gX5_calculates_X5_quotient : GoodIn wsX5_calculates (wsV RX5 103 RX5 yX5_quotient wsX5_quotient) := goodIn_app (goodIn_of _ (by decide +kernel)) ggX5_calculates_X5_quotient
set_option maxRecDepth 20000 in
theorem ggX5_calculates_X5_rest : GoodIn wsX5_calculates wsX5_rest := goodIn_r _ [59, 5, 3, 2, 7, 6, 1, 13, 52, 53, 54, 11, 55, 14, 15, 16, 17, 18, 19, 20, 21, 22, 23, 24, 25, 29, 30, 31, 32, 33, 34, 35, 26, 27, 28, 45, 46, 47, 48, 39, 36, 37, 38, 40, 73, 74, 75, 76, 77, 78, 79, 80, 81, 82, 83, 84, 85, 86, 87, 88, 89, 90, 91, 92, 93] (by decide +kernel) (by decide +kernel)
set_option maxRecDepth 20000 in
theorem gX5_calculates_X5_rest : GoodIn wsX5_calculates (wsV RX5 145 RX5 yX5_rest wsX5_rest) := goodIn_app (goodIn_of _ (by decide +kernel)) ggX5_calculates_X5_rest
set_option maxRecDepth 20000 in
theorem ggX5_calculates_X5_root : GoodIn wsX5_calculates wsX5_root := goodIn_r _ [63, 1, 2, 5, 3, 7, 13, 64, 65, 6, 14, 15, 16, 11, 17, 18, 19, 20, 21, 22, 23, 24, 25, 26, 27, 28, 29, 30, 31, 32, 33, 34, 35, 73, 74, 75, 76, 77, 78, 79, 80, 81, 82, 83, 84, 85, 86, 87, 88, 89, 90, 91, 92, 93] (by decide +kernel) (by decide +kernel)
set_option maxRecDepth 20000 in
theorem gX5_calculates_X5_root : GoodIn wsX5_calculates (wsV RX5 148 RX5 yX5_root wsX5_root) := goodIn_app (goodIn_of _ (by decide +kernel)) ggX5_calculates_X5_root
set_option maxRecDepth 20000 in
theorem ggX5_calculates_X5_numbers : GoodIn wsX5_calculates wsX5_numbers := goodIn_r _ [17, 3, 2, 18, 19, 20, 11, 21, 22, 23, 24, 25, 13, 73, 74, 75, 76, 77, 78, 79, 80, 81, 82, 83, 84, 85, 86, 87, 88, 89, 90, 91, 92, 93] (by decide +kernel) (by decide +kernel)
set_option maxRecDepth 20000 in
theorem gX5_calculates_X5_numbers : GoodIn wsX5_calculates (wsV RX5 71 RX5 yX5_numbers wsX5_numbers) := goodIn_app (goodIn_of _ (by decide +kernel)) ggX5_calculates_X5_numbers
set_option maxRecDepth 20000 in
theorem ggX5_calculates_X5_put : GoodIn wsX5_calculates wsX5_put := goodIn_r _ [69, 2, 1, 3, 73, 74, 75, 76, 77, 78, 79, 80, 81, 82, 83, 84, 85, 86, 87, 88, 89, 90, 91, 92, 93] (by decide +kernel) (by decide +kernel)
set_option maxRecDepth 20000 in
theorem gX5_calculates_X5_put : GoodIn wsX5_calculates (wsV RX5 134 RX5 yX5_put wsX5_put) := goodIn_app (goodIn_of _ (by decide +kernel)) ggX5_calculates_X5_put
set_option maxRecDepth 20000 in
theorem ggX5_calculates_X5_cut : GoodIn wsX5_calculates wsX5_cut := goodIn_r _ [51, 35] (by decide +kernel) (by decide +kernel)
set_option maxRecDepth 20000 in
theorem gX5_calculates_X5_cut : GoodIn wsX5_calculates (va_wsS RX5 100 yX5_cut wsX5_cut) := goodIn_app (goodIn_of _ (by decide +kernel)) ggX5_calculates_X5_cut
set_option maxRecDepth 20000 in
theorem ggX5_calculates_X5_raised : GoodIn wsX5_calculates wsX5_raised := goodIn_r _ [32, 13, 33, 34, 35, 73, 74, 75, 76, 77, 78, 79, 80, 81, 82, 83, 84, 85, 86, 87, 88, 89, 90, 91, 92, 93] (by decide +kernel) (by decide +kernel)
set_option maxRecDepth 20000 in
theorem gX5_calculates_X5_raised : GoodIn wsX5_calculates (wsV RX5 81 RX5 yX5_raised wsX5_raised) := goodIn_app (goodIn_of _ (by decide +kernel)) ggX5_calculates_X5_raised
set_option maxRecDepth 20000 in
theorem ggX5_calculates_X5_within : GoodIn wsX5_calculates wsX5_within := goodIn_r _ [72] (by decide +kernel) (by decide +kernel)
set_option maxRecDepth 20000 in
theorem gX5_calculates_X5_within : GoodIn wsX5_calculates (va_wsS RX5 127 yX5_within wsX5_within) := goodIn_app (goodIn_of _ (by decide +kernel)) ggX5_calculates_X5_within
set_option maxRecDepth 20000 in
theorem ggX5_calculates_X5_fail : GoodIn wsX5_calculates wsX5_fail := goodIn_r _ [25, 13, 73, 74, 75, 76, 77, 78, 79, 80, 81, 82, 83, 84, 85, 86, 87, 88, 89, 90, 91, 92, 93] (by decide +kernel) (by decide +kernel)
set_option maxRecDepth 20000 in
theorem gX5_calculates_X5_fail : GoodIn wsX5_calculates (wsV RX5 54 RX5 yX5_fail wsX5_fail) := goodIn_app (goodIn_of _ (by decide +kernel)) ggX5_calculates_X5_fail
theorem dX5_calculates_0 : decode cX5_calculates 0 = .ok (.iload_n 1, 1) := by decide +kernel
theorem dX5_calculates_1 : decode cX5_calculates 1 = .ok (.bipush 43, 2) := by decide +kernel
theorem dX5_calculates_3 : decode cX5_calculates 3 = .ok (.if_icmp .eq 9, 3) := by decide +kernel
theorem dX5_calculates_6 : decode cX5_calculates 6 = .ok (.iload_n 1, 1) := by decide +kernel
theorem dX5_calculates_7 : decode cX5_calculates 7 = .ok (.bipush 45, 2) := by decide +kernel
theorem dX5_calculates_9 : decode cX5_calculates 9 = .ok (.if_icmp .ne 21, 3) := by decide +kernel
theorem dX5_calculates_12 : decode cX5_calculates 12 = .ok (.aload_n 0, 1) := by decide +kernel
theorem dX5_calculates_13 : decode cX5_calculates 13 = .ok (.iload_n 1, 1) := by decide +kernel
theorem dX5_calculates_14 : decode cX5_calculates 14 = .ok (.bipush 45, 2) := by decide +kernel
theorem dX5_calculates_16 : decode cX5_calculates 16 = .ok (.if_icmp .ne 7, 3) := by decide +kernel
theorem dX5_calculates_19 : decode cX5_calculates 19 = .ok (.iconst 1, 1) := by decide +kernel
theorem dX5_calculates_20 : decode cX5_calculates 20 = .ok (.goto 4, 3) := by decide +kernel
theorem dX5_calculates_23 : decode cX5_calculates 23 = .ok (.iconst 0, 1) := by decide +kernel
theorem dX5_calculates_24 : decode cX5_calculates 24 = .ok (.invokevirtual 138, 3) := by decide +kernel
theorem dX5_calculates_27 : decode cX5_calculates 27 = .ok (.goto 60, 3) := by decide +kernel
theorem dX5_calculates_30 : decode cX5_calculates 30 = .ok (.iload_n 1, 1) := by decide +kernel
theorem dX5_calculates_31 : decode cX5_calculates 31 = .ok (.bipush 42, 2) := by decide +kernel
theorem dX5_calculates_33 : decode cX5_calculates 33 = .ok (.if_icmp .ne 10, 3) := by decide +kernel
theorem dX5_calculates_36 : decode cX5_calculates 36 = .ok (.aload_n 0, 1) := by decide +kernel
theorem dX5_calculates_37 : decode cX5_calculates 37 = .ok (.invokevirtual 142, 3) := by decide +kernel
theorem dX5_calculates_40 : decode cX5_calculates 40 = .ok (.goto 47, 3) := by decide +kernel
theorem dX5_calculates_43 : decode cX5_calculates 43 = .ok (.iload_n 1, 1) := by decide +kernel
theorem dX5_calculates_44 : decode cX5_calculates 44 = .ok (.bipush 47, 2) := by decide +kernel
theorem dX5_calculates_46 : decode cX5_calculates 46 = .ok (.if_icmp .ne 10, 3) := by decide +kernel
theorem dX5_calculates_49 : decode cX5_calculates 49 = .ok (.aload_n 0, 1) := by decide +kernel
theorem dX5_calculates_50 : decode cX5_calculates 50 = .ok (.invokevirtual 103, 3) := by decide +kernel
theorem dX5_calculates_53 : decode cX5_calculates 53 = .ok (.goto 34, 3) := by decide +kernel
theorem dX5_calculates_56 : decode cX5_calculates 56 = .ok (.iload_n 1, 1) := by decide +kernel
theorem dX5_calculates_57 : decode cX5_calculates 57 = .ok (.bipush 37, 2) := by decide +kernel
theorem dX5_calculates_59 : decode cX5_calculates 59 = .ok (.if_icmp .ne 10, 3) := by decide +kernel
theorem dX5_calculates_62 : decode cX5_calculates 62 = .ok (.aload_n 0, 1) := by decide +kernel
theorem dX5_calculates_63 : decode cX5_calculates 63 = .ok (.invokevirtual 145, 3) := by decide +kernel
theorem dX5_calculates_66 : decode cX5_calculates 66 = .ok (.goto 21, 3) := by decide +kernel
theorem dX5_calculates_69 : decode cX5_calculates 69 = .ok (.iload_n 1, 1) := by decide +kernel
theorem dX5_calculates_70 : decode cX5_calculates 70 = .ok (.bipush 118, 2) := by decide +kernel
theorem dX5_calculates_72 : decode cX5_calculates 72 = .ok (.if_icmp .ne 10, 3) := by decide +kernel
theorem dX5_calculates_75 : decode cX5_calculates 75 = .ok (.aload_n 0, 1) := by decide +kernel
theorem dX5_calculates_76 : decode cX5_calculates 76 = .ok (.invokevirtual 148, 3) := by decide +kernel
theorem dX5_calculates_79 : decode cX5_calculates 79 = .ok (.goto 8, 3) := by decide +kernel
theorem dX5_calculates_82 : decode cX5_calculates 82 = .ok (.aload_n 0, 1) := by decide +kernel
theorem dX5_calculates_83 : decode cX5_calculates 83 = .ok (.iconst 1, 1) := by decide +kernel
theorem dX5_calculates_84 : decode cX5_calculates 84 = .ok (.invokevirtual 71, 3) := by decide +kernel
theorem dX5_calculates_87 : decode cX5_calculates 87 = .ok (.istore_n 2, 1) := by decide +kernel
theorem dX5_calculates_88 : decode cX5_calculates 88 = .ok (.iload_n 2, 1) := by decide +kernel
theorem dX5_calculates_89 : decode cX5_calculates 89 = .ok (.ifCond .ne 5, 3) := by decide +kernel
theorem dX5_calculates_92 : decode cX5_calculates 92 = .ok (.iconst 0, 1) := by decide +kernel
theorem dX5_calculates_93 : decode cX5_calculates 93 = .ok (.ireturn, 1) := by decide +kernel
theorem dX5_calculates_94 : decode cX5_calculates 94 = .ok (.iload_n 1, 1) := by decide +kernel
theorem dX5_calculates_95 : decode cX5_calculates 95 = .ok (.bipush 126, 2) := by decide +kernel
theorem dX5_calculates_97 : decode cX5_calculates 97 = .ok (.if_icmp .ne 34, 3) := by decide +kernel
theorem dX5_calculates_100 : decode cX5_calculates 100 = .ok (.aload_n 0, 1) := by decide +kernel
theorem dX5_calculates_101 : decode cX5_calculates 101 = .ok (.iconst 1, 1) := by decide +kernel
theorem dX5_calculates_102 : decode cX5_calculates 102 = .ok (.aload_n 0, 1) := by decide +kernel
theorem dX5_calculates_103 : decode cX5_calculates 103 = .ok (.getfield 13, 3) := by decide +kernel
theorem dX5_calculates_106 : decode cX5_calculates 106 = .ok (.aload_n 0, 1) := by decide +kernel
theorem dX5_calculates_107 : decode cX5_calculates 107 = .ok (.getfield 51, 3) := by decide +kernel
theorem dX5_calculates_110 : decode cX5_calculates 110 = .ok (.iconst 1, 1) := by decide +kernel
theorem dX5_calculates_111 : decode cX5_calculates 111 = .ok (.isub, 1) := by decide +kernel
theorem dX5_calculates_112 : decode cX5_calculates 112 = .ok (.laload, 1) := by decide +kernel
theorem dX5_calculates_113 : decode cX5_calculates 113 = .ok (.lneg, 1) := by decide +kernel
theorem dX5_calculates_114 : decode cX5_calculates 114 = .ok (.aload_n 0, 1) := by decide +kernel
theorem dX5_calculates_115 : decode cX5_calculates 115 = .ok (.getfield 17, 3) := by decide +kernel
theorem dX5_calculates_118 : decode cX5_calculates 118 = .ok (.aload_n 0, 1) := by decide +kernel
theorem dX5_calculates_119 : decode cX5_calculates 119 = .ok (.getfield 51, 3) := by decide +kernel
theorem dX5_calculates_122 : decode cX5_calculates 122 = .ok (.iconst 1, 1) := by decide +kernel
theorem dX5_calculates_123 : decode cX5_calculates 123 = .ok (.isub, 1) := by decide +kernel
theorem dX5_calculates_124 : decode cX5_calculates 124 = .ok (.iaload, 1) := by decide +kernel
theorem dX5_calculates_125 : decode cX5_calculates 125 = .ok (.invokevirtual 134, 3) := by decide +kernel
theorem dX5_calculates_128 : decode cX5_calculates 128 = .ok (.goto 143, 3) := by decide +kernel
theorem dX5_calculates_131 : decode cX5_calculates 131 = .ok (.iload_n 1, 1) := by decide +kernel
theorem dX5_calculates_132 : decode cX5_calculates 132 = .ok (.bipush 88, 2) := by decide +kernel
theorem dX5_calculates_134 : decode cX5_calculates 134 = .ok (.if_icmp .ne 24, 3) := by decide +kernel
theorem dX5_calculates_137 : decode cX5_calculates 137 = .ok (.aload_n 0, 1) := by decide +kernel
theorem dX5_calculates_138 : decode cX5_calculates 138 = .ok (.iconst 1, 1) := by decide +kernel
theorem dX5_calculates_139 : decode cX5_calculates 139 = .ok (.aload_n 0, 1) := by decide +kernel
theorem dX5_calculates_140 : decode cX5_calculates 140 = .ok (.getfield 17, 3) := by decide +kernel
theorem dX5_calculates_143 : decode cX5_calculates 143 = .ok (.aload_n 0, 1) := by decide +kernel
theorem dX5_calculates_144 : decode cX5_calculates 144 = .ok (.getfield 51, 3) := by decide +kernel
theorem dX5_calculates_147 : decode cX5_calculates 147 = .ok (.iconst 1, 1) := by decide +kernel
theorem dX5_calculates_148 : decode cX5_calculates 148 = .ok (.isub, 1) := by decide +kernel
theorem dX5_calculates_149 : decode cX5_calculates 149 = .ok (.iaload, 1) := by decide +kernel
theorem dX5_calculates_150 : decode cX5_calculates 150 = .ok (.i2l, 1) := by decide +kernel
theorem dX5_calculates_151 : decode cX5_calculates 151 = .ok (.iconst 0, 1) := by decide +kernel
theorem dX5_calculates_152 : decode cX5_calculates 152 = .ok (.invokevirtual 134, 3) := by decide +kernel
theorem dX5_calculates_155 : decode cX5_calculates 155 = .ok (.goto 116, 3) := by decide +kernel
theorem dX5_calculates_158 : decode cX5_calculates 158 = .ok (.iload_n 1, 1) := by decide +kernel
theorem dX5_calculates_159 : decode cX5_calculates 159 = .ok (.bipush 107, 2) := by decide +kernel
theorem dX5_calculates_161 : decode cX5_calculates 161 = .ok (.if_icmp .ne 87, 3) := by decide +kernel
theorem dX5_calculates_164 : decode cX5_calculates 164 = .ok (.aload_n 0, 1) := by decide +kernel
theorem dX5_calculates_165 : decode cX5_calculates 165 = .ok (.getfield 13, 3) := by decide +kernel
theorem dX5_calculates_168 : decode cX5_calculates 168 = .ok (.aload_n 0, 1) := by decide +kernel
theorem dX5_calculates_169 : decode cX5_calculates 169 = .ok (.getfield 51, 3) := by decide +kernel
theorem dX5_calculates_172 : decode cX5_calculates 172 = .ok (.iconst 1, 1) := by decide +kernel
theorem dX5_calculates_173 : decode cX5_calculates 173 = .ok (.isub, 1) := by decide +kernel
theorem dX5_calculates_174 : decode cX5_calculates 174 = .ok (.laload, 1) := by decide +kernel
theorem dX5_calculates_175 : decode cX5_calculates 175 = .ok (.lstore_n 3, 1) := by decide +kernel
theorem dX5_calculates_176 : decode cX5_calculates 176 = .ok (.aload_n 0, 1) := by decide +kernel
theorem dX5_calculates_177 : decode cX5_calculates 177 = .ok (.getfield 17, 3) := by decide +kernel
theorem dX5_calculates_180 : decode cX5_calculates 180 = .ok (.aload_n 0, 1) := by decide +kernel
theorem dX5_calculates_181 : decode cX5_calculates 181 = .ok (.getfield 51, 3) := by decide +kernel
theorem dX5_calculates_184 : decode cX5_calculates 184 = .ok (.iconst 1, 1) := by decide +kernel
theorem dX5_calculates_185 : decode cX5_calculates 185 = .ok (.isub, 1) := by decide +kernel
theorem dX5_calculates_186 : decode cX5_calculates 186 = .ok (.iaload, 1) := by decide +kernel
theorem dX5_calculates_187 : decode cX5_calculates 187 = .ok (.istore 5, 2) := by decide +kernel
theorem dX5_calculates_189 : decode cX5_calculates 189 = .ok (.lload_n 3, 1) := by decide +kernel
theorem dX5_calculates_190 : decode cX5_calculates 190 = .ok (.iload 5, 2) := by decide +kernel
theorem dX5_calculates_192 : decode cX5_calculates 192 = .ok (.invokestatic 100, 3) := by decide +kernel
theorem dX5_calculates_195 : decode cX5_calculates 195 = .ok (.lstore 6, 2) := by decide +kernel
theorem dX5_calculates_197 : decode cX5_calculates 197 = .ok (.aload_n 0, 1) := by decide +kernel
theorem dX5_calculates_198 : decode cX5_calculates 198 = .ok (.lload 6, 2) := by decide +kernel
theorem dX5_calculates_200 : decode cX5_calculates 200 = .ok (.iload 5, 2) := by decide +kernel
theorem dX5_calculates_202 : decode cX5_calculates 202 = .ok (.invokevirtual 81, 3) := by decide +kernel
theorem dX5_calculates_205 : decode cX5_calculates 205 = .ok (.lload_n 3, 1) := by decide +kernel
theorem dX5_calculates_206 : decode cX5_calculates 206 = .ok (.lcmp, 1) := by decide +kernel
theorem dX5_calculates_207 : decode cX5_calculates 207 = .ok (.ifCond .ne 15, 3) := by decide +kernel
theorem dX5_calculates_210 : decode cX5_calculates 210 = .ok (.lload 6, 2) := by decide +kernel
theorem dX5_calculates_212 : decode cX5_calculates 212 = .ok (.lconst 0, 1) := by decide +kernel
theorem dX5_calculates_213 : decode cX5_calculates 213 = .ok (.ldc2_w 151, 3) := by decide +kernel
theorem dX5_calculates_216 : decode cX5_calculates 216 = .ok (.invokestatic 127, 3) := by decide +kernel
theorem dX5_calculates_219 : decode cX5_calculates 219 = .ok (.ifCond .ne 9, 3) := by decide +kernel
theorem dX5_calculates_222 : decode cX5_calculates 222 = .ok (.aload_n 0, 1) := by decide +kernel
theorem dX5_calculates_223 : decode cX5_calculates 223 = .ok (.iconst 4, 1) := by decide +kernel
theorem dX5_calculates_224 : decode cX5_calculates 224 = .ok (.invokevirtual 54, 3) := by decide +kernel
theorem dX5_calculates_227 : decode cX5_calculates 227 = .ok (.ireturn, 1) := by decide +kernel
theorem dX5_calculates_228 : decode cX5_calculates 228 = .ok (.aload_n 0, 1) := by decide +kernel
theorem dX5_calculates_229 : decode cX5_calculates 229 = .ok (.lload 6, 2) := by decide +kernel
theorem dX5_calculates_231 : decode cX5_calculates 231 = .ok (.l2i, 1) := by decide +kernel
theorem dX5_calculates_232 : decode cX5_calculates 232 = .ok (.putfield 93, 3) := by decide +kernel
theorem dX5_calculates_235 : decode cX5_calculates 235 = .ok (.aload_n 0, 1) := by decide +kernel
theorem dX5_calculates_236 : decode cX5_calculates 236 = .ok (.dup, 1) := by decide +kernel
theorem dX5_calculates_237 : decode cX5_calculates 237 = .ok (.getfield 51, 3) := by decide +kernel
theorem dX5_calculates_240 : decode cX5_calculates 240 = .ok (.iconst 1, 1) := by decide +kernel
theorem dX5_calculates_241 : decode cX5_calculates 241 = .ok (.isub, 1) := by decide +kernel
theorem dX5_calculates_242 : decode cX5_calculates 242 = .ok (.putfield 51, 3) := by decide +kernel
theorem dX5_calculates_245 : decode cX5_calculates 245 = .ok (.goto 26, 3) := by decide +kernel
theorem dX5_calculates_248 : decode cX5_calculates 248 = .ok (.aload_n 0, 1) := by decide +kernel
theorem dX5_calculates_249 : decode cX5_calculates 249 = .ok (.iload_n 1, 1) := by decide +kernel
theorem dX5_calculates_250 : decode cX5_calculates 250 = .ok (.bipush 118, 2) := by decide +kernel
theorem dX5_calculates_252 : decode cX5_calculates 252 = .ok (.if_icmp .ne 7, 3) := by decide +kernel
theorem dX5_calculates_255 : decode cX5_calculates 255 = .ok (.iconst 1, 1) := by decide +kernel
theorem dX5_calculates_256 : decode cX5_calculates 256 = .ok (.goto 4, 3) := by decide +kernel
theorem dX5_calculates_259 : decode cX5_calculates 259 = .ok (.iconst 2, 1) := by decide +kernel
theorem dX5_calculates_260 : decode cX5_calculates 260 = .ok (.aload_n 0, 1) := by decide +kernel
theorem dX5_calculates_261 : decode cX5_calculates 261 = .ok (.getfield 85, 3) := by decide +kernel
theorem dX5_calculates_264 : decode cX5_calculates 264 = .ok (.aload_n 0, 1) := by decide +kernel
theorem dX5_calculates_265 : decode cX5_calculates 265 = .ok (.getfield 78, 3) := by decide +kernel
theorem dX5_calculates_268 : decode cX5_calculates 268 = .ok (.invokevirtual 134, 3) := by decide +kernel
theorem dX5_calculates_271 : decode cX5_calculates 271 = .ok (.iconst 1, 1) := by decide +kernel
theorem dX5_calculates_272 : decode cX5_calculates 272 = .ok (.ireturn, 1) := by decide +kernel
set_option maxRecDepth 20000 in
theorem ggX5_moves_X5_room : GoodIn wsX5_moves wsX5_room := goodIn_r _ [12, 1, 13, 14, 15, 11, 16, 17, 31, 32, 33, 34, 35, 36, 37, 38, 39, 40, 41, 42, 43, 44, 45, 46, 47, 48, 49, 50, 51] (by decide +kernel) (by decide +kernel)
set_option maxRecDepth 20000 in
theorem gX5_moves_X5_room : GoodIn wsX5_moves (wsV RX5 131 RX5 yX5_room wsX5_room) := goodIn_app (goodIn_of _ (by decide +kernel)) ggX5_moves_X5_room
set_option maxRecDepth 20000 in
theorem ggX5_moves_X5_put : GoodIn wsX5_moves wsX5_put := goodIn_r _ [21, 1, 5, 7, 31, 32, 33, 34, 35, 36, 37, 38, 39, 40, 41, 42, 43, 44, 45, 46, 47, 48, 49, 50, 51] (by decide +kernel) (by decide +kernel)
set_option maxRecDepth 20000 in
theorem gX5_moves_X5_put : GoodIn wsX5_moves (wsV RX5 134 RX5 yX5_put wsX5_put) := goodIn_app (goodIn_of _ (by decide +kernel)) ggX5_moves_X5_put
set_option maxRecDepth 20000 in
theorem ggX5_moves_X5_have : GoodIn wsX5_moves wsX5_have := goodIn_r _ [25, 1, 13, 14, 15, 11, 16, 17, 31, 32, 33, 34, 35, 36, 37, 38, 39, 40, 41, 42, 43, 44, 45, 46, 47, 48, 49, 50, 51] (by decide +kernel) (by decide +kernel)
set_option maxRecDepth 20000 in
theorem gX5_moves_X5_have : GoodIn wsX5_moves (wsV RX5 58 RX5 yX5_have wsX5_have) := goodIn_app (goodIn_of _ (by decide +kernel)) ggX5_moves_X5_have
set_option maxRecDepth 20000 in
theorem ggX5_moves_X5_copy : GoodIn wsX5_moves wsX5_copy := goodIn_r _ [29, 5, 7, 30, 31, 32, 33, 34, 35, 36, 37, 38, 39, 40, 41, 42, 43, 44, 45, 46, 47, 48, 49, 50, 51] (by decide +kernel) (by decide +kernel)
set_option maxRecDepth 20000 in
theorem gX5_moves_X5_copy : GoodIn wsX5_moves (wsV RX5 153 RX5 yX5_copy wsX5_copy) := goodIn_app (goodIn_of _ (by decide +kernel)) ggX5_moves_X5_copy
theorem dX5_moves_0 : decode cX5_moves 0 = .ok (.iload_n 1, 1) := by decide +kernel
theorem dX5_moves_1 : decode cX5_moves 1 = .ok (.bipush 99, 2) := by decide +kernel
theorem dX5_moves_3 : decode cX5_moves 3 = .ok (.if_icmp .ne 10, 3) := by decide +kernel
theorem dX5_moves_6 : decode cX5_moves 6 = .ok (.aload_n 0, 1) := by decide +kernel
theorem dX5_moves_7 : decode cX5_moves 7 = .ok (.iconst 0, 1) := by decide +kernel
theorem dX5_moves_8 : decode cX5_moves 8 = .ok (.putfield 51, 3) := by decide +kernel
theorem dX5_moves_11 : decode cX5_moves 11 = .ok (.iconst 1, 1) := by decide +kernel
theorem dX5_moves_12 : decode cX5_moves 12 = .ok (.ireturn, 1) := by decide +kernel
theorem dX5_moves_13 : decode cX5_moves 13 = .ok (.iload_n 1, 1) := by decide +kernel
theorem dX5_moves_14 : decode cX5_moves 14 = .ok (.bipush 122, 2) := by decide +kernel
theorem dX5_moves_16 : decode cX5_moves 16 = .ok (.if_icmp .eq 9, 3) := by decide +kernel
theorem dX5_moves_19 : decode cX5_moves 19 = .ok (.iload_n 1, 1) := by decide +kernel
theorem dX5_moves_20 : decode cX5_moves 20 = .ok (.bipush 75, 2) := by decide +kernel
theorem dX5_moves_22 : decode cX5_moves 22 = .ok (.if_icmp .ne 39, 3) := by decide +kernel
theorem dX5_moves_25 : decode cX5_moves 25 = .ok (.aload_n 0, 1) := by decide +kernel
theorem dX5_moves_26 : decode cX5_moves 26 = .ok (.invokevirtual 131, 3) := by decide +kernel
theorem dX5_moves_29 : decode cX5_moves 29 = .ok (.ifCond .ne 5, 3) := by decide +kernel
theorem dX5_moves_32 : decode cX5_moves 32 = .ok (.iconst 0, 1) := by decide +kernel
theorem dX5_moves_33 : decode cX5_moves 33 = .ok (.ireturn, 1) := by decide +kernel
theorem dX5_moves_34 : decode cX5_moves 34 = .ok (.aload_n 0, 1) := by decide +kernel
theorem dX5_moves_35 : decode cX5_moves 35 = .ok (.iconst 0, 1) := by decide +kernel
theorem dX5_moves_36 : decode cX5_moves 36 = .ok (.iload_n 1, 1) := by decide +kernel
theorem dX5_moves_37 : decode cX5_moves 37 = .ok (.bipush 122, 2) := by decide +kernel
theorem dX5_moves_39 : decode cX5_moves 39 = .ok (.if_icmp .ne 11, 3) := by decide +kernel
theorem dX5_moves_42 : decode cX5_moves 42 = .ok (.aload_n 0, 1) := by decide +kernel
theorem dX5_moves_43 : decode cX5_moves 43 = .ok (.getfield 51, 3) := by decide +kernel
theorem dX5_moves_46 : decode cX5_moves 46 = .ok (.i2l, 1) := by decide +kernel
theorem dX5_moves_47 : decode cX5_moves 47 = .ok (.goto 8, 3) := by decide +kernel
theorem dX5_moves_50 : decode cX5_moves 50 = .ok (.aload_n 0, 1) := by decide +kernel
theorem dX5_moves_51 : decode cX5_moves 51 = .ok (.getfield 93, 3) := by decide +kernel
theorem dX5_moves_54 : decode cX5_moves 54 = .ok (.i2l, 1) := by decide +kernel
theorem dX5_moves_55 : decode cX5_moves 55 = .ok (.iconst 0, 1) := by decide +kernel
theorem dX5_moves_56 : decode cX5_moves 56 = .ok (.invokevirtual 134, 3) := by decide +kernel
theorem dX5_moves_59 : decode cX5_moves 59 = .ok (.iconst 1, 1) := by decide +kernel
theorem dX5_moves_60 : decode cX5_moves 60 = .ok (.ireturn, 1) := by decide +kernel
theorem dX5_moves_61 : decode cX5_moves 61 = .ok (.aload_n 0, 1) := by decide +kernel
theorem dX5_moves_62 : decode cX5_moves 62 = .ok (.iload_n 1, 1) := by decide +kernel
theorem dX5_moves_63 : decode cX5_moves 63 = .ok (.bipush 114, 2) := by decide +kernel
theorem dX5_moves_65 : decode cX5_moves 65 = .ok (.if_icmp .ne 7, 3) := by decide +kernel
theorem dX5_moves_68 : decode cX5_moves 68 = .ok (.iconst 2, 1) := by decide +kernel
theorem dX5_moves_69 : decode cX5_moves 69 = .ok (.goto 4, 3) := by decide +kernel
theorem dX5_moves_72 : decode cX5_moves 72 = .ok (.iconst 1, 1) := by decide +kernel
theorem dX5_moves_73 : decode cX5_moves 73 = .ok (.invokevirtual 58, 3) := by decide +kernel
theorem dX5_moves_76 : decode cX5_moves 76 = .ok (.ifCond .ne 5, 3) := by decide +kernel
theorem dX5_moves_79 : decode cX5_moves 79 = .ok (.iconst 0, 1) := by decide +kernel
theorem dX5_moves_80 : decode cX5_moves 80 = .ok (.ireturn, 1) := by decide +kernel
theorem dX5_moves_81 : decode cX5_moves 81 = .ok (.iload_n 1, 1) := by decide +kernel
theorem dX5_moves_82 : decode cX5_moves 82 = .ok (.bipush 100, 2) := by decide +kernel
theorem dX5_moves_84 : decode cX5_moves 84 = .ok (.if_icmp .ne 39, 3) := by decide +kernel
theorem dX5_moves_87 : decode cX5_moves 87 = .ok (.aload_n 0, 1) := by decide +kernel
theorem dX5_moves_88 : decode cX5_moves 88 = .ok (.invokevirtual 131, 3) := by decide +kernel
theorem dX5_moves_91 : decode cX5_moves 91 = .ok (.ifCond .ne 5, 3) := by decide +kernel
theorem dX5_moves_94 : decode cX5_moves 94 = .ok (.iconst 0, 1) := by decide +kernel
theorem dX5_moves_95 : decode cX5_moves 95 = .ok (.ireturn, 1) := by decide +kernel
theorem dX5_moves_96 : decode cX5_moves 96 = .ok (.aload_n 0, 1) := by decide +kernel
theorem dX5_moves_97 : decode cX5_moves 97 = .ok (.aload_n 0, 1) := by decide +kernel
theorem dX5_moves_98 : decode cX5_moves 98 = .ok (.getfield 51, 3) := by decide +kernel
theorem dX5_moves_101 : decode cX5_moves 101 = .ok (.iconst 1, 1) := by decide +kernel
theorem dX5_moves_102 : decode cX5_moves 102 = .ok (.isub, 1) := by decide +kernel
theorem dX5_moves_103 : decode cX5_moves 103 = .ok (.aload_n 0, 1) := by decide +kernel
theorem dX5_moves_104 : decode cX5_moves 104 = .ok (.getfield 51, 3) := by decide +kernel
theorem dX5_moves_107 : decode cX5_moves 107 = .ok (.invokevirtual 153, 3) := by decide +kernel
theorem dX5_moves_110 : decode cX5_moves 110 = .ok (.aload_n 0, 1) := by decide +kernel
theorem dX5_moves_111 : decode cX5_moves 111 = .ok (.dup, 1) := by decide +kernel
theorem dX5_moves_112 : decode cX5_moves 112 = .ok (.getfield 51, 3) := by decide +kernel
theorem dX5_moves_115 : decode cX5_moves 115 = .ok (.iconst 1, 1) := by decide +kernel
theorem dX5_moves_116 : decode cX5_moves 116 = .ok (.iadd, 1) := by decide +kernel
theorem dX5_moves_117 : decode cX5_moves 117 = .ok (.putfield 51, 3) := by decide +kernel
theorem dX5_moves_120 : decode cX5_moves 120 = .ok (.goto 130, 3) := by decide +kernel
theorem dX5_moves_123 : decode cX5_moves 123 = .ok (.iload_n 1, 1) := by decide +kernel
theorem dX5_moves_124 : decode cX5_moves 124 = .ok (.bipush 114, 2) := by decide +kernel
theorem dX5_moves_126 : decode cX5_moves 126 = .ok (.if_icmp .ne 46, 3) := by decide +kernel
theorem dX5_moves_129 : decode cX5_moves 129 = .ok (.aload_n 0, 1) := by decide +kernel
theorem dX5_moves_130 : decode cX5_moves 130 = .ok (.aload_n 0, 1) := by decide +kernel
theorem dX5_moves_131 : decode cX5_moves 131 = .ok (.getfield 51, 3) := by decide +kernel
theorem dX5_moves_134 : decode cX5_moves 134 = .ok (.iconst 1, 1) := by decide +kernel
theorem dX5_moves_135 : decode cX5_moves 135 = .ok (.isub, 1) := by decide +kernel
theorem dX5_moves_136 : decode cX5_moves 136 = .ok (.bipush 80, 2) := by decide +kernel
theorem dX5_moves_138 : decode cX5_moves 138 = .ok (.invokevirtual 153, 3) := by decide +kernel
theorem dX5_moves_141 : decode cX5_moves 141 = .ok (.aload_n 0, 1) := by decide +kernel
theorem dX5_moves_142 : decode cX5_moves 142 = .ok (.aload_n 0, 1) := by decide +kernel
theorem dX5_moves_143 : decode cX5_moves 143 = .ok (.getfield 51, 3) := by decide +kernel
theorem dX5_moves_146 : decode cX5_moves 146 = .ok (.iconst 2, 1) := by decide +kernel
theorem dX5_moves_147 : decode cX5_moves 147 = .ok (.isub, 1) := by decide +kernel
theorem dX5_moves_148 : decode cX5_moves 148 = .ok (.aload_n 0, 1) := by decide +kernel
theorem dX5_moves_149 : decode cX5_moves 149 = .ok (.getfield 51, 3) := by decide +kernel
theorem dX5_moves_152 : decode cX5_moves 152 = .ok (.iconst 1, 1) := by decide +kernel
theorem dX5_moves_153 : decode cX5_moves 153 = .ok (.isub, 1) := by decide +kernel
theorem dX5_moves_154 : decode cX5_moves 154 = .ok (.invokevirtual 153, 3) := by decide +kernel
theorem dX5_moves_157 : decode cX5_moves 157 = .ok (.aload_n 0, 1) := by decide +kernel
theorem dX5_moves_158 : decode cX5_moves 158 = .ok (.bipush 80, 2) := by decide +kernel
theorem dX5_moves_160 : decode cX5_moves 160 = .ok (.aload_n 0, 1) := by decide +kernel
theorem dX5_moves_161 : decode cX5_moves 161 = .ok (.getfield 51, 3) := by decide +kernel
theorem dX5_moves_164 : decode cX5_moves 164 = .ok (.iconst 2, 1) := by decide +kernel
theorem dX5_moves_165 : decode cX5_moves 165 = .ok (.isub, 1) := by decide +kernel
theorem dX5_moves_166 : decode cX5_moves 166 = .ok (.invokevirtual 153, 3) := by decide +kernel
theorem dX5_moves_169 : decode cX5_moves 169 = .ok (.goto 81, 3) := by decide +kernel
theorem dX5_moves_172 : decode cX5_moves 172 = .ok (.iload_n 1, 1) := by decide +kernel
theorem dX5_moves_173 : decode cX5_moves 173 = .ok (.bipush 68, 2) := by decide +kernel
theorem dX5_moves_175 : decode cX5_moves 175 = .ok (.if_icmp .ne 16, 3) := by decide +kernel
theorem dX5_moves_178 : decode cX5_moves 178 = .ok (.aload_n 0, 1) := by decide +kernel
theorem dX5_moves_179 : decode cX5_moves 179 = .ok (.dup, 1) := by decide +kernel
theorem dX5_moves_180 : decode cX5_moves 180 = .ok (.getfield 51, 3) := by decide +kernel
theorem dX5_moves_183 : decode cX5_moves 183 = .ok (.iconst 1, 1) := by decide +kernel
theorem dX5_moves_184 : decode cX5_moves 184 = .ok (.isub, 1) := by decide +kernel
theorem dX5_moves_185 : decode cX5_moves 185 = .ok (.putfield 51, 3) := by decide +kernel
theorem dX5_moves_188 : decode cX5_moves 188 = .ok (.goto 62, 3) := by decide +kernel
theorem dX5_moves_191 : decode cX5_moves 191 = .ok (.aload_n 0, 1) := by decide +kernel
theorem dX5_moves_192 : decode cX5_moves 192 = .ok (.getfield 157, 3) := by decide +kernel
theorem dX5_moves_195 : decode cX5_moves 195 = .ok (.bipush 40, 2) := by decide +kernel
theorem dX5_moves_197 : decode cX5_moves 197 = .ok (.if_icmp .ge 53, 3) := by decide +kernel
theorem dX5_moves_200 : decode cX5_moves 200 = .ok (.aload_n 0, 1) := by decide +kernel
theorem dX5_moves_201 : decode cX5_moves 201 = .ok (.getfield 35, 3) := by decide +kernel
theorem dX5_moves_204 : decode cX5_moves 204 = .ok (.aload_n 0, 1) := by decide +kernel
theorem dX5_moves_205 : decode cX5_moves 205 = .ok (.getfield 157, 3) := by decide +kernel
theorem dX5_moves_208 : decode cX5_moves 208 = .ok (.aload_n 0, 1) := by decide +kernel
theorem dX5_moves_209 : decode cX5_moves 209 = .ok (.getfield 13, 3) := by decide +kernel
theorem dX5_moves_212 : decode cX5_moves 212 = .ok (.aload_n 0, 1) := by decide +kernel
theorem dX5_moves_213 : decode cX5_moves 213 = .ok (.getfield 51, 3) := by decide +kernel
theorem dX5_moves_216 : decode cX5_moves 216 = .ok (.iconst 1, 1) := by decide +kernel
theorem dX5_moves_217 : decode cX5_moves 217 = .ok (.isub, 1) := by decide +kernel
theorem dX5_moves_218 : decode cX5_moves 218 = .ok (.laload, 1) := by decide +kernel
theorem dX5_moves_219 : decode cX5_moves 219 = .ok (.lastore, 1) := by decide +kernel
theorem dX5_moves_220 : decode cX5_moves 220 = .ok (.aload_n 0, 1) := by decide +kernel
theorem dX5_moves_221 : decode cX5_moves 221 = .ok (.getfield 38, 3) := by decide +kernel
theorem dX5_moves_224 : decode cX5_moves 224 = .ok (.aload_n 0, 1) := by decide +kernel
theorem dX5_moves_225 : decode cX5_moves 225 = .ok (.getfield 157, 3) := by decide +kernel
theorem dX5_moves_228 : decode cX5_moves 228 = .ok (.aload_n 0, 1) := by decide +kernel
theorem dX5_moves_229 : decode cX5_moves 229 = .ok (.getfield 17, 3) := by decide +kernel
theorem dX5_moves_232 : decode cX5_moves 232 = .ok (.aload_n 0, 1) := by decide +kernel
theorem dX5_moves_233 : decode cX5_moves 233 = .ok (.getfield 51, 3) := by decide +kernel
theorem dX5_moves_236 : decode cX5_moves 236 = .ok (.iconst 1, 1) := by decide +kernel
theorem dX5_moves_237 : decode cX5_moves 237 = .ok (.isub, 1) := by decide +kernel
theorem dX5_moves_238 : decode cX5_moves 238 = .ok (.iaload, 1) := by decide +kernel
theorem dX5_moves_239 : decode cX5_moves 239 = .ok (.iastore, 1) := by decide +kernel
theorem dX5_moves_240 : decode cX5_moves 240 = .ok (.aload_n 0, 1) := by decide +kernel
theorem dX5_moves_241 : decode cX5_moves 241 = .ok (.dup, 1) := by decide +kernel
theorem dX5_moves_242 : decode cX5_moves 242 = .ok (.getfield 157, 3) := by decide +kernel
theorem dX5_moves_245 : decode cX5_moves 245 = .ok (.iconst 1, 1) := by decide +kernel
theorem dX5_moves_246 : decode cX5_moves 246 = .ok (.iadd, 1) := by decide +kernel
theorem dX5_moves_247 : decode cX5_moves 247 = .ok (.putfield 157, 3) := by decide +kernel
theorem dX5_moves_250 : decode cX5_moves 250 = .ok (.iconst 1, 1) := by decide +kernel
theorem dX5_moves_251 : decode cX5_moves 251 = .ok (.ireturn, 1) := by decide +kernel
set_option maxRecDepth 20000 in
theorem ggX5_stores_X5_have : GoodIn wsX5_stores wsX5_have := goodIn_r _ [7, 2, 8, 9, 10, 6, 11, 12, 28, 29, 30, 31, 32, 33, 34, 35, 36, 37, 38, 39, 40, 41, 42, 43, 44, 45, 46, 47, 48] (by decide +kernel) (by decide +kernel)
set_option maxRecDepth 20000 in
theorem gX5_stores_X5_have : GoodIn wsX5_stores (wsV RX5 58 RX5 yX5_have wsX5_have) := goodIn_app (goodIn_of _ (by decide +kernel)) ggX5_stores_X5_have
set_option maxRecDepth 20000 in
theorem ggX5_stores_X5_fail : GoodIn wsX5_stores wsX5_fail := goodIn_r _ [11, 12, 28, 29, 30, 31, 32, 33, 34, 35, 36, 37, 38, 39, 40, 41, 42, 43, 44, 45, 46, 47, 48] (by decide +kernel) (by decide +kernel)
set_option maxRecDepth 20000 in
theorem gX5_stores_X5_fail : GoodIn wsX5_stores (wsV RX5 54 RX5 yX5_fail wsX5_fail) := goodIn_app (goodIn_of _ (by decide +kernel)) ggX5_stores_X5_fail
set_option maxRecDepth 20000 in
theorem ggX5_stores_X5_topOf : GoodIn wsX5_stores wsX5_topOf := goodIn_r _ [16, 1, 28, 29, 30, 31, 32, 33, 34, 35, 36, 37, 38, 39, 40, 41, 42, 43, 44, 45, 46, 47, 48] (by decide +kernel) (by decide +kernel)
set_option maxRecDepth 20000 in
theorem gX5_stores_X5_topOf : GoodIn wsX5_stores (wsV RX5 160 RX5 yX5_topOf wsX5_topOf) := goodIn_app (goodIn_of _ (by decide +kernel)) ggX5_stores_X5_topOf
set_option maxRecDepth 20000 in
theorem ggX5_stores_X5_copy : GoodIn wsX5_stores wsX5_copy := goodIn_r _ [20, 21, 22, 23, 28, 29, 30, 31, 32, 33, 34, 35, 36, 37, 38, 39, 40, 41, 42, 43, 44, 45, 46, 47, 48] (by decide +kernel) (by decide +kernel)
set_option maxRecDepth 20000 in
theorem gX5_stores_X5_copy : GoodIn wsX5_stores (wsV RX5 153 RX5 yX5_copy wsX5_copy) := goodIn_app (goodIn_of _ (by decide +kernel)) ggX5_stores_X5_copy
set_option maxRecDepth 20000 in
theorem ggX5_stores_X5_room : GoodIn wsX5_stores wsX5_room := goodIn_r _ [27, 2, 8, 9, 10, 6, 11, 12, 28, 29, 30, 31, 32, 33, 34, 35, 36, 37, 38, 39, 40, 41, 42, 43, 44, 45, 46, 47, 48] (by decide +kernel) (by decide +kernel)
set_option maxRecDepth 20000 in
theorem gX5_stores_X5_room : GoodIn wsX5_stores (wsV RX5 131 RX5 yX5_room wsX5_room) := goodIn_app (goodIn_of _ (by decide +kernel)) ggX5_stores_X5_room
theorem dX5_stores_0 : decode cX5_stores 0 = .ok (.iload_n 1, 1) := by decide +kernel
theorem dX5_stores_1 : decode cX5_stores 1 = .ok (.bipush 115, 2) := by decide +kernel
theorem dX5_stores_3 : decode cX5_stores 3 = .ok (.if_icmp .eq 9, 3) := by decide +kernel
theorem dX5_stores_6 : decode cX5_stores 6 = .ok (.iload_n 1, 1) := by decide +kernel
theorem dX5_stores_7 : decode cX5_stores 7 = .ok (.bipush 83, 2) := by decide +kernel
theorem dX5_stores_9 : decode cX5_stores 9 = .ok (.if_icmp .ne 94, 3) := by decide +kernel
theorem dX5_stores_12 : decode cX5_stores 12 = .ok (.aload_n 0, 1) := by decide +kernel
theorem dX5_stores_13 : decode cX5_stores 13 = .ok (.iconst 1, 1) := by decide +kernel
theorem dX5_stores_14 : decode cX5_stores 14 = .ok (.invokevirtual 58, 3) := by decide +kernel
theorem dX5_stores_17 : decode cX5_stores 17 = .ok (.ifCond .ne 5, 3) := by decide +kernel
theorem dX5_stores_20 : decode cX5_stores 20 = .ok (.iconst 0, 1) := by decide +kernel
theorem dX5_stores_21 : decode cX5_stores 21 = .ok (.ireturn, 1) := by decide +kernel
theorem dX5_stores_22 : decode cX5_stores 22 = .ok (.iload_n 1, 1) := by decide +kernel
theorem dX5_stores_23 : decode cX5_stores 23 = .ok (.bipush 83, 2) := by decide +kernel
theorem dX5_stores_25 : decode cX5_stores 25 = .ok (.if_icmp .eq 12, 3) := by decide +kernel
theorem dX5_stores_28 : decode cX5_stores 28 = .ok (.aload_n 0, 1) := by decide +kernel
theorem dX5_stores_29 : decode cX5_stores 29 = .ok (.getfield 23, 3) := by decide +kernel
theorem dX5_stores_32 : decode cX5_stores 32 = .ok (.iload_n 2, 1) := by decide +kernel
theorem dX5_stores_33 : decode cX5_stores 33 = .ok (.iaload, 1) := by decide +kernel
theorem dX5_stores_34 : decode cX5_stores 34 = .ok (.ifCond .ne 7, 3) := by decide +kernel
theorem dX5_stores_37 : decode cX5_stores 37 = .ok (.iconst 1, 1) := by decide +kernel
theorem dX5_stores_38 : decode cX5_stores 38 = .ok (.goto 4, 3) := by decide +kernel
theorem dX5_stores_41 : decode cX5_stores 41 = .ok (.iconst 0, 1) := by decide +kernel
theorem dX5_stores_42 : decode cX5_stores 42 = .ok (.istore_n 3, 1) := by decide +kernel
theorem dX5_stores_43 : decode cX5_stores 43 = .ok (.iload_n 3, 1) := by decide +kernel
theorem dX5_stores_44 : decode cX5_stores 44 = .ok (.ifCond .eq 20, 3) := by decide +kernel
theorem dX5_stores_47 : decode cX5_stores 47 = .ok (.aload_n 0, 1) := by decide +kernel
theorem dX5_stores_48 : decode cX5_stores 48 = .ok (.getfield 23, 3) := by decide +kernel
theorem dX5_stores_51 : decode cX5_stores 51 = .ok (.iload_n 2, 1) := by decide +kernel
theorem dX5_stores_52 : decode cX5_stores 52 = .ok (.iaload, 1) := by decide +kernel
theorem dX5_stores_53 : decode cX5_stores 53 = .ok (.bipush 10, 2) := by decide +kernel
theorem dX5_stores_55 : decode cX5_stores 55 = .ok (.if_icmp .ne 9, 3) := by decide +kernel
theorem dX5_stores_58 : decode cX5_stores 58 = .ok (.aload_n 0, 1) := by decide +kernel
theorem dX5_stores_59 : decode cX5_stores 59 = .ok (.iconst 5, 1) := by decide +kernel
theorem dX5_stores_60 : decode cX5_stores 60 = .ok (.invokevirtual 54, 3) := by decide +kernel
theorem dX5_stores_63 : decode cX5_stores 63 = .ok (.ireturn, 1) := by decide +kernel
theorem dX5_stores_64 : decode cX5_stores 64 = .ok (.iload_n 3, 1) := by decide +kernel
theorem dX5_stores_65 : decode cX5_stores 65 = .ok (.ifCond .eq 13, 3) := by decide +kernel
theorem dX5_stores_68 : decode cX5_stores 68 = .ok (.aload_n 0, 1) := by decide +kernel
theorem dX5_stores_69 : decode cX5_stores 69 = .ok (.getfield 23, 3) := by decide +kernel
theorem dX5_stores_72 : decode cX5_stores 72 = .ok (.iload_n 2, 1) := by decide +kernel
theorem dX5_stores_73 : decode cX5_stores 73 = .ok (.dup2, 1) := by decide +kernel
theorem dX5_stores_74 : decode cX5_stores 74 = .ok (.iaload, 1) := by decide +kernel
theorem dX5_stores_75 : decode cX5_stores 75 = .ok (.iconst 1, 1) := by decide +kernel
theorem dX5_stores_76 : decode cX5_stores 76 = .ok (.iadd, 1) := by decide +kernel
theorem dX5_stores_77 : decode cX5_stores 77 = .ok (.iastore, 1) := by decide +kernel
theorem dX5_stores_78 : decode cX5_stores 78 = .ok (.aload_n 0, 1) := by decide +kernel
theorem dX5_stores_79 : decode cX5_stores 79 = .ok (.dup, 1) := by decide +kernel
theorem dX5_stores_80 : decode cX5_stores 80 = .ok (.getfield 51, 3) := by decide +kernel
theorem dX5_stores_83 : decode cX5_stores 83 = .ok (.iconst 1, 1) := by decide +kernel
theorem dX5_stores_84 : decode cX5_stores 84 = .ok (.isub, 1) := by decide +kernel
theorem dX5_stores_85 : decode cX5_stores 85 = .ok (.putfield 51, 3) := by decide +kernel
theorem dX5_stores_88 : decode cX5_stores 88 = .ok (.aload_n 0, 1) := by decide +kernel
theorem dX5_stores_89 : decode cX5_stores 89 = .ok (.aload_n 0, 1) := by decide +kernel
theorem dX5_stores_90 : decode cX5_stores 90 = .ok (.getfield 51, 3) := by decide +kernel
theorem dX5_stores_93 : decode cX5_stores 93 = .ok (.aload_n 0, 1) := by decide +kernel
theorem dX5_stores_94 : decode cX5_stores 94 = .ok (.iload_n 2, 1) := by decide +kernel
theorem dX5_stores_95 : decode cX5_stores 95 = .ok (.invokevirtual 160, 3) := by decide +kernel
theorem dX5_stores_98 : decode cX5_stores 98 = .ok (.invokevirtual 153, 3) := by decide +kernel
theorem dX5_stores_101 : decode cX5_stores 101 = .ok (.iconst 1, 1) := by decide +kernel
theorem dX5_stores_102 : decode cX5_stores 102 = .ok (.ireturn, 1) := by decide +kernel
theorem dX5_stores_103 : decode cX5_stores 103 = .ok (.aload_n 0, 1) := by decide +kernel
theorem dX5_stores_104 : decode cX5_stores 104 = .ok (.getfield 23, 3) := by decide +kernel
theorem dX5_stores_107 : decode cX5_stores 107 = .ok (.iload_n 2, 1) := by decide +kernel
theorem dX5_stores_108 : decode cX5_stores 108 = .ok (.iaload, 1) := by decide +kernel
theorem dX5_stores_109 : decode cX5_stores 109 = .ok (.ifCond .ne 9, 3) := by decide +kernel
theorem dX5_stores_112 : decode cX5_stores 112 = .ok (.aload_n 0, 1) := by decide +kernel
theorem dX5_stores_113 : decode cX5_stores 113 = .ok (.iconst 2, 1) := by decide +kernel
theorem dX5_stores_114 : decode cX5_stores 114 = .ok (.invokevirtual 54, 3) := by decide +kernel
theorem dX5_stores_117 : decode cX5_stores 117 = .ok (.ireturn, 1) := by decide +kernel
theorem dX5_stores_118 : decode cX5_stores 118 = .ok (.aload_n 0, 1) := by decide +kernel
theorem dX5_stores_119 : decode cX5_stores 119 = .ok (.invokevirtual 131, 3) := by decide +kernel
theorem dX5_stores_122 : decode cX5_stores 122 = .ok (.ifCond .ne 5, 3) := by decide +kernel
theorem dX5_stores_125 : decode cX5_stores 125 = .ok (.iconst 0, 1) := by decide +kernel
theorem dX5_stores_126 : decode cX5_stores 126 = .ok (.ireturn, 1) := by decide +kernel
theorem dX5_stores_127 : decode cX5_stores 127 = .ok (.aload_n 0, 1) := by decide +kernel
theorem dX5_stores_128 : decode cX5_stores 128 = .ok (.aload_n 0, 1) := by decide +kernel
theorem dX5_stores_129 : decode cX5_stores 129 = .ok (.iload_n 2, 1) := by decide +kernel
theorem dX5_stores_130 : decode cX5_stores 130 = .ok (.invokevirtual 160, 3) := by decide +kernel
theorem dX5_stores_133 : decode cX5_stores 133 = .ok (.aload_n 0, 1) := by decide +kernel
theorem dX5_stores_134 : decode cX5_stores 134 = .ok (.getfield 51, 3) := by decide +kernel
theorem dX5_stores_137 : decode cX5_stores 137 = .ok (.invokevirtual 153, 3) := by decide +kernel
theorem dX5_stores_140 : decode cX5_stores 140 = .ok (.aload_n 0, 1) := by decide +kernel
theorem dX5_stores_141 : decode cX5_stores 141 = .ok (.dup, 1) := by decide +kernel
theorem dX5_stores_142 : decode cX5_stores 142 = .ok (.getfield 51, 3) := by decide +kernel
theorem dX5_stores_145 : decode cX5_stores 145 = .ok (.iconst 1, 1) := by decide +kernel
theorem dX5_stores_146 : decode cX5_stores 146 = .ok (.iadd, 1) := by decide +kernel
theorem dX5_stores_147 : decode cX5_stores 147 = .ok (.putfield 51, 3) := by decide +kernel
theorem dX5_stores_150 : decode cX5_stores 150 = .ok (.iload_n 1, 1) := by decide +kernel
theorem dX5_stores_151 : decode cX5_stores 151 = .ok (.bipush 76, 2) := by decide +kernel
theorem dX5_stores_153 : decode cX5_stores 153 = .ok (.if_icmp .ne 13, 3) := by decide +kernel
theorem dX5_stores_156 : decode cX5_stores 156 = .ok (.aload_n 0, 1) := by decide +kernel
theorem dX5_stores_157 : decode cX5_stores 157 = .ok (.getfield 23, 3) := by decide +kernel
theorem dX5_stores_160 : decode cX5_stores 160 = .ok (.iload_n 2, 1) := by decide +kernel
theorem dX5_stores_161 : decode cX5_stores 161 = .ok (.dup2, 1) := by decide +kernel
theorem dX5_stores_162 : decode cX5_stores 162 = .ok (.iaload, 1) := by decide +kernel
theorem dX5_stores_163 : decode cX5_stores 163 = .ok (.iconst 1, 1) := by decide +kernel
theorem dX5_stores_164 : decode cX5_stores 164 = .ok (.isub, 1) := by decide +kernel
theorem dX5_stores_165 : decode cX5_stores 165 = .ok (.iastore, 1) := by decide +kernel
theorem dX5_stores_166 : decode cX5_stores 166 = .ok (.iconst 1, 1) := by decide +kernel
theorem dX5_stores_167 : decode cX5_stores 167 = .ok (.ireturn, 1) := by decide +kernel
set_option maxRecDepth 20000 in
theorem ggX5_tests_X5_numbers : GoodIn wsX5_tests wsX5_numbers := goodIn_r _ [9, 4, 2, 10, 11, 12, 8, 13, 14, 15, 16, 17, 18, 60, 61, 62, 63, 64, 65, 66, 67, 68, 69, 70, 71, 72, 73, 74, 75, 76, 77, 78, 79, 80] (by decide +kernel) (by decide +kernel)
set_option maxRecDepth 20000 in
theorem gX5_tests_X5_numbers : GoodIn wsX5_tests (wsV RX5 71 RX5 yX5_numbers wsX5_numbers) := goodIn_app (goodIn_of _ (by decide +kernel)) ggX5_tests_X5_numbers
set_option maxRecDepth 20000 in
theorem ggX5_tests_X5_compared : GoodIn wsX5_tests wsX5_compared := goodIn_r _ [22, 4, 2, 23, 24, 1, 18, 25, 26, 8, 27, 28, 29, 30, 31, 32, 33, 34, 60, 61, 62, 63, 64, 65, 66, 67, 68, 69, 70, 71, 72, 73, 74, 75, 76, 77, 78, 79, 80] (by decide +kernel) (by decide +kernel)
set_option maxRecDepth 20000 in
theorem gX5_tests_X5_compared : GoodIn wsX5_tests (wsV RX5 164 RX5 yX5_compared wsX5_compared) := goodIn_app (goodIn_of _ (by decide +kernel)) ggX5_tests_X5_compared
set_option maxRecDepth 20000 in
theorem ggX5_tests_X5_fail : GoodIn wsX5_tests wsX5_fail := goodIn_r _ [17, 18, 60, 61, 62, 63, 64, 65, 66, 67, 68, 69, 70, 71, 72, 73, 74, 75, 76, 77, 78, 79, 80] (by decide +kernel) (by decide +kernel)
set_option maxRecDepth 20000 in
theorem gX5_tests_X5_fail : GoodIn wsX5_tests (wsV RX5 54 RX5 yX5_fail wsX5_fail) := goodIn_app (goodIn_of _ (by decide +kernel)) ggX5_tests_X5_fail
set_option maxRecDepth 20000 in
theorem ggX5_tests_X5_topOf : GoodIn wsX5_tests wsX5_topOf := goodIn_r _ [38, 3, 60, 61, 62, 63, 64, 65, 66, 67, 68, 69, 70, 71, 72, 73, 74, 75, 76, 77, 78, 79, 80] (by decide +kernel) (by decide +kernel)
set_option maxRecDepth 20000 in
theorem gX5_tests_X5_topOf : GoodIn wsX5_tests (wsV RX5 160 RX5 yX5_topOf wsX5_topOf) := goodIn_app (goodIn_of _ (by decide +kernel)) ggX5_tests_X5_topOf
set_option maxRecDepth 20000 in
theorem ggX5_tests_X5_mayRun : GoodIn wsX5_tests wsX5_mayRun := goodIn_r _ [42, 43, 44, 45, 46, 8, 47, 48, 49, 50, 51, 52, 53, 14, 15, 16, 17, 18, 60, 61, 62, 63, 64, 65, 66, 67, 68, 69, 70, 71, 72, 73, 74, 75, 76, 77, 78, 79, 80] (by decide +kernel) (by decide +kernel)
set_option maxRecDepth 20000 in
theorem gX5_tests_X5_mayRun : GoodIn wsX5_tests (wsV RX5 167 RX5 yX5_mayRun wsX5_mayRun) := goodIn_app (goodIn_of _ (by decide +kernel)) ggX5_tests_X5_mayRun
set_option maxRecDepth 20000 in
theorem ggX5_tests_X5_begin : GoodIn wsX5_tests wsX5_begin := goodIn_r _ [57, 58, 43, 48, 23, 49, 59, 44, 45, 46, 8, 47, 50, 51, 52, 53, 60, 61, 62, 63, 64, 65, 66, 67, 68, 69, 70, 71, 72, 73, 74, 75, 76, 77, 78, 79, 80] (by decide +kernel) (by decide +kernel)
set_option maxRecDepth 20000 in
theorem gX5_tests_X5_begin : GoodIn wsX5_tests (wsV RX5 170 RX5 yX5_begin wsX5_begin) := goodIn_app (goodIn_of _ (by decide +kernel)) ggX5_tests_X5_begin
theorem dX5_tests_0 : decode cX5_tests 0 = .ok (.aload_n 0, 1) := by decide +kernel
theorem dX5_tests_1 : decode cX5_tests 1 = .ok (.iconst 2, 1) := by decide +kernel
theorem dX5_tests_2 : decode cX5_tests 2 = .ok (.invokevirtual 71, 3) := by decide +kernel
theorem dX5_tests_5 : decode cX5_tests 5 = .ok (.ifCond .eq 10, 3) := by decide +kernel
theorem dX5_tests_8 : decode cX5_tests 8 = .ok (.aload_n 0, 1) := by decide +kernel
theorem dX5_tests_9 : decode cX5_tests 9 = .ok (.invokevirtual 164, 3) := by decide +kernel
theorem dX5_tests_12 : decode cX5_tests 12 = .ok (.ifCond .ne 5, 3) := by decide +kernel
theorem dX5_tests_15 : decode cX5_tests 15 = .ok (.iconst 0, 1) := by decide +kernel
theorem dX5_tests_16 : decode cX5_tests 16 = .ok (.ireturn, 1) := by decide +kernel
theorem dX5_tests_17 : decode cX5_tests 17 = .ok (.iload_n 1, 1) := by decide +kernel
theorem dX5_tests_18 : decode cX5_tests 18 = .ok (.bipush 60, 2) := by decide +kernel
theorem dX5_tests_20 : decode cX5_tests 20 = .ok (.if_icmp .ne 20, 3) := by decide +kernel
theorem dX5_tests_23 : decode cX5_tests 23 = .ok (.aload_n 0, 1) := by decide +kernel
theorem dX5_tests_24 : decode cX5_tests 24 = .ok (.getfield 85, 3) := by decide +kernel
theorem dX5_tests_27 : decode cX5_tests 27 = .ok (.lconst 0, 1) := by decide +kernel
theorem dX5_tests_28 : decode cX5_tests 28 = .ok (.lcmp, 1) := by decide +kernel
theorem dX5_tests_29 : decode cX5_tests 29 = .ok (.ifCond .le 7, 3) := by decide +kernel
theorem dX5_tests_32 : decode cX5_tests 32 = .ok (.iconst 1, 1) := by decide +kernel
theorem dX5_tests_33 : decode cX5_tests 33 = .ok (.goto 44, 3) := by decide +kernel
theorem dX5_tests_36 : decode cX5_tests 36 = .ok (.iconst 0, 1) := by decide +kernel
theorem dX5_tests_37 : decode cX5_tests 37 = .ok (.goto 40, 3) := by decide +kernel
theorem dX5_tests_40 : decode cX5_tests 40 = .ok (.iload_n 1, 1) := by decide +kernel
theorem dX5_tests_41 : decode cX5_tests 41 = .ok (.bipush 62, 2) := by decide +kernel
theorem dX5_tests_43 : decode cX5_tests 43 = .ok (.if_icmp .ne 20, 3) := by decide +kernel
theorem dX5_tests_46 : decode cX5_tests 46 = .ok (.aload_n 0, 1) := by decide +kernel
theorem dX5_tests_47 : decode cX5_tests 47 = .ok (.getfield 85, 3) := by decide +kernel
theorem dX5_tests_50 : decode cX5_tests 50 = .ok (.lconst 0, 1) := by decide +kernel
theorem dX5_tests_51 : decode cX5_tests 51 = .ok (.lcmp, 1) := by decide +kernel
theorem dX5_tests_52 : decode cX5_tests 52 = .ok (.ifCond .ge 7, 3) := by decide +kernel
theorem dX5_tests_55 : decode cX5_tests 55 = .ok (.iconst 1, 1) := by decide +kernel
theorem dX5_tests_56 : decode cX5_tests 56 = .ok (.goto 21, 3) := by decide +kernel
theorem dX5_tests_59 : decode cX5_tests 59 = .ok (.iconst 0, 1) := by decide +kernel
theorem dX5_tests_60 : decode cX5_tests 60 = .ok (.goto 17, 3) := by decide +kernel
theorem dX5_tests_63 : decode cX5_tests 63 = .ok (.aload_n 0, 1) := by decide +kernel
theorem dX5_tests_64 : decode cX5_tests 64 = .ok (.getfield 85, 3) := by decide +kernel
theorem dX5_tests_67 : decode cX5_tests 67 = .ok (.lconst 0, 1) := by decide +kernel
theorem dX5_tests_68 : decode cX5_tests 68 = .ok (.lcmp, 1) := by decide +kernel
theorem dX5_tests_69 : decode cX5_tests 69 = .ok (.ifCond .ne 7, 3) := by decide +kernel
theorem dX5_tests_72 : decode cX5_tests 72 = .ok (.iconst 1, 1) := by decide +kernel
theorem dX5_tests_73 : decode cX5_tests 73 = .ok (.goto 4, 3) := by decide +kernel
theorem dX5_tests_76 : decode cX5_tests 76 = .ok (.iconst 0, 1) := by decide +kernel
theorem dX5_tests_77 : decode cX5_tests 77 = .ok (.istore 4, 2) := by decide +kernel
theorem dX5_tests_79 : decode cX5_tests 79 = .ok (.iload 4, 2) := by decide +kernel
theorem dX5_tests_81 : decode cX5_tests 81 = .ok (.ifCond .ne 15, 3) := by decide +kernel
theorem dX5_tests_84 : decode cX5_tests 84 = .ok (.aload_n 0, 1) := by decide +kernel
theorem dX5_tests_85 : decode cX5_tests 85 = .ok (.dup, 1) := by decide +kernel
theorem dX5_tests_86 : decode cX5_tests 86 = .ok (.getfield 51, 3) := by decide +kernel
theorem dX5_tests_89 : decode cX5_tests 89 = .ok (.iconst 2, 1) := by decide +kernel
theorem dX5_tests_90 : decode cX5_tests 90 = .ok (.isub, 1) := by decide +kernel
theorem dX5_tests_91 : decode cX5_tests 91 = .ok (.putfield 51, 3) := by decide +kernel
theorem dX5_tests_94 : decode cX5_tests 94 = .ok (.iconst 1, 1) := by decide +kernel
theorem dX5_tests_95 : decode cX5_tests 95 = .ok (.ireturn, 1) := by decide +kernel
theorem dX5_tests_96 : decode cX5_tests 96 = .ok (.aload_n 0, 1) := by decide +kernel
theorem dX5_tests_97 : decode cX5_tests 97 = .ok (.getfield 23, 3) := by decide +kernel
theorem dX5_tests_100 : decode cX5_tests 100 = .ok (.iload_n 2, 1) := by decide +kernel
theorem dX5_tests_101 : decode cX5_tests 101 = .ok (.iaload, 1) := by decide +kernel
theorem dX5_tests_102 : decode cX5_tests 102 = .ok (.ifCond .ne 9, 3) := by decide +kernel
theorem dX5_tests_105 : decode cX5_tests 105 = .ok (.aload_n 0, 1) := by decide +kernel
theorem dX5_tests_106 : decode cX5_tests 106 = .ok (.iconst 2, 1) := by decide +kernel
theorem dX5_tests_107 : decode cX5_tests 107 = .ok (.invokevirtual 54, 3) := by decide +kernel
theorem dX5_tests_110 : decode cX5_tests 110 = .ok (.ireturn, 1) := by decide +kernel
theorem dX5_tests_111 : decode cX5_tests 111 = .ok (.aload_n 0, 1) := by decide +kernel
theorem dX5_tests_112 : decode cX5_tests 112 = .ok (.getfield 17, 3) := by decide +kernel
theorem dX5_tests_115 : decode cX5_tests 115 = .ok (.aload_n 0, 1) := by decide +kernel
theorem dX5_tests_116 : decode cX5_tests 116 = .ok (.iload_n 2, 1) := by decide +kernel
theorem dX5_tests_117 : decode cX5_tests 117 = .ok (.invokevirtual 160, 3) := by decide +kernel
theorem dX5_tests_120 : decode cX5_tests 120 = .ok (.iaload, 1) := by decide +kernel
theorem dX5_tests_121 : decode cX5_tests 121 = .ok (.ifCond .lt 9, 3) := by decide +kernel
theorem dX5_tests_124 : decode cX5_tests 124 = .ok (.aload_n 0, 1) := by decide +kernel
theorem dX5_tests_125 : decode cX5_tests 125 = .ok (.iconst 3, 1) := by decide +kernel
theorem dX5_tests_126 : decode cX5_tests 126 = .ok (.invokevirtual 54, 3) := by decide +kernel
theorem dX5_tests_129 : decode cX5_tests 129 = .ok (.ireturn, 1) := by decide +kernel
theorem dX5_tests_130 : decode cX5_tests 130 = .ok (.aload_n 0, 1) := by decide +kernel
theorem dX5_tests_131 : decode cX5_tests 131 = .ok (.iload_n 3, 1) := by decide +kernel
theorem dX5_tests_132 : decode cX5_tests 132 = .ok (.invokevirtual 167, 3) := by decide +kernel
theorem dX5_tests_135 : decode cX5_tests 135 = .ok (.ifCond .ne 5, 3) := by decide +kernel
theorem dX5_tests_138 : decode cX5_tests 138 = .ok (.iconst 0, 1) := by decide +kernel
theorem dX5_tests_139 : decode cX5_tests 139 = .ok (.ireturn, 1) := by decide +kernel
theorem dX5_tests_140 : decode cX5_tests 140 = .ok (.aload_n 0, 1) := by decide +kernel
theorem dX5_tests_141 : decode cX5_tests 141 = .ok (.dup, 1) := by decide +kernel
theorem dX5_tests_142 : decode cX5_tests 142 = .ok (.getfield 51, 3) := by decide +kernel
theorem dX5_tests_145 : decode cX5_tests 145 = .ok (.iconst 2, 1) := by decide +kernel
theorem dX5_tests_146 : decode cX5_tests 146 = .ok (.isub, 1) := by decide +kernel
theorem dX5_tests_147 : decode cX5_tests 147 = .ok (.putfield 51, 3) := by decide +kernel
theorem dX5_tests_150 : decode cX5_tests 150 = .ok (.aload_n 0, 1) := by decide +kernel
theorem dX5_tests_151 : decode cX5_tests 151 = .ok (.aload_n 0, 1) := by decide +kernel
theorem dX5_tests_152 : decode cX5_tests 152 = .ok (.iload_n 2, 1) := by decide +kernel
theorem dX5_tests_153 : decode cX5_tests 153 = .ok (.invokevirtual 160, 3) := by decide +kernel
theorem dX5_tests_156 : decode cX5_tests 156 = .ok (.iload_n 3, 1) := by decide +kernel
theorem dX5_tests_157 : decode cX5_tests 157 = .ok (.invokevirtual 170, 3) := by decide +kernel
theorem dX5_tests_160 : decode cX5_tests 160 = .ok (.iconst 1, 1) := by decide +kernel
theorem dX5_tests_161 : decode cX5_tests 161 = .ok (.ireturn, 1) := by decide +kernel
set_option maxRecDepth 20000 in
theorem ggX5_compared_X5_greater : GoodIn wsX5_compared wsX5_greater := goodIn_r _ [10] (by decide +kernel) (by decide +kernel)
set_option maxRecDepth 20000 in
theorem gX5_compared_X5_greater : GoodIn wsX5_compared (va_wsS RX5 74 yX5_greater wsX5_greater) := goodIn_app (goodIn_of _ (by decide +kernel)) ggX5_compared_X5_greater
set_option maxRecDepth 20000 in
theorem ggX5_compared_X5_raised : GoodIn wsX5_compared wsX5_raised := goodIn_r _ [14, 6, 15, 16, 17, 18, 19, 20, 21, 22, 23, 24, 25, 26, 27, 28, 29, 30, 31, 32, 33, 34, 35, 36, 37, 38] (by decide +kernel) (by decide +kernel)
set_option maxRecDepth 20000 in
theorem gX5_compared_X5_raised : GoodIn wsX5_compared (wsV RX5 81 RX5 yX5_raised wsX5_raised) := goodIn_app (goodIn_of _ (by decide +kernel)) ggX5_compared_X5_raised
theorem dX5_compared_0 : decode cX5_compared 0 = .ok (.aload_n 0, 1) := by decide +kernel
theorem dX5_compared_1 : decode cX5_compared 1 = .ok (.getfield 17, 3) := by decide +kernel
theorem dX5_compared_4 : decode cX5_compared 4 = .ok (.aload_n 0, 1) := by decide +kernel
theorem dX5_compared_5 : decode cX5_compared 5 = .ok (.getfield 51, 3) := by decide +kernel
theorem dX5_compared_8 : decode cX5_compared 8 = .ok (.iconst 1, 1) := by decide +kernel
theorem dX5_compared_9 : decode cX5_compared 9 = .ok (.isub, 1) := by decide +kernel
theorem dX5_compared_10 : decode cX5_compared 10 = .ok (.iaload, 1) := by decide +kernel
theorem dX5_compared_11 : decode cX5_compared 11 = .ok (.aload_n 0, 1) := by decide +kernel
theorem dX5_compared_12 : decode cX5_compared 12 = .ok (.getfield 17, 3) := by decide +kernel
theorem dX5_compared_15 : decode cX5_compared 15 = .ok (.aload_n 0, 1) := by decide +kernel
theorem dX5_compared_16 : decode cX5_compared 16 = .ok (.getfield 51, 3) := by decide +kernel
theorem dX5_compared_19 : decode cX5_compared 19 = .ok (.iconst 2, 1) := by decide +kernel
theorem dX5_compared_20 : decode cX5_compared 20 = .ok (.isub, 1) := by decide +kernel
theorem dX5_compared_21 : decode cX5_compared 21 = .ok (.iaload, 1) := by decide +kernel
theorem dX5_compared_22 : decode cX5_compared 22 = .ok (.invokestatic 74, 3) := by decide +kernel
theorem dX5_compared_25 : decode cX5_compared 25 = .ok (.istore_n 1, 1) := by decide +kernel
theorem dX5_compared_26 : decode cX5_compared 26 = .ok (.aload_n 0, 1) := by decide +kernel
theorem dX5_compared_27 : decode cX5_compared 27 = .ok (.aload_n 0, 1) := by decide +kernel
theorem dX5_compared_28 : decode cX5_compared 28 = .ok (.getfield 13, 3) := by decide +kernel
theorem dX5_compared_31 : decode cX5_compared 31 = .ok (.aload_n 0, 1) := by decide +kernel
theorem dX5_compared_32 : decode cX5_compared 32 = .ok (.getfield 51, 3) := by decide +kernel
theorem dX5_compared_35 : decode cX5_compared 35 = .ok (.iconst 2, 1) := by decide +kernel
theorem dX5_compared_36 : decode cX5_compared 36 = .ok (.isub, 1) := by decide +kernel
theorem dX5_compared_37 : decode cX5_compared 37 = .ok (.laload, 1) := by decide +kernel
theorem dX5_compared_38 : decode cX5_compared 38 = .ok (.iload_n 1, 1) := by decide +kernel
theorem dX5_compared_39 : decode cX5_compared 39 = .ok (.aload_n 0, 1) := by decide +kernel
theorem dX5_compared_40 : decode cX5_compared 40 = .ok (.getfield 17, 3) := by decide +kernel
theorem dX5_compared_43 : decode cX5_compared 43 = .ok (.aload_n 0, 1) := by decide +kernel
theorem dX5_compared_44 : decode cX5_compared 44 = .ok (.getfield 51, 3) := by decide +kernel
theorem dX5_compared_47 : decode cX5_compared 47 = .ok (.iconst 2, 1) := by decide +kernel
theorem dX5_compared_48 : decode cX5_compared 48 = .ok (.isub, 1) := by decide +kernel
theorem dX5_compared_49 : decode cX5_compared 49 = .ok (.iaload, 1) := by decide +kernel
theorem dX5_compared_50 : decode cX5_compared 50 = .ok (.isub, 1) := by decide +kernel
theorem dX5_compared_51 : decode cX5_compared 51 = .ok (.invokevirtual 81, 3) := by decide +kernel
theorem dX5_compared_54 : decode cX5_compared 54 = .ok (.lstore_n 2, 1) := by decide +kernel
theorem dX5_compared_55 : decode cX5_compared 55 = .ok (.aload_n 0, 1) := by decide +kernel
theorem dX5_compared_56 : decode cX5_compared 56 = .ok (.aload_n 0, 1) := by decide +kernel
theorem dX5_compared_57 : decode cX5_compared 57 = .ok (.getfield 13, 3) := by decide +kernel
theorem dX5_compared_60 : decode cX5_compared 60 = .ok (.aload_n 0, 1) := by decide +kernel
theorem dX5_compared_61 : decode cX5_compared 61 = .ok (.getfield 51, 3) := by decide +kernel
theorem dX5_compared_64 : decode cX5_compared 64 = .ok (.iconst 1, 1) := by decide +kernel
theorem dX5_compared_65 : decode cX5_compared 65 = .ok (.isub, 1) := by decide +kernel
theorem dX5_compared_66 : decode cX5_compared 66 = .ok (.laload, 1) := by decide +kernel
theorem dX5_compared_67 : decode cX5_compared 67 = .ok (.iload_n 1, 1) := by decide +kernel
theorem dX5_compared_68 : decode cX5_compared 68 = .ok (.aload_n 0, 1) := by decide +kernel
theorem dX5_compared_69 : decode cX5_compared 69 = .ok (.getfield 17, 3) := by decide +kernel
theorem dX5_compared_72 : decode cX5_compared 72 = .ok (.aload_n 0, 1) := by decide +kernel
theorem dX5_compared_73 : decode cX5_compared 73 = .ok (.getfield 51, 3) := by decide +kernel
theorem dX5_compared_76 : decode cX5_compared 76 = .ok (.iconst 1, 1) := by decide +kernel
theorem dX5_compared_77 : decode cX5_compared 77 = .ok (.isub, 1) := by decide +kernel
theorem dX5_compared_78 : decode cX5_compared 78 = .ok (.iaload, 1) := by decide +kernel
theorem dX5_compared_79 : decode cX5_compared 79 = .ok (.isub, 1) := by decide +kernel
theorem dX5_compared_80 : decode cX5_compared 80 = .ok (.invokevirtual 81, 3) := by decide +kernel
theorem dX5_compared_83 : decode cX5_compared 83 = .ok (.lstore 4, 2) := by decide +kernel
theorem dX5_compared_85 : decode cX5_compared 85 = .ok (.aload_n 0, 1) := by decide +kernel
theorem dX5_compared_86 : decode cX5_compared 86 = .ok (.lload_n 2, 1) := by decide +kernel
theorem dX5_compared_87 : decode cX5_compared 87 = .ok (.lload 4, 2) := by decide +kernel
theorem dX5_compared_89 : decode cX5_compared 89 = .ok (.lcmp, 1) := by decide +kernel
theorem dX5_compared_90 : decode cX5_compared 90 = .ok (.ifCond .le 7, 3) := by decide +kernel
theorem dX5_compared_93 : decode cX5_compared 93 = .ok (.lconst 1, 1) := by decide +kernel
theorem dX5_compared_94 : decode cX5_compared 94 = .ok (.goto 17, 3) := by decide +kernel
theorem dX5_compared_97 : decode cX5_compared 97 = .ok (.lload_n 2, 1) := by decide +kernel
theorem dX5_compared_98 : decode cX5_compared 98 = .ok (.lload 4, 2) := by decide +kernel
theorem dX5_compared_100 : decode cX5_compared 100 = .ok (.lcmp, 1) := by decide +kernel
theorem dX5_compared_101 : decode cX5_compared 101 = .ok (.ifCond .ge 9, 3) := by decide +kernel
theorem dX5_compared_104 : decode cX5_compared 104 = .ok (.ldc2_w 173, 3) := by decide +kernel
theorem dX5_compared_107 : decode cX5_compared 107 = .ok (.goto 4, 3) := by decide +kernel
theorem dX5_compared_110 : decode cX5_compared 110 = .ok (.lconst 0, 1) := by decide +kernel
theorem dX5_compared_111 : decode cX5_compared 111 = .ok (.putfield 85, 3) := by decide +kernel
theorem dX5_compared_114 : decode cX5_compared 114 = .ok (.aload_n 0, 1) := by decide +kernel
theorem dX5_compared_115 : decode cX5_compared 115 = .ok (.getfield 48, 3) := by decide +kernel
theorem dX5_compared_118 : decode cX5_compared 118 = .ok (.ifCond .ne 7, 3) := by decide +kernel
theorem dX5_compared_121 : decode cX5_compared 121 = .ok (.iconst 1, 1) := by decide +kernel
theorem dX5_compared_122 : decode cX5_compared 122 = .ok (.goto 4, 3) := by decide +kernel
theorem dX5_compared_125 : decode cX5_compared 125 = .ok (.iconst 0, 1) := by decide +kernel
theorem dX5_compared_126 : decode cX5_compared 126 = .ok (.ireturn, 1) := by decide +kernel
set_option maxRecDepth 20000 in
theorem ggX5_runs_X5_have : GoodIn wsX5_runs wsX5_have := goodIn_r _ [7, 2, 8, 9, 10, 6, 11, 12, 35, 36, 37, 38, 39, 40, 41, 42, 43, 44, 45, 46, 47, 48, 49, 50, 51, 52, 53, 54, 55] (by decide +kernel) (by decide +kernel)
set_option maxRecDepth 20000 in
theorem gX5_runs_X5_have : GoodIn wsX5_runs (wsV RX5 58 RX5 yX5_have wsX5_have) := goodIn_app (goodIn_of _ (by decide +kernel)) ggX5_runs_X5_have
set_option maxRecDepth 20000 in
theorem ggX5_runs_X5_mayRun : GoodIn wsX5_runs wsX5_mayRun := goodIn_r _ [16, 17, 18, 19, 20, 6, 21, 22, 23, 24, 25, 26, 27, 8, 9, 10, 11, 12, 35, 36, 37, 38, 39, 40, 41, 42, 43, 44, 45, 46, 47, 48, 49, 50, 51, 52, 53, 54, 55] (by decide +kernel) (by decide +kernel)
set_option maxRecDepth 20000 in
theorem gX5_runs_X5_mayRun : GoodIn wsX5_runs (wsV RX5 167 RX5 yX5_mayRun wsX5_mayRun) := goodIn_app (goodIn_of _ (by decide +kernel)) ggX5_runs_X5_mayRun
set_option maxRecDepth 20000 in
theorem ggX5_runs_X5_begin : GoodIn wsX5_runs wsX5_begin := goodIn_r _ [31, 32, 17, 22, 33, 23, 34, 18, 19, 20, 6, 21, 24, 25, 26, 27, 35, 36, 37, 38, 39, 40, 41, 42, 43, 44, 45, 46, 47, 48, 49, 50, 51, 52, 53, 54, 55] (by decide +kernel) (by decide +kernel)
set_option maxRecDepth 20000 in
theorem gX5_runs_X5_begin : GoodIn wsX5_runs (wsV RX5 170 RX5 yX5_begin wsX5_begin) := goodIn_app (goodIn_of _ (by decide +kernel)) ggX5_runs_X5_begin
theorem dX5_runs_0 : decode cX5_runs 0 = .ok (.aload_n 0, 1) := by decide +kernel
theorem dX5_runs_1 : decode cX5_runs 1 = .ok (.iconst 1, 1) := by decide +kernel
theorem dX5_runs_2 : decode cX5_runs 2 = .ok (.invokevirtual 58, 3) := by decide +kernel
theorem dX5_runs_5 : decode cX5_runs 5 = .ok (.ifCond .ne 5, 3) := by decide +kernel
theorem dX5_runs_8 : decode cX5_runs 8 = .ok (.iconst 0, 1) := by decide +kernel
theorem dX5_runs_9 : decode cX5_runs 9 = .ok (.ireturn, 1) := by decide +kernel
theorem dX5_runs_10 : decode cX5_runs 10 = .ok (.aload_n 0, 1) := by decide +kernel
theorem dX5_runs_11 : decode cX5_runs 11 = .ok (.getfield 17, 3) := by decide +kernel
theorem dX5_runs_14 : decode cX5_runs 14 = .ok (.aload_n 0, 1) := by decide +kernel
theorem dX5_runs_15 : decode cX5_runs 15 = .ok (.getfield 51, 3) := by decide +kernel
theorem dX5_runs_18 : decode cX5_runs 18 = .ok (.iconst 1, 1) := by decide +kernel
theorem dX5_runs_19 : decode cX5_runs 19 = .ok (.isub, 1) := by decide +kernel
theorem dX5_runs_20 : decode cX5_runs 20 = .ok (.iaload, 1) := by decide +kernel
theorem dX5_runs_21 : decode cX5_runs 21 = .ok (.ifCond .lt 5, 3) := by decide +kernel
theorem dX5_runs_24 : decode cX5_runs 24 = .ok (.iconst 1, 1) := by decide +kernel
theorem dX5_runs_25 : decode cX5_runs 25 = .ok (.ireturn, 1) := by decide +kernel
theorem dX5_runs_26 : decode cX5_runs 26 = .ok (.aload_n 0, 1) := by decide +kernel
theorem dX5_runs_27 : decode cX5_runs 27 = .ok (.iload_n 1, 1) := by decide +kernel
theorem dX5_runs_28 : decode cX5_runs 28 = .ok (.invokevirtual 167, 3) := by decide +kernel
theorem dX5_runs_31 : decode cX5_runs 31 = .ok (.ifCond .ne 5, 3) := by decide +kernel
theorem dX5_runs_34 : decode cX5_runs 34 = .ok (.iconst 0, 1) := by decide +kernel
theorem dX5_runs_35 : decode cX5_runs 35 = .ok (.ireturn, 1) := by decide +kernel
theorem dX5_runs_36 : decode cX5_runs 36 = .ok (.aload_n 0, 1) := by decide +kernel
theorem dX5_runs_37 : decode cX5_runs 37 = .ok (.dup, 1) := by decide +kernel
theorem dX5_runs_38 : decode cX5_runs 38 = .ok (.getfield 51, 3) := by decide +kernel
theorem dX5_runs_41 : decode cX5_runs 41 = .ok (.iconst 1, 1) := by decide +kernel
theorem dX5_runs_42 : decode cX5_runs 42 = .ok (.isub, 1) := by decide +kernel
theorem dX5_runs_43 : decode cX5_runs 43 = .ok (.putfield 51, 3) := by decide +kernel
theorem dX5_runs_46 : decode cX5_runs 46 = .ok (.aload_n 0, 1) := by decide +kernel
theorem dX5_runs_47 : decode cX5_runs 47 = .ok (.aload_n 0, 1) := by decide +kernel
theorem dX5_runs_48 : decode cX5_runs 48 = .ok (.getfield 51, 3) := by decide +kernel
theorem dX5_runs_51 : decode cX5_runs 51 = .ok (.iload_n 1, 1) := by decide +kernel
theorem dX5_runs_52 : decode cX5_runs 52 = .ok (.invokevirtual 170, 3) := by decide +kernel
theorem dX5_runs_55 : decode cX5_runs 55 = .ok (.iconst 1, 1) := by decide +kernel
theorem dX5_runs_56 : decode cX5_runs 56 = .ok (.ireturn, 1) := by decide +kernel
theorem dX5_isOne_0 : decode cX5_isOne 0 = .ok (.iload_n 0, 1) := by decide +kernel
theorem dX5_isOne_1 : decode cX5_isOne 1 = .ok (.iload_n 1, 1) := by decide +kernel
theorem dX5_isOne_2 : decode cX5_isOne 2 = .ok (.if_icmp .eq 19, 3) := by decide +kernel
theorem dX5_isOne_5 : decode cX5_isOne 5 = .ok (.iload_n 0, 1) := by decide +kernel
theorem dX5_isOne_6 : decode cX5_isOne 6 = .ok (.iload_n 2, 1) := by decide +kernel
theorem dX5_isOne_7 : decode cX5_isOne 7 = .ok (.if_icmp .eq 14, 3) := by decide +kernel
theorem dX5_isOne_10 : decode cX5_isOne 10 = .ok (.iload_n 0, 1) := by decide +kernel
theorem dX5_isOne_11 : decode cX5_isOne 11 = .ok (.iload_n 3, 1) := by decide +kernel
theorem dX5_isOne_12 : decode cX5_isOne 12 = .ok (.if_icmp .eq 9, 3) := by decide +kernel
theorem dX5_isOne_15 : decode cX5_isOne 15 = .ok (.iload_n 0, 1) := by decide +kernel
theorem dX5_isOne_16 : decode cX5_isOne 16 = .ok (.iload 4, 2) := by decide +kernel
theorem dX5_isOne_18 : decode cX5_isOne 18 = .ok (.if_icmp .ne 7, 3) := by decide +kernel
theorem dX5_isOne_21 : decode cX5_isOne 21 = .ok (.iconst 1, 1) := by decide +kernel
theorem dX5_isOne_22 : decode cX5_isOne 22 = .ok (.goto 4, 3) := by decide +kernel
theorem dX5_isOne_25 : decode cX5_isOne 25 = .ok (.iconst 0, 1) := by decide +kernel
theorem dX5_isOne_26 : decode cX5_isOne 26 = .ok (.ireturn, 1) := by decide +kernel
set_option maxRecDepth 20000 in
theorem ggX5_command_X5_charAt : GoodIn wsX5_command wsX5_charAt := goodIn_r _ [12, 13, 14, 158, 159, 160, 161, 162, 163, 164, 165, 166, 167, 168, 169, 170, 171, 172, 173, 174, 175, 176, 177, 178] (by decide +kernel) (by decide +kernel)
set_option maxRecDepth 20000 in
theorem gX5_command_X5_charAt : GoodIn wsX5_command (wsV RX5 120 RX5 yX5_charAt wsX5_charAt) := goodIn_app (goodIn_of _ (by decide +kernel)) ggX5_command_X5_charAt
set_option maxRecDepth 20000 in
theorem ggX5_command_X5_within : GoodIn wsX5_command wsX5_within := goodIn_r _ [17] (by decide +kernel) (by decide +kernel)
set_option maxRecDepth 20000 in
theorem gX5_command_X5_within : GoodIn wsX5_command (va_wsS RX5 127 yX5_within wsX5_within) := goodIn_app (goodIn_of _ (by decide +kernel)) ggX5_command_X5_within
set_option maxRecDepth 20000 in
theorem ggX5_command_X5_digits : GoodIn wsX5_command wsX5_digits := goodIn_r _ [21, 1, 2, 3, 22, 6, 8, 9, 10, 11, 12, 13, 14, 15, 16, 17, 23, 24, 25, 26, 27, 28, 29, 30, 31, 32, 33, 34, 35, 36, 37, 38, 158, 159, 160, 161, 162, 163, 164, 165, 166, 167, 168, 169, 170, 171, 172, 173, 174, 175, 176, 177, 178] (by decide +kernel) (by decide +kernel)
set_option maxRecDepth 20000 in
theorem gX5_command_X5_digits : GoodIn wsX5_command (wsV RX5 175 RX5 yX5_digits wsX5_digits) := goodIn_app (goodIn_of _ (by decide +kernel)) ggX5_command_X5_digits
set_option maxRecDepth 20000 in
theorem ggX5_command_X5_brackets : GoodIn wsX5_command wsX5_brackets := goodIn_r _ [42, 1, 13, 14, 43, 32, 6, 23, 24, 25, 11, 26, 27, 28, 29, 30, 31, 33, 34, 35, 36, 37, 38, 158, 159, 160, 161, 162, 163, 164, 165, 166, 167, 168, 169, 170, 171, 172, 173, 174, 175, 176, 177, 178] (by decide +kernel) (by decide +kernel)
set_option maxRecDepth 20000 in
theorem gX5_command_X5_brackets : GoodIn wsX5_command (wsV RX5 178 RX5 yX5_brackets wsX5_brackets) := goodIn_app (goodIn_of _ (by decide +kernel)) ggX5_command_X5_brackets
set_option maxRecDepth 20000 in
theorem ggX5_command_X5_isOne : GoodIn wsX5_command wsX5_isOne := goodIn_r _ [46] (by decide +kernel) (by decide +kernel)
set_option maxRecDepth 20000 in
theorem gX5_command_X5_isOne : GoodIn wsX5_command (va_wsS RX5 181 yX5_isOne wsX5_isOne) := goodIn_app (goodIn_of _ (by decide +kernel)) ggX5_command_X5_isOne
set_option maxRecDepth 20000 in
theorem ggX5_command_X5_fail : GoodIn wsX5_command wsX5_fail := goodIn_r _ [26, 27, 158, 159, 160, 161, 162, 163, 164, 165, 166, 167, 168, 169, 170, 171, 172, 173, 174, 175, 176, 177, 178] (by decide +kernel) (by decide +kernel)
set_option maxRecDepth 20000 in
theorem gX5_command_X5_fail : GoodIn wsX5_command (wsV RX5 54 RX5 yX5_fail wsX5_fail) := goodIn_app (goodIn_of _ (by decide +kernel)) ggX5_command_X5_fail
set_option maxRecDepth 20000 in
theorem ggX5_command_X5_register : GoodIn wsX5_command wsX5_register := goodIn_r _ [49] (by decide +kernel) (by decide +kernel)
set_option maxRecDepth 20000 in
theorem gX5_command_X5_register : GoodIn wsX5_command (va_wsS RX5 189 yX5_register wsX5_register) := goodIn_app (goodIn_of _ (by decide +kernel)) ggX5_command_X5_register
set_option maxRecDepth 20000 in
theorem ggX5_command_X5_stores : GoodIn wsX5_command wsX5_stores := goodIn_r _ [53, 54, 32, 55, 56, 57, 11, 58, 23, 24, 25, 26, 27, 59, 60, 61, 62, 63, 64, 65, 66, 37, 38, 43, 28, 29, 30, 31, 158, 159, 160, 161, 162, 163, 164, 165, 166, 167, 168, 169, 170, 171, 172, 173, 174, 175, 176, 177, 178] (by decide +kernel) (by decide +kernel)
set_option maxRecDepth 20000 in
theorem gX5_command_X5_stores : GoodIn wsX5_command (wsV RX5 192 RX5 yX5_stores wsX5_stores) := goodIn_app (goodIn_of _ (by decide +kernel)) ggX5_command_X5_stores
set_option maxRecDepth 20000 in
theorem ggX5_command_X5_tests : GoodIn wsX5_command wsX5_tests := goodIn_r _ [70, 71, 32, 54, 38, 72, 73, 74, 11, 75, 55, 56, 57, 58, 23, 24, 25, 26, 27, 76, 77, 78, 79, 37, 80, 81, 82, 83, 84, 85, 86, 87, 88, 89, 22, 59, 60, 61, 62, 90, 91, 92, 93, 1, 94, 95, 96, 97, 13, 14, 98, 99, 100, 101, 102, 103, 104, 105, 6, 43, 158, 159, 160, 161, 162, 163, 164, 165, 166, 167, 168, 169, 170, 171, 172, 173, 174, 175, 176, 177, 178] (by decide +kernel) (by decide +kernel)
set_option maxRecDepth 20000 in
theorem gX5_command_X5_tests : GoodIn wsX5_command (wsV RX5 196 RX5 yX5_tests wsX5_tests) := goodIn_app (goodIn_of _ (by decide +kernel)) ggX5_command_X5_tests
set_option maxRecDepth 20000 in
theorem ggX5_command_X5_runs : GoodIn wsX5_command wsX5_runs := goodIn_r _ [109, 38, 32, 55, 56, 57, 11, 58, 23, 24, 25, 26, 27, 90, 91, 92, 93, 1, 94, 95, 96, 97, 13, 14, 98, 99, 100, 101, 102, 103, 104, 105, 6, 37, 43, 158, 159, 160, 161, 162, 163, 164, 165, 166, 167, 168, 169, 170, 171, 172, 173, 174, 175, 176, 177, 178] (by decide +kernel) (by decide +kernel)
set_option maxRecDepth 20000 in
theorem gX5_command_X5_runs : GoodIn wsX5_command (wsV RX5 200 RX5 yX5_runs wsX5_runs) := goodIn_app (goodIn_of _ (by decide +kernel)) ggX5_command_X5_runs
set_option maxRecDepth 20000 in
theorem ggX5_command_X5_calculates : GoodIn wsX5_command wsX5_calculates := goodIn_r _ [113, 37, 32, 38, 114, 115, 71, 116, 117, 118, 119, 11, 120, 27, 72, 73, 74, 75, 55, 56, 57, 58, 23, 24, 25, 26, 81, 82, 83, 84, 85, 86, 87, 88, 89, 22, 121, 122, 123, 124, 125, 126, 127, 128, 129, 130, 131, 132, 133, 134, 135, 136, 137, 138, 139, 140, 141, 142, 143, 144, 145, 146, 147, 148, 149, 150, 33, 34, 35, 36, 15, 16, 17, 158, 159, 160, 161, 162, 163, 164, 165, 166, 167, 168, 169, 170, 171, 172, 173, 174, 175, 176, 177, 178] (by decide +kernel) (by decide +kernel)
set_option maxRecDepth 20000 in
theorem gX5_command_X5_calculates : GoodIn wsX5_command (wsV RX5 207 RX5 yX5_calculates wsX5_calculates) := goodIn_app (goodIn_of _ (by decide +kernel)) ggX5_command_X5_calculates
set_option maxRecDepth 20000 in
theorem ggX5_command_X5_moves : GoodIn wsX5_command wsX5_moves := goodIn_r _ [154, 32, 115, 155, 156, 37, 157, 38, 28, 29, 30, 11, 31, 23, 24, 25, 26, 27, 33, 34, 35, 36, 55, 56, 57, 58, 63, 64, 65, 66, 43, 158, 159, 160, 161, 162, 163, 164, 165, 166, 167, 168, 169, 170, 171, 172, 173, 174, 175, 176, 177, 178] (by decide +kernel) (by decide +kernel)
set_option maxRecDepth 20000 in
theorem gX5_command_X5_moves : GoodIn wsX5_command (wsV RX5 210 RX5 yX5_moves wsX5_moves) := goodIn_app (goodIn_of _ (by decide +kernel)) ggX5_command_X5_moves
theorem dX5_command_0 : decode cX5_command 0 = .ok (.aload_n 0, 1) := by decide +kernel
theorem dX5_command_1 : decode cX5_command 1 = .ok (.getfield 111, 3) := by decide +kernel
theorem dX5_command_4 : decode cX5_command 4 = .ok (.iconst 1, 1) := by decide +kernel
theorem dX5_command_5 : decode cX5_command 5 = .ok (.isub, 1) := by decide +kernel
theorem dX5_command_6 : decode cX5_command 6 = .ok (.istore_n 2, 1) := by decide +kernel
theorem dX5_command_7 : decode cX5_command 7 = .ok (.aload_n 0, 1) := by decide +kernel
theorem dX5_command_8 : decode cX5_command 8 = .ok (.iload_n 2, 1) := by decide +kernel
theorem dX5_command_9 : decode cX5_command 9 = .ok (.iload_n 1, 1) := by decide +kernel
theorem dX5_command_10 : decode cX5_command 10 = .ok (.invokevirtual 120, 3) := by decide +kernel
theorem dX5_command_13 : decode cX5_command 13 = .ok (.istore_n 3, 1) := by decide +kernel
theorem dX5_command_14 : decode cX5_command 14 = .ok (.aload_n 0, 1) := by decide +kernel
theorem dX5_command_15 : decode cX5_command 15 = .ok (.iload_n 2, 1) := by decide +kernel
theorem dX5_command_16 : decode cX5_command 16 = .ok (.iload_n 1, 1) := by decide +kernel
theorem dX5_command_17 : decode cX5_command 17 = .ok (.iconst 1, 1) := by decide +kernel
theorem dX5_command_18 : decode cX5_command 18 = .ok (.iadd, 1) := by decide +kernel
theorem dX5_command_19 : decode cX5_command 19 = .ok (.invokevirtual 120, 3) := by decide +kernel
theorem dX5_command_22 : decode cX5_command 22 = .ok (.istore 4, 2) := by decide +kernel
theorem dX5_command_24 : decode cX5_command 24 = .ok (.iload_n 3, 1) := by decide +kernel
theorem dX5_command_25 : decode cX5_command 25 = .ok (.i2l, 1) := by decide +kernel
theorem dX5_command_26 : decode cX5_command 26 = .ok (.ldc2_w 123, 3) := by decide +kernel
theorem dX5_command_29 : decode cX5_command 29 = .ok (.ldc2_w 125, 3) := by decide +kernel
theorem dX5_command_32 : decode cX5_command 32 = .ok (.invokestatic 127, 3) := by decide +kernel
theorem dX5_command_35 : decode cX5_command 35 = .ok (.ifCond .ne 15, 3) := by decide +kernel
theorem dX5_command_38 : decode cX5_command 38 = .ok (.iload_n 3, 1) := by decide +kernel
theorem dX5_command_39 : decode cX5_command 39 = .ok (.bipush 95, 2) := by decide +kernel
theorem dX5_command_41 : decode cX5_command 41 = .ok (.if_icmp .eq 9, 3) := by decide +kernel
theorem dX5_command_44 : decode cX5_command 44 = .ok (.iload_n 3, 1) := by decide +kernel
theorem dX5_command_45 : decode cX5_command 45 = .ok (.bipush 46, 2) := by decide +kernel
theorem dX5_command_47 : decode cX5_command 47 = .ok (.if_icmp .ne 9, 3) := by decide +kernel
theorem dX5_command_50 : decode cX5_command 50 = .ok (.aload_n 0, 1) := by decide +kernel
theorem dX5_command_51 : decode cX5_command 51 = .ok (.iload_n 1, 1) := by decide +kernel
theorem dX5_command_52 : decode cX5_command 52 = .ok (.invokevirtual 175, 3) := by decide +kernel
theorem dX5_command_55 : decode cX5_command 55 = .ok (.ireturn, 1) := by decide +kernel
theorem dX5_command_56 : decode cX5_command 56 = .ok (.iload_n 3, 1) := by decide +kernel
theorem dX5_command_57 : decode cX5_command 57 = .ok (.bipush 91, 2) := by decide +kernel
theorem dX5_command_59 : decode cX5_command 59 = .ok (.if_icmp .ne 9, 3) := by decide +kernel
theorem dX5_command_62 : decode cX5_command 62 = .ok (.aload_n 0, 1) := by decide +kernel
theorem dX5_command_63 : decode cX5_command 63 = .ok (.iload_n 1, 1) := by decide +kernel
theorem dX5_command_64 : decode cX5_command 64 = .ok (.invokevirtual 178, 3) := by decide +kernel
theorem dX5_command_67 : decode cX5_command 67 = .ok (.ireturn, 1) := by decide +kernel
theorem dX5_command_68 : decode cX5_command 68 = .ok (.iload_n 3, 1) := by decide +kernel
theorem dX5_command_69 : decode cX5_command 69 = .ok (.bipush 115, 2) := by decide +kernel
theorem dX5_command_71 : decode cX5_command 71 = .ok (.bipush 108, 2) := by decide +kernel
theorem dX5_command_73 : decode cX5_command 73 = .ok (.bipush 83, 2) := by decide +kernel
theorem dX5_command_75 : decode cX5_command 75 = .ok (.bipush 76, 2) := by decide +kernel
theorem dX5_command_77 : decode cX5_command 77 = .ok (.invokestatic 181, 3) := by decide +kernel
theorem dX5_command_80 : decode cX5_command 80 = .ok (.ifCond .ne 18, 3) := by decide +kernel
theorem dX5_command_83 : decode cX5_command 83 = .ok (.iload_n 3, 1) := by decide +kernel
theorem dX5_command_84 : decode cX5_command 84 = .ok (.bipush 60, 2) := by decide +kernel
theorem dX5_command_86 : decode cX5_command 86 = .ok (.bipush 62, 2) := by decide +kernel
theorem dX5_command_88 : decode cX5_command 88 = .ok (.bipush 61, 2) := by decide +kernel
theorem dX5_command_90 : decode cX5_command 90 = .ok (.bipush 60, 2) := by decide +kernel
theorem dX5_command_92 : decode cX5_command 92 = .ok (.invokestatic 181, 3) := by decide +kernel
theorem dX5_command_95 : decode cX5_command 95 = .ok (.ifCond .eq 7, 3) := by decide +kernel
theorem dX5_command_98 : decode cX5_command 98 = .ok (.iconst 1, 1) := by decide +kernel
theorem dX5_command_99 : decode cX5_command 99 = .ok (.goto 4, 3) := by decide +kernel
theorem dX5_command_102 : decode cX5_command 102 = .ok (.iconst 0, 1) := by decide +kernel
theorem dX5_command_103 : decode cX5_command 103 = .ok (.istore 5, 2) := by decide +kernel
theorem dX5_command_105 : decode cX5_command 105 = .ok (.iload 5, 2) := by decide +kernel
theorem dX5_command_107 : decode cX5_command 107 = .ok (.ifCond .eq 24, 3) := by decide +kernel
theorem dX5_command_110 : decode cX5_command 110 = .ok (.iload 4, 2) := by decide +kernel
theorem dX5_command_112 : decode cX5_command 112 = .ok (.i2l, 1) := by decide +kernel
theorem dX5_command_113 : decode cX5_command 113 = .ok (.ldc2_w 185, 3) := by decide +kernel
