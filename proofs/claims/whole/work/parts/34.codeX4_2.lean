theorem dX4_putWrittenNumber_52 : decode cX4_putWrittenNumber 52 = .ok (.getfield 28, 3) := by decide +kernel
theorem dX4_putWrittenNumber_55 : decode cX4_putWrittenNumber 55 = .ok (.invokevirtual 80, 3) := by decide +kernel
theorem dX4_putWrittenNumber_58 : decode cX4_putWrittenNumber 58 = .ok (.istore 8, 2) := by decide +kernel
theorem dX4_putWrittenNumber_60 : decode cX4_putWrittenNumber 60 = .ok (.iload 8, 2) := by decide +kernel
theorem dX4_putWrittenNumber_62 : decode cX4_putWrittenNumber 62 = .ok (.invokestatic 142, 3) := by decide +kernel
theorem dX4_putWrittenNumber_65 : decode cX4_putWrittenNumber 65 = .ok (.ifCond .eq 48, 3) := by decide +kernel
theorem dX4_putWrittenNumber_68 : decode cX4_putWrittenNumber 68 = .ok (.iinc 4 1, 3) := by decide +kernel
theorem dX4_putWrittenNumber_71 : decode cX4_putWrittenNumber 71 = .ok (.iload 5, 2) := by decide +kernel
theorem dX4_putWrittenNumber_73 : decode cX4_putWrittenNumber 73 = .ok (.iload 6, 2) := by decide +kernel
theorem dX4_putWrittenNumber_75 : decode cX4_putWrittenNumber 75 = .ok (.ifCond .eq 7, 3) := by decide +kernel
theorem dX4_putWrittenNumber_78 : decode cX4_putWrittenNumber 78 = .ok (.iconst 1, 1) := by decide +kernel
theorem dX4_putWrittenNumber_79 : decode cX4_putWrittenNumber 79 = .ok (.goto 4, 3) := by decide +kernel
theorem dX4_putWrittenNumber_82 : decode cX4_putWrittenNumber 82 = .ok (.iconst 0, 1) := by decide +kernel
theorem dX4_putWrittenNumber_83 : decode cX4_putWrittenNumber 83 = .ok (.iadd, 1) := by decide +kernel
theorem dX4_putWrittenNumber_84 : decode cX4_putWrittenNumber 84 = .ok (.istore 5, 2) := by decide +kernel
theorem dX4_putWrittenNumber_86 : decode cX4_putWrittenNumber 86 = .ok (.iload 4, 2) := by decide +kernel
theorem dX4_putWrittenNumber_88 : decode cX4_putWrittenNumber 88 = .ok (.bipush 18, 2) := by decide +kernel
theorem dX4_putWrittenNumber_90 : decode cX4_putWrittenNumber 90 = .ok (.if_icmp .le 7, 3) := by decide +kernel
theorem dX4_putWrittenNumber_93 : decode cX4_putWrittenNumber 93 = .ok (.lload_n 2, 1) := by decide +kernel
theorem dX4_putWrittenNumber_94 : decode cX4_putWrittenNumber 94 = .ok (.goto 15, 3) := by decide +kernel
theorem dX4_putWrittenNumber_97 : decode cX4_putWrittenNumber 97 = .ok (.lload_n 2, 1) := by decide +kernel
theorem dX4_putWrittenNumber_98 : decode cX4_putWrittenNumber 98 = .ok (.ldc2_w 145, 3) := by decide +kernel
theorem dX4_putWrittenNumber_101 : decode cX4_putWrittenNumber 101 = .ok (.lmul, 1) := by decide +kernel
theorem dX4_putWrittenNumber_102 : decode cX4_putWrittenNumber 102 = .ok (.iload 8, 2) := by decide +kernel
theorem dX4_putWrittenNumber_104 : decode cX4_putWrittenNumber 104 = .ok (.bipush 48, 2) := by decide +kernel
theorem dX4_putWrittenNumber_106 : decode cX4_putWrittenNumber 106 = .ok (.isub, 1) := by decide +kernel
theorem dX4_putWrittenNumber_107 : decode cX4_putWrittenNumber 107 = .ok (.i2l, 1) := by decide +kernel
theorem dX4_putWrittenNumber_108 : decode cX4_putWrittenNumber 108 = .ok (.ladd, 1) := by decide +kernel
theorem dX4_putWrittenNumber_109 : decode cX4_putWrittenNumber 109 = .ok (.lstore_n 2, 1) := by decide +kernel
theorem dX4_putWrittenNumber_110 : decode cX4_putWrittenNumber 110 = .ok (.goto 18, 3) := by decide +kernel
theorem dX4_putWrittenNumber_113 : decode cX4_putWrittenNumber 113 = .ok (.iload 8, 2) := by decide +kernel
theorem dX4_putWrittenNumber_115 : decode cX4_putWrittenNumber 115 = .ok (.bipush 46, 2) := by decide +kernel
theorem dX4_putWrittenNumber_117 : decode cX4_putWrittenNumber 117 = .ok (.if_icmp .ne 24, 3) := by decide +kernel
theorem dX4_putWrittenNumber_120 : decode cX4_putWrittenNumber 120 = .ok (.iload 6, 2) := by decide +kernel
theorem dX4_putWrittenNumber_122 : decode cX4_putWrittenNumber 122 = .ok (.ifCond .ne 19, 3) := by decide +kernel
theorem dX4_putWrittenNumber_125 : decode cX4_putWrittenNumber 125 = .ok (.iconst 1, 1) := by decide +kernel
theorem dX4_putWrittenNumber_126 : decode cX4_putWrittenNumber 126 = .ok (.istore 6, 2) := by decide +kernel
theorem dX4_putWrittenNumber_128 : decode cX4_putWrittenNumber 128 = .ok (.aload_n 0, 1) := by decide +kernel
theorem dX4_putWrittenNumber_129 : decode cX4_putWrittenNumber 129 = .ok (.getfield 28, 3) := by decide +kernel
theorem dX4_putWrittenNumber_132 : decode cX4_putWrittenNumber 132 = .ok (.invokevirtual 118, 3) := by decide +kernel
theorem dX4_putWrittenNumber_135 : decode cX4_putWrittenNumber 135 = .ok (.iinc 7 1, 3) := by decide +kernel
theorem dX4_putWrittenNumber_138 : decode cX4_putWrittenNumber 138 = .ok (.goto (-95), 3) := by decide +kernel
theorem dX4_putWrittenNumber_141 : decode cX4_putWrittenNumber 141 = .ok (.iload 4, 2) := by decide +kernel
theorem dX4_putWrittenNumber_143 : decode cX4_putWrittenNumber 143 = .ok (.ifCond .eq 17, 3) := by decide +kernel
theorem dX4_putWrittenNumber_146 : decode cX4_putWrittenNumber 146 = .ok (.iload 4, 2) := by decide +kernel
theorem dX4_putWrittenNumber_148 : decode cX4_putWrittenNumber 148 = .ok (.bipush 18, 2) := by decide +kernel
theorem dX4_putWrittenNumber_150 : decode cX4_putWrittenNumber 150 = .ok (.if_icmp .gt 10, 3) := by decide +kernel
theorem dX4_putWrittenNumber_153 : decode cX4_putWrittenNumber 153 = .ok (.iload 5, 2) := by decide +kernel
theorem dX4_putWrittenNumber_155 : decode cX4_putWrittenNumber 155 = .ok (.bipush 9, 2) := by decide +kernel
theorem dX4_putWrittenNumber_157 : decode cX4_putWrittenNumber 157 = .ok (.if_icmp .le 13, 3) := by decide +kernel
theorem dX4_putWrittenNumber_160 : decode cX4_putWrittenNumber 160 = .ok (.new 56, 3) := by decide +kernel
theorem dX4_putWrittenNumber_163 : decode cX4_putWrittenNumber 163 = .ok (.dup, 1) := by decide +kernel
theorem dX4_putWrittenNumber_164 : decode cX4_putWrittenNumber 164 = .ok (.ldc 147, 2) := by decide +kernel
theorem dX4_putWrittenNumber_166 : decode cX4_putWrittenNumber 166 = .ok (.invokespecial 60, 3) := by decide +kernel
theorem dX4_putWrittenNumber_169 : decode cX4_putWrittenNumber 169 = .ok (.athrow, 1) := by decide +kernel
theorem dX4_putWrittenNumber_170 : decode cX4_putWrittenNumber 170 = .ok (.aload_n 0, 1) := by decide +kernel
theorem dX4_putWrittenNumber_171 : decode cX4_putWrittenNumber 171 = .ok (.getfield 14, 3) := by decide +kernel
theorem dX4_putWrittenNumber_174 : decode cX4_putWrittenNumber 174 = .ok (.iload_n 1, 1) := by decide +kernel
theorem dX4_putWrittenNumber_175 : decode cX4_putWrittenNumber 175 = .ok (.ifCond .eq 8, 3) := by decide +kernel
theorem dX4_putWrittenNumber_178 : decode cX4_putWrittenNumber 178 = .ok (.lload_n 2, 1) := by decide +kernel
theorem dX4_putWrittenNumber_179 : decode cX4_putWrittenNumber 179 = .ok (.lneg, 1) := by decide +kernel
theorem dX4_putWrittenNumber_180 : decode cX4_putWrittenNumber 180 = .ok (.goto 4, 3) := by decide +kernel
theorem dX4_putWrittenNumber_183 : decode cX4_putWrittenNumber 183 = .ok (.lload_n 2, 1) := by decide +kernel
theorem dX4_putWrittenNumber_184 : decode cX4_putWrittenNumber 184 = .ok (.iload 5, 2) := by decide +kernel
theorem dX4_putWrittenNumber_186 : decode cX4_putWrittenNumber 186 = .ok (.invokevirtual 149, 3) := by decide +kernel
theorem dX4_putWrittenNumber_189 : decode cX4_putWrittenNumber 189 = .ok (.return_, 1) := by decide +kernel
set_option maxRecDepth 20000 in
theorem ggX4_putWrittenText_X1_innermostRow : GoodIn wsX4_putWrittenText wsX1_innermostRow := goodIn_r _ [9, 10, 11, 12, 13, 14, 8, 15, 72, 73, 74, 75] (by decide +kernel) (by decide +kernel)
set_option maxRecDepth 20000 in
theorem gX4_putWrittenText_X1_innermostRow : GoodIn wsX4_putWrittenText (wsV RX4 153 RX1 yX1_innermostRow wsX1_innermostRow) := goodIn_app (goodIn_of _ (by decide +kernel)) ggX4_putWrittenText_X1_innermostRow
set_option maxRecDepth 20000 in
theorem ggX4_putWrittenText_X1_position : GoodIn wsX4_putWrittenText wsX1_position := goodIn_r _ [19, 20, 11, 12, 13, 14, 8, 15, 10, 72, 73, 74, 75] (by decide +kernel) (by decide +kernel)
set_option maxRecDepth 20000 in
theorem gX4_putWrittenText_X1_position : GoodIn wsX4_putWrittenText (wsV RX4 157 RX1 yX1_position wsX1_position) := goodIn_app (goodIn_of _ (by decide +kernel)) ggX4_putWrittenText_X1_position
set_option maxRecDepth 20000 in
theorem ggX4_putWrittenText_X1_look : GoodIn wsX4_putWrittenText wsX1_look := goodIn_r _ [24, 20, 11, 25, 10, 12, 13, 14, 8, 15, 26, 27, 28, 29, 30, 31, 32, 72, 73, 74, 75, 76, 77] (by decide +kernel) (by decide +kernel)
set_option maxRecDepth 20000 in
theorem gX4_putWrittenText_X1_look : GoodIn wsX4_putWrittenText (wsV RX4 80 RX1 yX1_look wsX1_look) := goodIn_app (goodIn_of _ (by decide +kernel)) ggX4_putWrittenText_X1_look
set_option maxRecDepth 20000 in
theorem ggX4_putWrittenText_X1_pass : GoodIn wsX4_putWrittenText wsX1_pass := goodIn_r _ [36, 20, 11, 12, 13, 14, 8, 15, 10, 72, 73, 74, 75] (by decide +kernel) (by decide +kernel)
set_option maxRecDepth 20000 in
theorem gX4_putWrittenText_X1_pass : GoodIn wsX4_putWrittenText (wsV RX4 118 RX1 yX1_pass wsX1_pass) := goodIn_app (goodIn_of _ (by decide +kernel)) ggX4_putWrittenText_X1_pass
set_option maxRecDepth 20000 in
theorem ggX4_putWrittenText_X3_putText : GoodIn wsX4_putWrittenText wsX3_putText := goodIn_ca (goodIn_r _ [41, 42, 43, 44, 40, 45, 46, 47, 48, 49, 50, 51, 52, 53, 54, 55, 56, 57, 58, 59, 60, 61, 62, 63, 64, 78, 79, 80, 81, 82] (by decide +kernel) (by decide +kernel)) (goodIn_sub (fun _ h => List.mem_cons_of_mem _ (List.mem_append_right _ h)) (by decide +kernel))
set_option maxRecDepth 20000 in
theorem gX4_putWrittenText_X3_putText : GoodIn wsX4_putWrittenText (wsV RX4 162 RX3 yX3_putText wsX3_putText) := goodIn_app (goodIn_of _ (by decide +kernel)) ggX4_putWrittenText_X3_putText
theorem dX4_putWrittenText_0 : decode cX4_putWrittenText 0 = .ok (.aload_n 0, 1) := by decide +kernel
theorem dX4_putWrittenText_1 : decode cX4_putWrittenText 1 = .ok (.getfield 28, 3) := by decide +kernel
theorem dX4_putWrittenText_4 : decode cX4_putWrittenText 4 = .ok (.invokevirtual 153, 3) := by decide +kernel
theorem dX4_putWrittenText_7 : decode cX4_putWrittenText 7 = .ok (.astore_n 1, 1) := by decide +kernel
theorem dX4_putWrittenText_8 : decode cX4_putWrittenText 8 = .ok (.aload_n 0, 1) := by decide +kernel
theorem dX4_putWrittenText_9 : decode cX4_putWrittenText 9 = .ok (.getfield 28, 3) := by decide +kernel
theorem dX4_putWrittenText_12 : decode cX4_putWrittenText 12 = .ok (.invokevirtual 157, 3) := by decide +kernel
theorem dX4_putWrittenText_15 : decode cX4_putWrittenText 15 = .ok (.istore_n 2, 1) := by decide +kernel
theorem dX4_putWrittenText_16 : decode cX4_putWrittenText 16 = .ok (.iconst 1, 1) := by decide +kernel
theorem dX4_putWrittenText_17 : decode cX4_putWrittenText 17 = .ok (.istore_n 3, 1) := by decide +kernel
theorem dX4_putWrittenText_18 : decode cX4_putWrittenText 18 = .ok (.iconst 0, 1) := by decide +kernel
theorem dX4_putWrittenText_19 : decode cX4_putWrittenText 19 = .ok (.istore 4, 2) := by decide +kernel
theorem dX4_putWrittenText_21 : decode cX4_putWrittenText 21 = .ok (.iload 4, 2) := by decide +kernel
theorem dX4_putWrittenText_23 : decode cX4_putWrittenText 23 = .ok (.sipush 160, 3) := by decide +kernel
theorem dX4_putWrittenText_26 : decode cX4_putWrittenText 26 = .ok (.if_icmp .ge 60, 3) := by decide +kernel
theorem dX4_putWrittenText_29 : decode cX4_putWrittenText 29 = .ok (.iload_n 3, 1) := by decide +kernel
theorem dX4_putWrittenText_30 : decode cX4_putWrittenText 30 = .ok (.ifCond .le 56, 3) := by decide +kernel
theorem dX4_putWrittenText_33 : decode cX4_putWrittenText 33 = .ok (.aload_n 0, 1) := by decide +kernel
theorem dX4_putWrittenText_34 : decode cX4_putWrittenText 34 = .ok (.getfield 28, 3) := by decide +kernel
theorem dX4_putWrittenText_37 : decode cX4_putWrittenText 37 = .ok (.invokevirtual 80, 3) := by decide +kernel
theorem dX4_putWrittenText_40 : decode cX4_putWrittenText 40 = .ok (.istore 5, 2) := by decide +kernel
theorem dX4_putWrittenText_42 : decode cX4_putWrittenText 42 = .ok (.iload 5, 2) := by decide +kernel
theorem dX4_putWrittenText_44 : decode cX4_putWrittenText 44 = .ok (.ifCond .ne 6, 3) := by decide +kernel
theorem dX4_putWrittenText_47 : decode cX4_putWrittenText 47 = .ok (.goto 39, 3) := by decide +kernel
theorem dX4_putWrittenText_50 : decode cX4_putWrittenText 50 = .ok (.iload 5, 2) := by decide +kernel
theorem dX4_putWrittenText_52 : decode cX4_putWrittenText 52 = .ok (.bipush 91, 2) := by decide +kernel
theorem dX4_putWrittenText_54 : decode cX4_putWrittenText 54 = .ok (.if_icmp .ne 9, 3) := by decide +kernel
theorem dX4_putWrittenText_57 : decode cX4_putWrittenText 57 = .ok (.iinc 3 1, 3) := by decide +kernel
theorem dX4_putWrittenText_60 : decode cX4_putWrittenText 60 = .ok (.goto 13, 3) := by decide +kernel
theorem dX4_putWrittenText_63 : decode cX4_putWrittenText 63 = .ok (.iload 5, 2) := by decide +kernel
theorem dX4_putWrittenText_65 : decode cX4_putWrittenText 65 = .ok (.bipush 93, 2) := by decide +kernel
theorem dX4_putWrittenText_67 : decode cX4_putWrittenText 67 = .ok (.if_icmp .ne 6, 3) := by decide +kernel
theorem dX4_putWrittenText_70 : decode cX4_putWrittenText 70 = .ok (.iinc 3 (-1), 3) := by decide +kernel
theorem dX4_putWrittenText_73 : decode cX4_putWrittenText 73 = .ok (.aload_n 0, 1) := by decide +kernel
theorem dX4_putWrittenText_74 : decode cX4_putWrittenText 74 = .ok (.getfield 28, 3) := by decide +kernel
theorem dX4_putWrittenText_77 : decode cX4_putWrittenText 77 = .ok (.invokevirtual 118, 3) := by decide +kernel
theorem dX4_putWrittenText_80 : decode cX4_putWrittenText 80 = .ok (.iinc 4 1, 3) := by decide +kernel
theorem dX4_putWrittenText_83 : decode cX4_putWrittenText 83 = .ok (.goto (-62), 3) := by decide +kernel
theorem dX4_putWrittenText_86 : decode cX4_putWrittenText 86 = .ok (.iload_n 3, 1) := by decide +kernel
theorem dX4_putWrittenText_87 : decode cX4_putWrittenText 87 = .ok (.ifCond .gt 7, 3) := by decide +kernel
theorem dX4_putWrittenText_90 : decode cX4_putWrittenText 90 = .ok (.aload_n 1, 1) := by decide +kernel
theorem dX4_putWrittenText_91 : decode cX4_putWrittenText 91 = .ok (.ifnonnull 13, 3) := by decide +kernel
theorem dX4_putWrittenText_94 : decode cX4_putWrittenText 94 = .ok (.new 56, 3) := by decide +kernel
theorem dX4_putWrittenText_97 : decode cX4_putWrittenText 97 = .ok (.dup, 1) := by decide +kernel
theorem dX4_putWrittenText_98 : decode cX4_putWrittenText 98 = .ok (.ldc 160, 2) := by decide +kernel
theorem dX4_putWrittenText_100 : decode cX4_putWrittenText 100 = .ok (.invokespecial 60, 3) := by decide +kernel
theorem dX4_putWrittenText_103 : decode cX4_putWrittenText 103 = .ok (.athrow, 1) := by decide +kernel
theorem dX4_putWrittenText_104 : decode cX4_putWrittenText 104 = .ok (.aload_n 0, 1) := by decide +kernel
theorem dX4_putWrittenText_105 : decode cX4_putWrittenText 105 = .ok (.getfield 14, 3) := by decide +kernel
theorem dX4_putWrittenText_108 : decode cX4_putWrittenText 108 = .ok (.aload_n 1, 1) := by decide +kernel
theorem dX4_putWrittenText_109 : decode cX4_putWrittenText 109 = .ok (.iload_n 2, 1) := by decide +kernel
theorem dX4_putWrittenText_110 : decode cX4_putWrittenText 110 = .ok (.aload_n 0, 1) := by decide +kernel
theorem dX4_putWrittenText_111 : decode cX4_putWrittenText 111 = .ok (.getfield 28, 3) := by decide +kernel
theorem dX4_putWrittenText_114 : decode cX4_putWrittenText 114 = .ok (.invokevirtual 157, 3) := by decide +kernel
theorem dX4_putWrittenText_117 : decode cX4_putWrittenText 117 = .ok (.iconst 1, 1) := by decide +kernel
theorem dX4_putWrittenText_118 : decode cX4_putWrittenText 118 = .ok (.isub, 1) := by decide +kernel
theorem dX4_putWrittenText_119 : decode cX4_putWrittenText 119 = .ok (.iload_n 2, 1) := by decide +kernel
theorem dX4_putWrittenText_120 : decode cX4_putWrittenText 120 = .ok (.isub, 1) := by decide +kernel
theorem dX4_putWrittenText_121 : decode cX4_putWrittenText 121 = .ok (.invokevirtual 162, 3) := by decide +kernel
theorem dX4_putWrittenText_124 : decode cX4_putWrittenText 124 = .ok (.return_, 1) := by decide +kernel
theorem dX4_needItems_0 : decode cX4_needItems 0 = .ok (.aload_n 0, 1) := by decide +kernel
theorem dX4_needItems_1 : decode cX4_needItems 1 = .ok (.getfield 14, 3) := by decide +kernel
theorem dX4_needItems_4 : decode cX4_needItems 4 = .ok (.getfield 95, 3) := by decide +kernel
theorem dX4_needItems_7 : decode cX4_needItems 7 = .ok (.iload_n 1, 1) := by decide +kernel
theorem dX4_needItems_8 : decode cX4_needItems 8 = .ok (.if_icmp .ge 13, 3) := by decide +kernel
theorem dX4_needItems_11 : decode cX4_needItems 11 = .ok (.new 165, 3) := by decide +kernel
theorem dX4_needItems_14 : decode cX4_needItems 14 = .ok (.dup, 1) := by decide +kernel
theorem dX4_needItems_15 : decode cX4_needItems 15 = .ok (.ldc 167, 2) := by decide +kernel
theorem dX4_needItems_17 : decode cX4_needItems 17 = .ok (.invokespecial 169, 3) := by decide +kernel
theorem dX4_needItems_20 : decode cX4_needItems 20 = .ok (.athrow, 1) := by decide +kernel
theorem dX4_needItems_21 : decode cX4_needItems 21 = .ok (.return_, 1) := by decide +kernel
set_option maxRecDepth 20000 in
theorem ggX4_needNumbers_X4_needItems : GoodIn wsX4_needNumbers wsX4_needItems := goodIn_ca (goodIn_r _ [8, 9, 10, 3, 11, 28, 29, 30, 31, 32, 33, 34, 35, 36, 37, 38, 39] (by decide +kernel) (by decide +kernel)) (goodIn_sub (fun _ h => List.mem_cons_of_mem _ (List.mem_append_right _ h)) (by decide +kernel))
set_option maxRecDepth 20000 in
theorem gX4_needNumbers_X4_needItems : GoodIn wsX4_needNumbers (wsV RX4 170 RX4 yX4_needItems wsX4_needItems) := goodIn_app (goodIn_of _ (by decide +kernel)) ggX4_needNumbers_X4_needItems
set_option maxRecDepth 20000 in
theorem ggX4_needNumbers_X3_slotBelowTop : GoodIn wsX4_needNumbers wsX3_slotBelowTop := goodIn_r _ [16, 17, 35, 36, 37, 38, 39] (by decide +kernel) (by decide +kernel)
set_option maxRecDepth 20000 in
theorem gX4_needNumbers_X3_slotBelowTop : GoodIn wsX4_needNumbers (wsV RX4 104 RX3 yX3_slotBelowTop wsX3_slotBelowTop) := goodIn_app (goodIn_of _ (by decide +kernel)) ggX4_needNumbers_X3_slotBelowTop
set_option maxRecDepth 20000 in
theorem ggX4_needNumbers_X3_rowAt : GoodIn wsX4_needNumbers wsX3_rowAt := goodIn_r _ [21, 22, 23, 24, 25, 15, 26, 17, 27, 35, 36, 37, 38, 39] (by decide +kernel) (by decide +kernel)
set_option maxRecDepth 20000 in
theorem gX4_needNumbers_X3_rowAt : GoodIn wsX4_needNumbers (wsV RX4 173 RX3 yX3_rowAt wsX3_rowAt) := goodIn_app (goodIn_of _ (by decide +kernel)) ggX4_needNumbers_X3_rowAt
theorem dX4_needNumbers_0 : decode cX4_needNumbers 0 = .ok (.aload_n 0, 1) := by decide +kernel
theorem dX4_needNumbers_1 : decode cX4_needNumbers 1 = .ok (.iload_n 1, 1) := by decide +kernel
theorem dX4_needNumbers_2 : decode cX4_needNumbers 2 = .ok (.invokevirtual 170, 3) := by decide +kernel
theorem dX4_needNumbers_5 : decode cX4_needNumbers 5 = .ok (.iconst 0, 1) := by decide +kernel
theorem dX4_needNumbers_6 : decode cX4_needNumbers 6 = .ok (.istore_n 2, 1) := by decide +kernel
theorem dX4_needNumbers_7 : decode cX4_needNumbers 7 = .ok (.iload_n 2, 1) := by decide +kernel
theorem dX4_needNumbers_8 : decode cX4_needNumbers 8 = .ok (.iload_n 1, 1) := by decide +kernel
theorem dX4_needNumbers_9 : decode cX4_needNumbers 9 = .ok (.if_icmp .ge 37, 3) := by decide +kernel
theorem dX4_needNumbers_12 : decode cX4_needNumbers 12 = .ok (.aload_n 0, 1) := by decide +kernel
theorem dX4_needNumbers_13 : decode cX4_needNumbers 13 = .ok (.getfield 14, 3) := by decide +kernel
theorem dX4_needNumbers_16 : decode cX4_needNumbers 16 = .ok (.aload_n 0, 1) := by decide +kernel
theorem dX4_needNumbers_17 : decode cX4_needNumbers 17 = .ok (.getfield 14, 3) := by decide +kernel
theorem dX4_needNumbers_20 : decode cX4_needNumbers 20 = .ok (.iload_n 2, 1) := by decide +kernel
theorem dX4_needNumbers_21 : decode cX4_needNumbers 21 = .ok (.invokevirtual 104, 3) := by decide +kernel
theorem dX4_needNumbers_24 : decode cX4_needNumbers 24 = .ok (.invokevirtual 173, 3) := by decide +kernel
theorem dX4_needNumbers_27 : decode cX4_needNumbers 27 = .ok (.ifnull 13, 3) := by decide +kernel
theorem dX4_needNumbers_30 : decode cX4_needNumbers 30 = .ok (.new 177, 3) := by decide +kernel
theorem dX4_needNumbers_33 : decode cX4_needNumbers 33 = .ok (.dup, 1) := by decide +kernel
theorem dX4_needNumbers_34 : decode cX4_needNumbers 34 = .ok (.ldc 179, 2) := by decide +kernel
theorem dX4_needNumbers_36 : decode cX4_needNumbers 36 = .ok (.invokespecial 181, 3) := by decide +kernel
theorem dX4_needNumbers_39 : decode cX4_needNumbers 39 = .ok (.athrow, 1) := by decide +kernel
theorem dX4_needNumbers_40 : decode cX4_needNumbers 40 = .ok (.iinc 2 1, 3) := by decide +kernel
theorem dX4_needNumbers_43 : decode cX4_needNumbers 43 = .ok (.goto (-36), 3) := by decide +kernel
theorem dX4_needNumbers_46 : decode cX4_needNumbers 46 = .ok (.return_, 1) := by decide +kernel
set_option maxRecDepth 20000 in
theorem ggX4_calculate_X4_needNumbers : GoodIn wsX4_calculate wsX4_needNumbers := goodIn_ca (goodIn_ca (goodIn_r _ [14, 15, 16, 1, 17, 18, 19, 13, 20, 21, 22, 23, 24, 25, 26, 27, 28, 29, 30, 31, 32, 33, 34, 35, 36, 37, 38, 39, 113, 114, 115, 116, 117, 118, 119, 120, 121, 122, 123, 124] (by decide +kernel) (by decide +kernel)) (goodIn_sub (fun _ h => List.mem_cons_of_mem _ (List.mem_append_left _ (List.mem_append_left _ (List.mem_append_left _ (List.mem_append_left _ (List.mem_append_right _ h)))))) (by decide +kernel))) (goodIn_sub (fun _ h => List.mem_cons_of_mem _ (List.mem_append_left _ (List.mem_append_left _ (List.mem_append_left _ (List.mem_append_right _ h))))) (by decide +kernel))
set_option maxRecDepth 20000 in
theorem gX4_calculate_X4_needNumbers : GoodIn wsX4_calculate (wsV RX4 182 RX4 yX4_needNumbers wsX4_needNumbers) := goodIn_app (goodIn_of _ (by decide +kernel)) ggX4_calculate_X4_needNumbers
set_option maxRecDepth 20000 in
theorem ggX4_calculate_X3_slotBelowTop : GoodIn wsX4_calculate wsX3_slotBelowTop := goodIn_r _ [28, 29, 120, 121, 122, 123, 124] (by decide +kernel) (by decide +kernel)
set_option maxRecDepth 20000 in
theorem gX4_calculate_X3_slotBelowTop : GoodIn wsX4_calculate (wsV RX4 104 RX3 yX3_slotBelowTop wsX3_slotBelowTop) := goodIn_app (goodIn_of _ (by decide +kernel)) ggX4_calculate_X3_slotBelowTop
set_option maxRecDepth 20000 in
theorem ggX4_calculate_X3_valueAt : GoodIn wsX4_calculate wsX3_valueAt := goodIn_r _ [43, 39, 35, 36, 37, 27, 38, 29, 120, 121, 122, 123, 124] (by decide +kernel) (by decide +kernel)
set_option maxRecDepth 20000 in
theorem gX4_calculate_X3_valueAt : GoodIn wsX4_calculate (wsV RX4 96 RX3 yX3_valueAt wsX3_valueAt) := goodIn_app (goodIn_of _ (by decide +kernel)) ggX4_calculate_X3_valueAt
set_option maxRecDepth 20000 in
theorem ggX4_calculate_X3_placesAt : GoodIn wsX4_calculate wsX3_placesAt := goodIn_r _ [47, 48, 35, 36, 37, 27, 38, 29, 39, 120, 121, 122, 123, 124] (by decide +kernel) (by decide +kernel)
set_option maxRecDepth 20000 in
theorem gX4_calculate_X3_placesAt : GoodIn wsX4_calculate (wsV RX4 100 RX3 yX3_placesAt wsX3_placesAt) := goodIn_app (goodIn_of _ (by decide +kernel)) ggX4_calculate_X3_placesAt
set_option maxRecDepth 20000 in
theorem ggX4_calculate_X0_sum : GoodIn wsX4_calculate wsX0_sum := goodIn_ca (goodIn_r _ [52, 53, 3, 4, 5, 54, 55, 51, 56, 57, 58, 59, 60, 61, 8, 9, 62, 63, 64, 65, 66, 67, 68, 69, 70, 71, 72, 73] (by decide +kernel) (by decide +kernel)) (goodIn_sub (fun _ h => List.mem_cons_of_mem _ (List.mem_append_left _ (List.mem_append_left _ (List.mem_append_right _ h)))) (by decide +kernel))
set_option maxRecDepth 20000 in
theorem gX4_calculate_X0_sum : GoodIn wsX4_calculate (va_wsS RX4 191 yX0_sum wsX0_sum) := goodIn_app (goodIn_of _ (by decide +kernel)) ggX4_calculate_X0_sum
set_option maxRecDepth 20000 in
theorem ggX4_calculate_X0_times : GoodIn wsX4_calculate wsX0_times := goodIn_ca (goodIn_r _ [64, 65, 66, 67, 68, 4, 69, 70] (by decide +kernel) (by decide +kernel)) (goodIn_sub (fun _ h => List.mem_cons_of_mem _ (List.mem_append_left _ (List.mem_append_left _ (List.mem_append_right _ h)))) (by decide +kernel))
set_option maxRecDepth 20000 in
theorem gX4_calculate_X0_times : GoodIn wsX4_calculate (va_wsS RX4 200 yX0_times wsX0_times) := goodIn_app (goodIn_of _ (by decide +kernel)) ggX4_calculate_X0_times
set_option maxRecDepth 20000 in
theorem ggX4_calculate_X0_cutOff : GoodIn wsX4_calculate wsX0_cutOff := goodIn_r _ [77, 57, 58, 51, 59, 60, 53, 3, 4, 5, 61, 8, 9, 78, 79, 80] (by decide +kernel) (by decide +kernel)
set_option maxRecDepth 20000 in
theorem gX4_calculate_X0_cutOff : GoodIn wsX4_calculate (va_wsS RX4 204 yX0_cutOff wsX0_cutOff) := goodIn_app (goodIn_of _ (by decide +kernel)) ggX4_calculate_X0_cutOff
set_option maxRecDepth 20000 in
theorem ggX4_calculate_X0_quotient : GoodIn wsX4_calculate wsX0_quotient := goodIn_ca (goodIn_ca (goodIn_r _ [83, 84, 85, 54, 55, 51, 56, 57, 58, 59, 60, 53, 3, 4, 5, 61, 8, 9, 62, 63, 64, 65, 66, 67, 68, 69, 70, 78, 79, 80] (by decide +kernel) (by decide +kernel)) (goodIn_sub (fun _ h => List.mem_cons_of_mem _ (List.mem_append_left _ (List.mem_append_right _ h))) (by decide +kernel))) (goodIn_sub (fun _ h => List.mem_cons_of_mem _ (List.mem_append_left _ (List.mem_append_left _ (List.mem_append_right _ h)))) (by decide +kernel))
set_option maxRecDepth 20000 in
theorem gX4_calculate_X0_quotient : GoodIn wsX4_calculate (va_wsS RX4 208 yX0_quotient wsX0_quotient) := goodIn_app (goodIn_of _ (by decide +kernel)) ggX4_calculate_X0_quotient
set_option maxRecDepth 20000 in
theorem ggX4_calculate_X0_remainder : GoodIn wsX4_calculate wsX0_remainder := goodIn_ca (goodIn_ca (goodIn_r _ [88, 65, 66, 53, 3, 4, 5, 89, 82, 51, 83, 84, 85, 54, 55, 56, 57, 58, 59, 60, 61, 8, 9, 62, 63, 64, 67, 68, 69, 70, 78, 79, 80, 71, 72, 73] (by decide +kernel) (by decide +kernel)) (goodIn_sub (fun _ h => List.mem_cons_of_mem _ (List.mem_append_left _ (List.mem_append_left _ (List.mem_append_right _ h)))) (by decide +kernel))) (goodIn_sub (fun _ h => List.mem_cons_of_mem _ (List.mem_append_left _ (List.mem_append_right _ h))) (by decide +kernel))
set_option maxRecDepth 20000 in
theorem gX4_calculate_X0_remainder : GoodIn wsX4_calculate (va_wsS RX4 212 yX0_remainder wsX0_remainder) := goodIn_app (goodIn_of _ (by decide +kernel)) ggX4_calculate_X0_remainder
set_option maxRecDepth 20000 in
theorem ggX4_calculate_X3_drop : GoodIn wsX4_calculate wsX3_drop := goodIn_r _ [93, 29, 94, 3, 4, 5, 120, 121, 122, 123, 124] (by decide +kernel) (by decide +kernel)
set_option maxRecDepth 20000 in
theorem gX4_calculate_X3_drop : GoodIn wsX4_calculate (wsV RX4 215 RX3 yX3_drop wsX3_drop) := goodIn_app (goodIn_of _ (by decide +kernel)) ggX4_calculate_X3_drop
set_option maxRecDepth 20000 in
theorem ggX4_calculate_X3_putNumber : GoodIn wsX4_calculate wsX3_putNumber := goodIn_ca (goodIn_r _ [98, 99, 100, 101, 27, 102, 103, 66, 29, 104, 105, 106, 107, 39, 108, 109, 110, 111, 48, 34, 112, 35, 36, 37, 38, 120, 121, 122, 123, 124] (by decide +kernel) (by decide +kernel)) (goodIn_sub (fun _ h => List.mem_cons_of_mem _ (List.mem_append_right _ h)) (by decide +kernel))
set_option maxRecDepth 20000 in
theorem gX4_calculate_X3_putNumber : GoodIn wsX4_calculate (wsV RX4 149 RX3 yX3_putNumber wsX3_putNumber) := goodIn_app (goodIn_of _ (by decide +kernel)) ggX4_calculate_X3_putNumber
theorem dX4_calculate_0 : decode cX4_calculate 0 = .ok (.aload_n 0, 1) := by decide +kernel
theorem dX4_calculate_1 : decode cX4_calculate 1 = .ok (.iconst 2, 1) := by decide +kernel
theorem dX4_calculate_2 : decode cX4_calculate 2 = .ok (.invokevirtual 182, 3) := by decide +kernel
theorem dX4_calculate_5 : decode cX4_calculate 5 = .ok (.aload_n 0, 1) := by decide +kernel
theorem dX4_calculate_6 : decode cX4_calculate 6 = .ok (.getfield 14, 3) := by decide +kernel
theorem dX4_calculate_9 : decode cX4_calculate 9 = .ok (.aload_n 0, 1) := by decide +kernel
theorem dX4_calculate_10 : decode cX4_calculate 10 = .ok (.getfield 14, 3) := by decide +kernel
theorem dX4_calculate_13 : decode cX4_calculate 13 = .ok (.iconst 1, 1) := by decide +kernel
theorem dX4_calculate_14 : decode cX4_calculate 14 = .ok (.invokevirtual 104, 3) := by decide +kernel
theorem dX4_calculate_17 : decode cX4_calculate 17 = .ok (.invokevirtual 96, 3) := by decide +kernel
theorem dX4_calculate_20 : decode cX4_calculate 20 = .ok (.lstore_n 2, 1) := by decide +kernel
theorem dX4_calculate_21 : decode cX4_calculate 21 = .ok (.aload_n 0, 1) := by decide +kernel
theorem dX4_calculate_22 : decode cX4_calculate 22 = .ok (.getfield 14, 3) := by decide +kernel
theorem dX4_calculate_25 : decode cX4_calculate 25 = .ok (.aload_n 0, 1) := by decide +kernel
theorem dX4_calculate_26 : decode cX4_calculate 26 = .ok (.getfield 14, 3) := by decide +kernel
theorem dX4_calculate_29 : decode cX4_calculate 29 = .ok (.iconst 1, 1) := by decide +kernel
theorem dX4_calculate_30 : decode cX4_calculate 30 = .ok (.invokevirtual 104, 3) := by decide +kernel
theorem dX4_calculate_33 : decode cX4_calculate 33 = .ok (.invokevirtual 100, 3) := by decide +kernel
theorem dX4_calculate_36 : decode cX4_calculate 36 = .ok (.istore 4, 2) := by decide +kernel
theorem dX4_calculate_38 : decode cX4_calculate 38 = .ok (.aload_n 0, 1) := by decide +kernel
theorem dX4_calculate_39 : decode cX4_calculate 39 = .ok (.getfield 14, 3) := by decide +kernel
theorem dX4_calculate_42 : decode cX4_calculate 42 = .ok (.aload_n 0, 1) := by decide +kernel
theorem dX4_calculate_43 : decode cX4_calculate 43 = .ok (.getfield 14, 3) := by decide +kernel
theorem dX4_calculate_46 : decode cX4_calculate 46 = .ok (.iconst 0, 1) := by decide +kernel
theorem dX4_calculate_47 : decode cX4_calculate 47 = .ok (.invokevirtual 104, 3) := by decide +kernel
theorem dX4_calculate_50 : decode cX4_calculate 50 = .ok (.invokevirtual 96, 3) := by decide +kernel
theorem dX4_calculate_53 : decode cX4_calculate 53 = .ok (.lstore 5, 2) := by decide +kernel
theorem dX4_calculate_55 : decode cX4_calculate 55 = .ok (.aload_n 0, 1) := by decide +kernel
theorem dX4_calculate_56 : decode cX4_calculate 56 = .ok (.getfield 14, 3) := by decide +kernel
theorem dX4_calculate_59 : decode cX4_calculate 59 = .ok (.aload_n 0, 1) := by decide +kernel
theorem dX4_calculate_60 : decode cX4_calculate 60 = .ok (.getfield 14, 3) := by decide +kernel
theorem dX4_calculate_63 : decode cX4_calculate 63 = .ok (.iconst 0, 1) := by decide +kernel
theorem dX4_calculate_64 : decode cX4_calculate 64 = .ok (.invokevirtual 104, 3) := by decide +kernel
theorem dX4_calculate_67 : decode cX4_calculate 67 = .ok (.invokevirtual 100, 3) := by decide +kernel
theorem dX4_calculate_70 : decode cX4_calculate 70 = .ok (.istore 7, 2) := by decide +kernel
theorem dX4_calculate_72 : decode cX4_calculate 72 = .ok (.iload 4, 2) := by decide +kernel
theorem dX4_calculate_74 : decode cX4_calculate 74 = .ok (.iload 7, 2) := by decide +kernel
theorem dX4_calculate_76 : decode cX4_calculate 76 = .ok (.invokestatic 185, 3) := by decide +kernel
theorem dX4_calculate_79 : decode cX4_calculate 79 = .ok (.istore 8, 2) := by decide +kernel
theorem dX4_calculate_81 : decode cX4_calculate 81 = .ok (.iload_n 1, 1) := by decide +kernel
theorem dX4_calculate_82 : decode cX4_calculate 82 = .ok (.tableswitch 143 42 47 #[77, 38, 143, 57, 143, 118], 38) := by decide +kernel
theorem dX4_calculate_120 : decode cX4_calculate 120 = .ok (.iload 8, 2) := by decide +kernel
theorem dX4_calculate_122 : decode cX4_calculate 122 = .ok (.istore 11, 2) := by decide +kernel
theorem dX4_calculate_124 : decode cX4_calculate 124 = .ok (.lload_n 2, 1) := by decide +kernel
theorem dX4_calculate_125 : decode cX4_calculate 125 = .ok (.iload 4, 2) := by decide +kernel
theorem dX4_calculate_127 : decode cX4_calculate 127 = .ok (.lload 5, 2) := by decide +kernel
theorem dX4_calculate_129 : decode cX4_calculate 129 = .ok (.iload 7, 2) := by decide +kernel
theorem dX4_calculate_131 : decode cX4_calculate 131 = .ok (.invokestatic 191, 3) := by decide +kernel
theorem dX4_calculate_134 : decode cX4_calculate 134 = .ok (.lstore 9, 2) := by decide +kernel
theorem dX4_calculate_136 : decode cX4_calculate 136 = .ok (.goto 119, 3) := by decide +kernel
theorem dX4_calculate_139 : decode cX4_calculate 139 = .ok (.iload 8, 2) := by decide +kernel
theorem dX4_calculate_141 : decode cX4_calculate 141 = .ok (.istore 11, 2) := by decide +kernel
theorem dX4_calculate_143 : decode cX4_calculate 143 = .ok (.lload_n 2, 1) := by decide +kernel
theorem dX4_calculate_144 : decode cX4_calculate 144 = .ok (.iload 4, 2) := by decide +kernel
theorem dX4_calculate_146 : decode cX4_calculate 146 = .ok (.lload 5, 2) := by decide +kernel
theorem dX4_calculate_148 : decode cX4_calculate 148 = .ok (.lneg, 1) := by decide +kernel
theorem dX4_calculate_149 : decode cX4_calculate 149 = .ok (.iload 7, 2) := by decide +kernel
theorem dX4_calculate_151 : decode cX4_calculate 151 = .ok (.invokestatic 191, 3) := by decide +kernel
theorem dX4_calculate_154 : decode cX4_calculate 154 = .ok (.lstore 9, 2) := by decide +kernel
theorem dX4_calculate_156 : decode cX4_calculate 156 = .ok (.goto 99, 3) := by decide +kernel
theorem dX4_calculate_159 : decode cX4_calculate 159 = .ok (.iload 4, 2) := by decide +kernel
theorem dX4_calculate_161 : decode cX4_calculate 161 = .ok (.iload 7, 2) := by decide +kernel
theorem dX4_calculate_163 : decode cX4_calculate 163 = .ok (.iadd, 1) := by decide +kernel
theorem dX4_calculate_164 : decode cX4_calculate 164 = .ok (.aload_n 0, 1) := by decide +kernel
theorem dX4_calculate_165 : decode cX4_calculate 165 = .ok (.getfield 39, 3) := by decide +kernel
theorem dX4_calculate_168 : decode cX4_calculate 168 = .ok (.iload 8, 2) := by decide +kernel
theorem dX4_calculate_170 : decode cX4_calculate 170 = .ok (.invokestatic 185, 3) := by decide +kernel
theorem dX4_calculate_173 : decode cX4_calculate 173 = .ok (.invokestatic 197, 3) := by decide +kernel
theorem dX4_calculate_176 : decode cX4_calculate 176 = .ok (.istore 11, 2) := by decide +kernel
theorem dX4_calculate_178 : decode cX4_calculate 178 = .ok (.lload_n 2, 1) := by decide +kernel
theorem dX4_calculate_179 : decode cX4_calculate 179 = .ok (.lload 5, 2) := by decide +kernel
theorem dX4_calculate_181 : decode cX4_calculate 181 = .ok (.invokestatic 200, 3) := by decide +kernel
theorem dX4_calculate_184 : decode cX4_calculate 184 = .ok (.iload 4, 2) := by decide +kernel
theorem dX4_calculate_186 : decode cX4_calculate 186 = .ok (.iload 7, 2) := by decide +kernel
theorem dX4_calculate_188 : decode cX4_calculate 188 = .ok (.iadd, 1) := by decide +kernel
theorem dX4_calculate_189 : decode cX4_calculate 189 = .ok (.iload 11, 2) := by decide +kernel
theorem dX4_calculate_191 : decode cX4_calculate 191 = .ok (.isub, 1) := by decide +kernel
theorem dX4_calculate_192 : decode cX4_calculate 192 = .ok (.invokestatic 204, 3) := by decide +kernel
theorem dX4_calculate_195 : decode cX4_calculate 195 = .ok (.lstore 9, 2) := by decide +kernel
theorem dX4_calculate_197 : decode cX4_calculate 197 = .ok (.goto 58, 3) := by decide +kernel
theorem dX4_calculate_200 : decode cX4_calculate 200 = .ok (.aload_n 0, 1) := by decide +kernel
theorem dX4_calculate_201 : decode cX4_calculate 201 = .ok (.getfield 39, 3) := by decide +kernel
theorem dX4_calculate_204 : decode cX4_calculate 204 = .ok (.istore 11, 2) := by decide +kernel
theorem dX4_calculate_206 : decode cX4_calculate 206 = .ok (.lload_n 2, 1) := by decide +kernel
theorem dX4_calculate_207 : decode cX4_calculate 207 = .ok (.iload 4, 2) := by decide +kernel
theorem dX4_calculate_209 : decode cX4_calculate 209 = .ok (.lload 5, 2) := by decide +kernel
theorem dX4_calculate_211 : decode cX4_calculate 211 = .ok (.iload 7, 2) := by decide +kernel
theorem dX4_calculate_213 : decode cX4_calculate 213 = .ok (.aload_n 0, 1) := by decide +kernel
theorem dX4_calculate_214 : decode cX4_calculate 214 = .ok (.getfield 39, 3) := by decide +kernel
theorem dX4_calculate_217 : decode cX4_calculate 217 = .ok (.invokestatic 208, 3) := by decide +kernel
theorem dX4_calculate_220 : decode cX4_calculate 220 = .ok (.lstore 9, 2) := by decide +kernel
theorem dX4_calculate_222 : decode cX4_calculate 222 = .ok (.goto 33, 3) := by decide +kernel
theorem dX4_calculate_225 : decode cX4_calculate 225 = .ok (.aload_n 0, 1) := by decide +kernel
theorem dX4_calculate_226 : decode cX4_calculate 226 = .ok (.getfield 39, 3) := by decide +kernel
theorem dX4_calculate_229 : decode cX4_calculate 229 = .ok (.iload 7, 2) := by decide +kernel
theorem dX4_calculate_231 : decode cX4_calculate 231 = .ok (.iadd, 1) := by decide +kernel
theorem dX4_calculate_232 : decode cX4_calculate 232 = .ok (.iload 4, 2) := by decide +kernel
theorem dX4_calculate_234 : decode cX4_calculate 234 = .ok (.invokestatic 185, 3) := by decide +kernel
theorem dX4_calculate_237 : decode cX4_calculate 237 = .ok (.istore 11, 2) := by decide +kernel
theorem dX4_calculate_239 : decode cX4_calculate 239 = .ok (.lload_n 2, 1) := by decide +kernel
theorem dX4_calculate_240 : decode cX4_calculate 240 = .ok (.iload 4, 2) := by decide +kernel
theorem dX4_calculate_242 : decode cX4_calculate 242 = .ok (.lload 5, 2) := by decide +kernel
theorem dX4_calculate_244 : decode cX4_calculate 244 = .ok (.iload 7, 2) := by decide +kernel
theorem dX4_calculate_246 : decode cX4_calculate 246 = .ok (.aload_n 0, 1) := by decide +kernel
theorem dX4_calculate_247 : decode cX4_calculate 247 = .ok (.getfield 39, 3) := by decide +kernel
theorem dX4_calculate_250 : decode cX4_calculate 250 = .ok (.invokestatic 212, 3) := by decide +kernel
theorem dX4_calculate_253 : decode cX4_calculate 253 = .ok (.lstore 9, 2) := by decide +kernel
theorem dX4_calculate_255 : decode cX4_calculate 255 = .ok (.aload_n 0, 1) := by decide +kernel
theorem dX4_calculate_256 : decode cX4_calculate 256 = .ok (.getfield 14, 3) := by decide +kernel
theorem dX4_calculate_259 : decode cX4_calculate 259 = .ok (.iconst 2, 1) := by decide +kernel
theorem dX4_calculate_260 : decode cX4_calculate 260 = .ok (.invokevirtual 215, 3) := by decide +kernel
theorem dX4_calculate_263 : decode cX4_calculate 263 = .ok (.aload_n 0, 1) := by decide +kernel
theorem dX4_calculate_264 : decode cX4_calculate 264 = .ok (.getfield 14, 3) := by decide +kernel
theorem dX4_calculate_267 : decode cX4_calculate 267 = .ok (.lload 9, 2) := by decide +kernel
theorem dX4_calculate_269 : decode cX4_calculate 269 = .ok (.iload 11, 2) := by decide +kernel
theorem dX4_calculate_271 : decode cX4_calculate 271 = .ok (.invokevirtual 149, 3) := by decide +kernel
theorem dX4_calculate_274 : decode cX4_calculate 274 = .ok (.return_, 1) := by decide +kernel
set_option maxRecDepth 20000 in
theorem ggX4_changeNumber_X4_needNumbers : GoodIn wsX4_changeNumber wsX4_needNumbers := goodIn_ca (goodIn_ca (goodIn_r _ [11, 12, 13, 1, 14, 15, 16, 10, 17, 18, 19, 20, 21, 22, 23, 24, 25, 26, 27, 28, 29, 30, 31, 32, 33, 34, 35, 36, 107, 108, 109, 110, 111, 112, 113, 114, 115, 116, 117, 118] (by decide +kernel) (by decide +kernel)) (goodIn_sub (fun _ h => List.mem_cons_of_mem _ (List.mem_append_left _ (List.mem_append_left _ (List.mem_append_left _ (List.mem_append_left _ (List.mem_append_right _ h)))))) (by decide +kernel))) (goodIn_sub (fun _ h => List.mem_cons_of_mem _ (List.mem_append_left _ (List.mem_append_left _ (List.mem_append_left _ (List.mem_append_right _ h))))) (by decide +kernel))
set_option maxRecDepth 20000 in
theorem gX4_changeNumber_X4_needNumbers : GoodIn wsX4_changeNumber (wsV RX4 182 RX4 yX4_needNumbers wsX4_needNumbers) := goodIn_app (goodIn_of _ (by decide +kernel)) ggX4_changeNumber_X4_needNumbers
set_option maxRecDepth 20000 in
theorem ggX4_changeNumber_X3_slotBelowTop : GoodIn wsX4_changeNumber wsX3_slotBelowTop := goodIn_r _ [25, 26, 114, 115, 116, 117, 118] (by decide +kernel) (by decide +kernel)
set_option maxRecDepth 20000 in
theorem gX4_changeNumber_X3_slotBelowTop : GoodIn wsX4_changeNumber (wsV RX4 104 RX3 yX3_slotBelowTop wsX3_slotBelowTop) := goodIn_app (goodIn_of _ (by decide +kernel)) ggX4_changeNumber_X3_slotBelowTop
set_option maxRecDepth 20000 in
theorem ggX4_changeNumber_X3_valueAt : GoodIn wsX4_changeNumber wsX3_valueAt := goodIn_r _ [40, 36, 32, 33, 34, 24, 35, 26, 114, 115, 116, 117, 118] (by decide +kernel) (by decide +kernel)
set_option maxRecDepth 20000 in
theorem gX4_changeNumber_X3_valueAt : GoodIn wsX4_changeNumber (wsV RX4 96 RX3 yX3_valueAt wsX3_valueAt) := goodIn_app (goodIn_of _ (by decide +kernel)) ggX4_changeNumber_X3_valueAt
set_option maxRecDepth 20000 in
theorem ggX4_changeNumber_X3_placesAt : GoodIn wsX4_changeNumber wsX3_placesAt := goodIn_r _ [44, 45, 32, 33, 34, 24, 35, 26, 36, 114, 115, 116, 117, 118] (by decide +kernel) (by decide +kernel)
set_option maxRecDepth 20000 in
theorem gX4_changeNumber_X3_placesAt : GoodIn wsX4_changeNumber (wsV RX4 100 RX3 yX3_placesAt wsX3_placesAt) := goodIn_app (goodIn_of _ (by decide +kernel)) ggX4_changeNumber_X3_placesAt
set_option maxRecDepth 20000 in
theorem ggX4_changeNumber_X0_asPlaces : GoodIn wsX4_changeNumber wsX0_asPlaces := goodIn_ca (goodIn_ca (goodIn_r _ [49, 50, 51, 52, 53, 54, 48, 55, 56, 57, 58, 59, 60, 4, 5, 6, 61, 62, 63, 64, 65, 66, 67, 68, 69, 70, 71, 72, 73, 74, 75, 76, 77, 78] (by decide +kernel) (by decide +kernel)) (goodIn_sub (fun _ h => List.mem_cons_of_mem _ (List.mem_append_left _ (List.mem_append_left _ (List.mem_append_right _ h)))) (by decide +kernel))) (goodIn_sub (fun _ h => List.mem_cons_of_mem _ (List.mem_append_left _ (List.mem_append_right _ h))) (by decide +kernel))
set_option maxRecDepth 20000 in
theorem gX4_changeNumber_X0_asPlaces : GoodIn wsX4_changeNumber (va_wsS RX4 218 yX0_asPlaces wsX0_asPlaces) := goodIn_app (goodIn_of _ (by decide +kernel)) ggX4_changeNumber_X0_asPlaces
set_option maxRecDepth 20000 in
theorem ggX4_changeNumber_X3_drop : GoodIn wsX4_changeNumber wsX3_drop := goodIn_r _ [82, 26, 83, 4, 5, 6, 114, 115, 116, 117, 118] (by decide +kernel) (by decide +kernel)
set_option maxRecDepth 20000 in
theorem gX4_changeNumber_X3_drop : GoodIn wsX4_changeNumber (wsV RX4 215 RX3 yX3_drop wsX3_drop) := goodIn_app (goodIn_of _ (by decide +kernel)) ggX4_changeNumber_X3_drop
set_option maxRecDepth 20000 in
theorem ggX4_changeNumber_X0_root : GoodIn wsX4_changeNumber wsX0_root := goodIn_ca (goodIn_ca (goodIn_r _ [86, 50, 51, 87, 88, 67, 68, 48, 69, 56, 57, 58, 59, 60, 4, 5, 6, 61, 62, 63, 70, 71, 72, 73, 74, 75, 76, 77, 78] (by decide +kernel) (by decide +kernel)) (goodIn_sub (fun _ h => List.mem_cons_of_mem _ (List.mem_append_left _ (List.mem_append_left _ (List.mem_append_right _ h)))) (by decide +kernel))) (goodIn_sub (fun _ h => List.mem_cons_of_mem _ (List.mem_append_left _ (List.mem_append_right _ h))) (by decide +kernel))
set_option maxRecDepth 20000 in
theorem gX4_changeNumber_X0_root : GoodIn wsX4_changeNumber (va_wsS RX4 221 yX0_root wsX0_root) := goodIn_app (goodIn_of _ (by decide +kernel)) ggX4_changeNumber_X0_root
set_option maxRecDepth 20000 in
theorem ggX4_changeNumber_X3_putNumber : GoodIn wsX4_changeNumber wsX3_putNumber := goodIn_ca (goodIn_r _ [92, 93, 94, 95, 24, 96, 97, 74, 26, 98, 99, 100, 101, 36, 102, 103, 104, 105, 45, 31, 106, 32, 33, 34, 35, 114, 115, 116, 117, 118] (by decide +kernel) (by decide +kernel)) (goodIn_sub (fun _ h => List.mem_cons_of_mem _ (List.mem_append_right _ h)) (by decide +kernel))
set_option maxRecDepth 20000 in
theorem gX4_changeNumber_X3_putNumber : GoodIn wsX4_changeNumber (wsV RX4 149 RX3 yX3_putNumber wsX3_putNumber) := goodIn_app (goodIn_of _ (by decide +kernel)) ggX4_changeNumber_X3_putNumber
theorem dX4_changeNumber_0 : decode cX4_changeNumber 0 = .ok (.aload_n 0, 1) := by decide +kernel
theorem dX4_changeNumber_1 : decode cX4_changeNumber 1 = .ok (.iconst 1, 1) := by decide +kernel
theorem dX4_changeNumber_2 : decode cX4_changeNumber 2 = .ok (.invokevirtual 182, 3) := by decide +kernel
theorem dX4_changeNumber_5 : decode cX4_changeNumber 5 = .ok (.aload_n 0, 1) := by decide +kernel
theorem dX4_changeNumber_6 : decode cX4_changeNumber 6 = .ok (.getfield 14, 3) := by decide +kernel
theorem dX4_changeNumber_9 : decode cX4_changeNumber 9 = .ok (.aload_n 0, 1) := by decide +kernel
theorem dX4_changeNumber_10 : decode cX4_changeNumber 10 = .ok (.getfield 14, 3) := by decide +kernel
theorem dX4_changeNumber_13 : decode cX4_changeNumber 13 = .ok (.iconst 0, 1) := by decide +kernel
theorem dX4_changeNumber_14 : decode cX4_changeNumber 14 = .ok (.invokevirtual 104, 3) := by decide +kernel
theorem dX4_changeNumber_17 : decode cX4_changeNumber 17 = .ok (.invokevirtual 96, 3) := by decide +kernel
theorem dX4_changeNumber_20 : decode cX4_changeNumber 20 = .ok (.lstore_n 2, 1) := by decide +kernel
theorem dX4_changeNumber_21 : decode cX4_changeNumber 21 = .ok (.aload_n 0, 1) := by decide +kernel
theorem dX4_changeNumber_22 : decode cX4_changeNumber 22 = .ok (.getfield 14, 3) := by decide +kernel
theorem dX4_changeNumber_25 : decode cX4_changeNumber 25 = .ok (.aload_n 0, 1) := by decide +kernel
theorem dX4_changeNumber_26 : decode cX4_changeNumber 26 = .ok (.getfield 14, 3) := by decide +kernel
theorem dX4_changeNumber_29 : decode cX4_changeNumber 29 = .ok (.iconst 0, 1) := by decide +kernel
theorem dX4_changeNumber_30 : decode cX4_changeNumber 30 = .ok (.invokevirtual 104, 3) := by decide +kernel
theorem dX4_changeNumber_33 : decode cX4_changeNumber 33 = .ok (.invokevirtual 100, 3) := by decide +kernel
theorem dX4_changeNumber_36 : decode cX4_changeNumber 36 = .ok (.istore 4, 2) := by decide +kernel
theorem dX4_changeNumber_38 : decode cX4_changeNumber 38 = .ok (.iload_n 1, 1) := by decide +kernel
theorem dX4_changeNumber_39 : decode cX4_changeNumber 39 = .ok (.bipush 107, 2) := by decide +kernel
theorem dX4_changeNumber_41 : decode cX4_changeNumber 41 = .ok (.if_icmp .ne 24, 3) := by decide +kernel
theorem dX4_changeNumber_44 : decode cX4_changeNumber 44 = .ok (.aload_n 0, 1) := by decide +kernel
theorem dX4_changeNumber_45 : decode cX4_changeNumber 45 = .ok (.lload_n 2, 1) := by decide +kernel
theorem dX4_changeNumber_46 : decode cX4_changeNumber 46 = .ok (.iload 4, 2) := by decide +kernel
theorem dX4_changeNumber_48 : decode cX4_changeNumber 48 = .ok (.invokestatic 218, 3) := by decide +kernel
theorem dX4_changeNumber_51 : decode cX4_changeNumber 51 = .ok (.putfield 39, 3) := by decide +kernel
theorem dX4_changeNumber_54 : decode cX4_changeNumber 54 = .ok (.aload_n 0, 1) := by decide +kernel
theorem dX4_changeNumber_55 : decode cX4_changeNumber 55 = .ok (.getfield 14, 3) := by decide +kernel
theorem dX4_changeNumber_58 : decode cX4_changeNumber 58 = .ok (.iconst 1, 1) := by decide +kernel
theorem dX4_changeNumber_59 : decode cX4_changeNumber 59 = .ok (.invokevirtual 215, 3) := by decide +kernel
theorem dX4_changeNumber_62 : decode cX4_changeNumber 62 = .ok (.goto 99, 3) := by decide +kernel
theorem dX4_changeNumber_65 : decode cX4_changeNumber 65 = .ok (.iload_n 1, 1) := by decide +kernel
theorem dX4_changeNumber_66 : decode cX4_changeNumber 66 = .ok (.bipush 118, 2) := by decide +kernel
theorem dX4_changeNumber_68 : decode cX4_changeNumber 68 = .ok (.if_icmp .ne 46, 3) := by decide +kernel
theorem dX4_changeNumber_71 : decode cX4_changeNumber 71 = .ok (.aload_n 0, 1) := by decide +kernel
theorem dX4_changeNumber_72 : decode cX4_changeNumber 72 = .ok (.getfield 39, 3) := by decide +kernel
theorem dX4_changeNumber_75 : decode cX4_changeNumber 75 = .ok (.iload 4, 2) := by decide +kernel
theorem dX4_changeNumber_77 : decode cX4_changeNumber 77 = .ok (.invokestatic 185, 3) := by decide +kernel
theorem dX4_changeNumber_80 : decode cX4_changeNumber 80 = .ok (.istore 5, 2) := by decide +kernel
theorem dX4_changeNumber_82 : decode cX4_changeNumber 82 = .ok (.lload_n 2, 1) := by decide +kernel
theorem dX4_changeNumber_83 : decode cX4_changeNumber 83 = .ok (.iload 4, 2) := by decide +kernel
theorem dX4_changeNumber_85 : decode cX4_changeNumber 85 = .ok (.iload 5, 2) := by decide +kernel
theorem dX4_changeNumber_87 : decode cX4_changeNumber 87 = .ok (.invokestatic 221, 3) := by decide +kernel
theorem dX4_changeNumber_90 : decode cX4_changeNumber 90 = .ok (.lstore 6, 2) := by decide +kernel
theorem dX4_changeNumber_92 : decode cX4_changeNumber 92 = .ok (.aload_n 0, 1) := by decide +kernel
theorem dX4_changeNumber_93 : decode cX4_changeNumber 93 = .ok (.getfield 14, 3) := by decide +kernel
theorem dX4_changeNumber_96 : decode cX4_changeNumber 96 = .ok (.iconst 1, 1) := by decide +kernel
theorem dX4_changeNumber_97 : decode cX4_changeNumber 97 = .ok (.invokevirtual 215, 3) := by decide +kernel
theorem dX4_changeNumber_100 : decode cX4_changeNumber 100 = .ok (.aload_n 0, 1) := by decide +kernel
theorem dX4_changeNumber_101 : decode cX4_changeNumber 101 = .ok (.getfield 14, 3) := by decide +kernel
theorem dX4_changeNumber_104 : decode cX4_changeNumber 104 = .ok (.lload 6, 2) := by decide +kernel
theorem dX4_changeNumber_106 : decode cX4_changeNumber 106 = .ok (.iload 5, 2) := by decide +kernel
theorem dX4_changeNumber_108 : decode cX4_changeNumber 108 = .ok (.invokevirtual 149, 3) := by decide +kernel
theorem dX4_changeNumber_111 : decode cX4_changeNumber 111 = .ok (.goto 50, 3) := by decide +kernel
theorem dX4_changeNumber_114 : decode cX4_changeNumber 114 = .ok (.iload_n 1, 1) := by decide +kernel
theorem dX4_changeNumber_115 : decode cX4_changeNumber 115 = .ok (.bipush 126, 2) := by decide +kernel
theorem dX4_changeNumber_117 : decode cX4_changeNumber 117 = .ok (.if_icmp .ne 25, 3) := by decide +kernel
theorem dX4_changeNumber_120 : decode cX4_changeNumber 120 = .ok (.aload_n 0, 1) := by decide +kernel
theorem dX4_changeNumber_121 : decode cX4_changeNumber 121 = .ok (.getfield 14, 3) := by decide +kernel
theorem dX4_changeNumber_124 : decode cX4_changeNumber 124 = .ok (.iconst 1, 1) := by decide +kernel
theorem dX4_changeNumber_125 : decode cX4_changeNumber 125 = .ok (.invokevirtual 215, 3) := by decide +kernel
theorem dX4_changeNumber_128 : decode cX4_changeNumber 128 = .ok (.aload_n 0, 1) := by decide +kernel
theorem dX4_changeNumber_129 : decode cX4_changeNumber 129 = .ok (.getfield 14, 3) := by decide +kernel
theorem dX4_changeNumber_132 : decode cX4_changeNumber 132 = .ok (.lload_n 2, 1) := by decide +kernel
theorem dX4_changeNumber_133 : decode cX4_changeNumber 133 = .ok (.lneg, 1) := by decide +kernel
theorem dX4_changeNumber_134 : decode cX4_changeNumber 134 = .ok (.iload 4, 2) := by decide +kernel
theorem dX4_changeNumber_136 : decode cX4_changeNumber 136 = .ok (.invokevirtual 149, 3) := by decide +kernel
theorem dX4_changeNumber_139 : decode cX4_changeNumber 139 = .ok (.goto 22, 3) := by decide +kernel
theorem dX4_changeNumber_142 : decode cX4_changeNumber 142 = .ok (.aload_n 0, 1) := by decide +kernel
theorem dX4_changeNumber_143 : decode cX4_changeNumber 143 = .ok (.getfield 14, 3) := by decide +kernel
theorem dX4_changeNumber_146 : decode cX4_changeNumber 146 = .ok (.iconst 1, 1) := by decide +kernel
theorem dX4_changeNumber_147 : decode cX4_changeNumber 147 = .ok (.invokevirtual 215, 3) := by decide +kernel
theorem dX4_changeNumber_150 : decode cX4_changeNumber 150 = .ok (.aload_n 0, 1) := by decide +kernel
theorem dX4_changeNumber_151 : decode cX4_changeNumber 151 = .ok (.getfield 14, 3) := by decide +kernel
theorem dX4_changeNumber_154 : decode cX4_changeNumber 154 = .ok (.iload 4, 2) := by decide +kernel
theorem dX4_changeNumber_156 : decode cX4_changeNumber 156 = .ok (.i2l, 1) := by decide +kernel
theorem dX4_changeNumber_157 : decode cX4_changeNumber 157 = .ok (.iconst 0, 1) := by decide +kernel
theorem dX4_changeNumber_158 : decode cX4_changeNumber 158 = .ok (.invokevirtual 149, 3) := by decide +kernel
theorem dX4_changeNumber_161 : decode cX4_changeNumber 161 = .ok (.return_, 1) := by decide +kernel
set_option maxRecDepth 20000 in
theorem ggX4_arrangeStack_X4_needItems : GoodIn wsX4_arrangeStack wsX4_needItems := goodIn_ca (goodIn_r _ [11, 12, 13, 3, 4, 83, 84, 85, 86, 87, 88, 89, 90, 91, 92, 93, 94] (by decide +kernel) (by decide +kernel)) (goodIn_sub (fun _ h => List.mem_cons_of_mem _ (List.mem_append_left _ (List.mem_append_right _ h))) (by decide +kernel))
set_option maxRecDepth 20000 in
theorem gX4_arrangeStack_X4_needItems : GoodIn wsX4_arrangeStack (wsV RX4 170 RX4 yX4_needItems wsX4_needItems) := goodIn_app (goodIn_of _ (by decide +kernel)) ggX4_arrangeStack_X4_needItems
set_option maxRecDepth 20000 in
theorem ggX4_arrangeStack_X3_putTopOf : GoodIn wsX4_arrangeStack wsX3_putTopOf := goodIn_ca (goodIn_r _ [18, 19, 20, 21, 17, 22, 23, 24, 25, 26, 27, 28, 29, 30, 31, 32, 33, 34, 35, 36, 37, 38, 39, 40, 41, 42, 43, 44, 45, 46, 47, 48, 49, 50, 51, 52, 53, 54, 55, 56, 57, 58, 59, 60, 61, 90, 91, 92, 93, 94] (by decide +kernel) (by decide +kernel)) (goodIn_sub (fun _ h => List.mem_cons_of_mem _ (List.mem_append_right _ h)) (by decide +kernel))
set_option maxRecDepth 20000 in
theorem gX4_arrangeStack_X3_putTopOf : GoodIn wsX4_arrangeStack (wsV RX4 225 RX3 yX3_putTopOf wsX3_putTopOf) := goodIn_app (goodIn_of _ (by decide +kernel)) ggX4_arrangeStack_X3_putTopOf
set_option maxRecDepth 20000 in
theorem ggX4_arrangeStack_X3_swapTopTwo : GoodIn wsX4_arrangeStack wsX3_swapTopTwo := goodIn_r _ [65, 19, 20, 21, 17, 22, 23, 24, 25, 26, 27, 28, 29, 30, 31, 32, 33, 34, 35, 36, 37, 38, 39, 40, 41, 42, 43, 44, 45, 46, 47, 58, 59, 60, 61, 90, 91, 92, 93, 94] (by decide +kernel) (by decide +kernel)
set_option maxRecDepth 20000 in
theorem gX4_arrangeStack_X3_swapTopTwo : GoodIn wsX4_arrangeStack (wsV RX4 229 RX3 yX3_swapTopTwo wsX3_swapTopTwo) := goodIn_app (goodIn_of _ (by decide +kernel)) ggX4_arrangeStack_X3_swapTopTwo
set_option maxRecDepth 20000 in
theorem ggX4_arrangeStack_X3_drop : GoodIn wsX4_arrangeStack wsX3_drop := goodIn_r _ [69, 23, 70, 71, 72, 73, 90, 91, 92, 93, 94] (by decide +kernel) (by decide +kernel)
set_option maxRecDepth 20000 in
theorem gX4_arrangeStack_X3_drop : GoodIn wsX4_arrangeStack (wsV RX4 215 RX3 yX3_drop wsX3_drop) := goodIn_app (goodIn_of _ (by decide +kernel)) ggX4_arrangeStack_X3_drop
set_option maxRecDepth 20000 in
theorem ggX4_arrangeStack_X3_clear : GoodIn wsX4_arrangeStack wsX3_clear := goodIn_r _ [77, 23, 90, 91, 92, 93, 94] (by decide +kernel) (by decide +kernel)
set_option maxRecDepth 20000 in
theorem gX4_arrangeStack_X3_clear : GoodIn wsX4_arrangeStack (wsV RX4 63 RX3 yX3_clear wsX3_clear) := goodIn_app (goodIn_of _ (by decide +kernel)) ggX4_arrangeStack_X3_clear
set_option maxRecDepth 20000 in
theorem ggX4_arrangeStack_X3_putNumber : GoodIn wsX4_arrangeStack wsX3_putNumber := goodIn_ca (goodIn_r _ [81, 48, 49, 50, 17, 51, 52, 53, 23, 54, 55, 56, 57, 28, 58, 59, 60, 61, 37, 42, 47, 29, 30, 31, 32, 90, 91, 92, 93, 94] (by decide +kernel) (by decide +kernel)) (goodIn_sub (fun _ h => List.mem_cons_of_mem _ (List.mem_append_right _ h)) (by decide +kernel))
set_option maxRecDepth 20000 in
theorem gX4_arrangeStack_X3_putNumber : GoodIn wsX4_arrangeStack (wsV RX4 149 RX3 yX3_putNumber wsX3_putNumber) := goodIn_app (goodIn_of _ (by decide +kernel)) ggX4_arrangeStack_X3_putNumber
set_option maxRecDepth 20000 in
theorem ggX4_arrangeStack_X3_isFull : GoodIn wsX4_arrangeStack wsX3_isFull := goodIn_r _ [57, 23, 28, 90, 91, 92, 93, 94] (by decide +kernel) (by decide +kernel)
set_option maxRecDepth 20000 in
theorem gX4_arrangeStack_X3_isFull : GoodIn wsX4_arrangeStack (wsV RX4 232 RX3 yX3_isFull wsX3_isFull) := goodIn_app (goodIn_of _ (by decide +kernel)) ggX4_arrangeStack_X3_isFull
theorem dX4_arrangeStack_0 : decode cX4_arrangeStack 0 = .ok (.iload_n 1, 1) := by decide +kernel
theorem dX4_arrangeStack_1 : decode cX4_arrangeStack 1 = .ok (.lookupswitch 191 #[(68, 101), (75, 146), (99, 117), (100, 67), (112, 162), (114, 86), (122, 127)], 67) := by decide +kernel
theorem dX4_arrangeStack_68 : decode cX4_arrangeStack 68 = .ok (.aload_n 0, 1) := by decide +kernel
theorem dX4_arrangeStack_69 : decode cX4_arrangeStack 69 = .ok (.iconst 1, 1) := by decide +kernel
theorem dX4_arrangeStack_70 : decode cX4_arrangeStack 70 = .ok (.invokevirtual 170, 3) := by decide +kernel
theorem dX4_arrangeStack_73 : decode cX4_arrangeStack 73 = .ok (.aload_n 0, 1) := by decide +kernel
theorem dX4_arrangeStack_74 : decode cX4_arrangeStack 74 = .ok (.getfield 14, 3) := by decide +kernel
theorem dX4_arrangeStack_77 : decode cX4_arrangeStack 77 = .ok (.aload_n 0, 1) := by decide +kernel
theorem dX4_arrangeStack_78 : decode cX4_arrangeStack 78 = .ok (.getfield 14, 3) := by decide +kernel
theorem dX4_arrangeStack_81 : decode cX4_arrangeStack 81 = .ok (.invokevirtual 225, 3) := by decide +kernel
theorem dX4_arrangeStack_84 : decode cX4_arrangeStack 84 = .ok (.goto 118, 3) := by decide +kernel
theorem dX4_arrangeStack_87 : decode cX4_arrangeStack 87 = .ok (.aload_n 0, 1) := by decide +kernel
theorem dX4_arrangeStack_88 : decode cX4_arrangeStack 88 = .ok (.iconst 2, 1) := by decide +kernel
theorem dX4_arrangeStack_89 : decode cX4_arrangeStack 89 = .ok (.invokevirtual 170, 3) := by decide +kernel
theorem dX4_arrangeStack_92 : decode cX4_arrangeStack 92 = .ok (.aload_n 0, 1) := by decide +kernel
theorem dX4_arrangeStack_93 : decode cX4_arrangeStack 93 = .ok (.getfield 14, 3) := by decide +kernel
theorem dX4_arrangeStack_96 : decode cX4_arrangeStack 96 = .ok (.invokevirtual 229, 3) := by decide +kernel
theorem dX4_arrangeStack_99 : decode cX4_arrangeStack 99 = .ok (.goto 103, 3) := by decide +kernel
theorem dX4_arrangeStack_102 : decode cX4_arrangeStack 102 = .ok (.aload_n 0, 1) := by decide +kernel
theorem dX4_arrangeStack_103 : decode cX4_arrangeStack 103 = .ok (.iconst 1, 1) := by decide +kernel
theorem dX4_arrangeStack_104 : decode cX4_arrangeStack 104 = .ok (.invokevirtual 170, 3) := by decide +kernel
theorem dX4_arrangeStack_107 : decode cX4_arrangeStack 107 = .ok (.aload_n 0, 1) := by decide +kernel
theorem dX4_arrangeStack_108 : decode cX4_arrangeStack 108 = .ok (.getfield 14, 3) := by decide +kernel
theorem dX4_arrangeStack_111 : decode cX4_arrangeStack 111 = .ok (.iconst 1, 1) := by decide +kernel
