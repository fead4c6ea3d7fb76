theorem dX4_arrangeStack_112 : decode cX4_arrangeStack 112 = .ok (.invokevirtual 215, 3) := by decide +kernel
theorem dX4_arrangeStack_115 : decode cX4_arrangeStack 115 = .ok (.goto 87, 3) := by decide +kernel
theorem dX4_arrangeStack_118 : decode cX4_arrangeStack 118 = .ok (.aload_n 0, 1) := by decide +kernel
theorem dX4_arrangeStack_119 : decode cX4_arrangeStack 119 = .ok (.getfield 14, 3) := by decide +kernel
theorem dX4_arrangeStack_122 : decode cX4_arrangeStack 122 = .ok (.invokevirtual 63, 3) := by decide +kernel
theorem dX4_arrangeStack_125 : decode cX4_arrangeStack 125 = .ok (.goto 77, 3) := by decide +kernel
theorem dX4_arrangeStack_128 : decode cX4_arrangeStack 128 = .ok (.aload_n 0, 1) := by decide +kernel
theorem dX4_arrangeStack_129 : decode cX4_arrangeStack 129 = .ok (.getfield 14, 3) := by decide +kernel
theorem dX4_arrangeStack_132 : decode cX4_arrangeStack 132 = .ok (.aload_n 0, 1) := by decide +kernel
theorem dX4_arrangeStack_133 : decode cX4_arrangeStack 133 = .ok (.getfield 14, 3) := by decide +kernel
theorem dX4_arrangeStack_136 : decode cX4_arrangeStack 136 = .ok (.getfield 95, 3) := by decide +kernel
theorem dX4_arrangeStack_139 : decode cX4_arrangeStack 139 = .ok (.i2l, 1) := by decide +kernel
theorem dX4_arrangeStack_140 : decode cX4_arrangeStack 140 = .ok (.iconst 0, 1) := by decide +kernel
theorem dX4_arrangeStack_141 : decode cX4_arrangeStack 141 = .ok (.invokevirtual 149, 3) := by decide +kernel
theorem dX4_arrangeStack_144 : decode cX4_arrangeStack 144 = .ok (.goto 58, 3) := by decide +kernel
theorem dX4_arrangeStack_147 : decode cX4_arrangeStack 147 = .ok (.aload_n 0, 1) := by decide +kernel
theorem dX4_arrangeStack_148 : decode cX4_arrangeStack 148 = .ok (.getfield 14, 3) := by decide +kernel
theorem dX4_arrangeStack_151 : decode cX4_arrangeStack 151 = .ok (.aload_n 0, 1) := by decide +kernel
theorem dX4_arrangeStack_152 : decode cX4_arrangeStack 152 = .ok (.getfield 39, 3) := by decide +kernel
theorem dX4_arrangeStack_155 : decode cX4_arrangeStack 155 = .ok (.i2l, 1) := by decide +kernel
theorem dX4_arrangeStack_156 : decode cX4_arrangeStack 156 = .ok (.iconst 0, 1) := by decide +kernel
theorem dX4_arrangeStack_157 : decode cX4_arrangeStack 157 = .ok (.invokevirtual 149, 3) := by decide +kernel
theorem dX4_arrangeStack_160 : decode cX4_arrangeStack 160 = .ok (.goto 42, 3) := by decide +kernel
theorem dX4_arrangeStack_163 : decode cX4_arrangeStack 163 = .ok (.aload_n 0, 1) := by decide +kernel
theorem dX4_arrangeStack_164 : decode cX4_arrangeStack 164 = .ok (.iconst 1, 1) := by decide +kernel
theorem dX4_arrangeStack_165 : decode cX4_arrangeStack 165 = .ok (.invokevirtual 170, 3) := by decide +kernel
theorem dX4_arrangeStack_168 : decode cX4_arrangeStack 168 = .ok (.aload_n 0, 1) := by decide +kernel
theorem dX4_arrangeStack_169 : decode cX4_arrangeStack 169 = .ok (.getfield 22, 3) := by decide +kernel
theorem dX4_arrangeStack_172 : decode cX4_arrangeStack 172 = .ok (.invokevirtual 232, 3) := by decide +kernel
theorem dX4_arrangeStack_175 : decode cX4_arrangeStack 175 = .ok (.ifCond .ne 27, 3) := by decide +kernel
theorem dX4_arrangeStack_178 : decode cX4_arrangeStack 178 = .ok (.aload_n 0, 1) := by decide +kernel
theorem dX4_arrangeStack_179 : decode cX4_arrangeStack 179 = .ok (.getfield 22, 3) := by decide +kernel
theorem dX4_arrangeStack_182 : decode cX4_arrangeStack 182 = .ok (.aload_n 0, 1) := by decide +kernel
theorem dX4_arrangeStack_183 : decode cX4_arrangeStack 183 = .ok (.getfield 14, 3) := by decide +kernel
theorem dX4_arrangeStack_186 : decode cX4_arrangeStack 186 = .ok (.invokevirtual 225, 3) := by decide +kernel
theorem dX4_arrangeStack_189 : decode cX4_arrangeStack 189 = .ok (.goto 13, 3) := by decide +kernel
theorem dX4_arrangeStack_192 : decode cX4_arrangeStack 192 = .ok (.new 56, 3) := by decide +kernel
theorem dX4_arrangeStack_195 : decode cX4_arrangeStack 195 = .ok (.dup, 1) := by decide +kernel
theorem dX4_arrangeStack_196 : decode cX4_arrangeStack 196 = .ok (.ldc 236, 2) := by decide +kernel
theorem dX4_arrangeStack_198 : decode cX4_arrangeStack 198 = .ok (.invokespecial 60, 3) := by decide +kernel
theorem dX4_arrangeStack_201 : decode cX4_arrangeStack 201 = .ok (.athrow, 1) := by decide +kernel
theorem dX4_arrangeStack_202 : decode cX4_arrangeStack 202 = .ok (.return_, 1) := by decide +kernel
set_option maxRecDepth 20000 in
theorem ggX4_registerOfLetter_X1_look : GoodIn wsX4_registerOfLetter wsX1_look := goodIn_r _ [8, 9, 10, 11, 12, 13, 14, 15, 7, 16, 17, 18, 19, 20, 21, 22, 23, 41, 42, 43, 44, 45, 46] (by decide +kernel) (by decide +kernel)
set_option maxRecDepth 20000 in
theorem gX4_registerOfLetter_X1_look : GoodIn wsX4_registerOfLetter (wsV RX4 80 RX1 yX1_look wsX1_look) := goodIn_app (goodIn_of _ (by decide +kernel)) ggX4_registerOfLetter_X1_look
set_option maxRecDepth 20000 in
theorem ggX4_registerOfLetter_X4_registerNumbered : GoodIn wsX4_registerOfLetter wsX4_registerNumbered := goodIn_r _ [28, 29, 34, 35, 36, 37, 38, 39, 40] (by decide +kernel) (by decide +kernel)
set_option maxRecDepth 20000 in
theorem gX4_registerOfLetter_X4_registerNumbered : GoodIn wsX4_registerOfLetter (wsV RX4 107 RX4 yX4_registerNumbered wsX4_registerNumbered) := goodIn_app (goodIn_of _ (by decide +kernel)) ggX4_registerOfLetter_X4_registerNumbered
set_option maxRecDepth 20000 in
theorem ggX4_registerOfLetter_X1_pass : GoodIn wsX4_registerOfLetter wsX1_pass := goodIn_r _ [33, 9, 10, 13, 14, 15, 7, 16, 12, 41, 42, 43, 44] (by decide +kernel) (by decide +kernel)
set_option maxRecDepth 20000 in
theorem gX4_registerOfLetter_X1_pass : GoodIn wsX4_registerOfLetter (wsV RX4 118 RX1 yX1_pass wsX1_pass) := goodIn_app (goodIn_of _ (by decide +kernel)) ggX4_registerOfLetter_X1_pass
theorem dX4_registerOfLetter_0 : decode cX4_registerOfLetter 0 = .ok (.aload_n 0, 1) := by decide +kernel
theorem dX4_registerOfLetter_1 : decode cX4_registerOfLetter 1 = .ok (.aload_n 0, 1) := by decide +kernel
theorem dX4_registerOfLetter_2 : decode cX4_registerOfLetter 2 = .ok (.getfield 28, 3) := by decide +kernel
theorem dX4_registerOfLetter_5 : decode cX4_registerOfLetter 5 = .ok (.invokevirtual 80, 3) := by decide +kernel
theorem dX4_registerOfLetter_8 : decode cX4_registerOfLetter 8 = .ok (.bipush 97, 2) := by decide +kernel
theorem dX4_registerOfLetter_10 : decode cX4_registerOfLetter 10 = .ok (.isub, 1) := by decide +kernel
theorem dX4_registerOfLetter_11 : decode cX4_registerOfLetter 11 = .ok (.invokevirtual 107, 3) := by decide +kernel
theorem dX4_registerOfLetter_14 : decode cX4_registerOfLetter 14 = .ok (.astore_n 1, 1) := by decide +kernel
theorem dX4_registerOfLetter_15 : decode cX4_registerOfLetter 15 = .ok (.aload_n 1, 1) := by decide +kernel
theorem dX4_registerOfLetter_16 : decode cX4_registerOfLetter 16 = .ok (.ifnonnull 13, 3) := by decide +kernel
theorem dX4_registerOfLetter_19 : decode cX4_registerOfLetter 19 = .ok (.new 56, 3) := by decide +kernel
theorem dX4_registerOfLetter_22 : decode cX4_registerOfLetter 22 = .ok (.dup, 1) := by decide +kernel
theorem dX4_registerOfLetter_23 : decode cX4_registerOfLetter 23 = .ok (.ldc 238, 2) := by decide +kernel
theorem dX4_registerOfLetter_25 : decode cX4_registerOfLetter 25 = .ok (.invokespecial 60, 3) := by decide +kernel
theorem dX4_registerOfLetter_28 : decode cX4_registerOfLetter 28 = .ok (.athrow, 1) := by decide +kernel
theorem dX4_registerOfLetter_29 : decode cX4_registerOfLetter 29 = .ok (.aload_n 0, 1) := by decide +kernel
theorem dX4_registerOfLetter_30 : decode cX4_registerOfLetter 30 = .ok (.getfield 28, 3) := by decide +kernel
theorem dX4_registerOfLetter_33 : decode cX4_registerOfLetter 33 = .ok (.invokevirtual 118, 3) := by decide +kernel
theorem dX4_registerOfLetter_36 : decode cX4_registerOfLetter 36 = .ok (.aload_n 1, 1) := by decide +kernel
theorem dX4_registerOfLetter_37 : decode cX4_registerOfLetter 37 = .ok (.areturn, 1) := by decide +kernel
theorem dX4_needHeld_0 : decode cX4_needHeld 0 = .ok (.aload_n 0, 1) := by decide +kernel
theorem dX4_needHeld_1 : decode cX4_needHeld 1 = .ok (.getfield 95, 3) := by decide +kernel
theorem dX4_needHeld_4 : decode cX4_needHeld 4 = .ok (.iconst 1, 1) := by decide +kernel
theorem dX4_needHeld_5 : decode cX4_needHeld 5 = .ok (.if_icmp .ge 13, 3) := by decide +kernel
theorem dX4_needHeld_8 : decode cX4_needHeld 8 = .ok (.new 165, 3) := by decide +kernel
theorem dX4_needHeld_11 : decode cX4_needHeld 11 = .ok (.dup, 1) := by decide +kernel
theorem dX4_needHeld_12 : decode cX4_needHeld 12 = .ok (.ldc 240, 2) := by decide +kernel
theorem dX4_needHeld_14 : decode cX4_needHeld 14 = .ok (.invokespecial 169, 3) := by decide +kernel
theorem dX4_needHeld_17 : decode cX4_needHeld 17 = .ok (.athrow, 1) := by decide +kernel
theorem dX4_needHeld_18 : decode cX4_needHeld 18 = .ok (.return_, 1) := by decide +kernel
set_option maxRecDepth 20000 in
theorem ggX4_moveToOrFromRegister_X4_registerOfLetter : GoodIn wsX4_moveToOrFromRegister wsX4_registerOfLetter := goodIn_ca (goodIn_r _ [6, 7, 8, 9, 10, 11, 12, 13, 14, 15, 16, 17, 18, 19, 20, 21, 22, 23, 24, 25, 26, 27, 28, 29, 30, 31, 32, 5, 33, 34, 35, 36, 37, 38, 105, 106, 107, 108, 109, 110, 111, 112, 113, 114, 115, 116, 117] (by decide +kernel) (by decide +kernel)) (goodIn_sub (fun _ h => List.mem_cons_of_mem _ (List.mem_append_left _ (List.mem_append_left _ (List.mem_append_right _ h)))) (by decide +kernel))
set_option maxRecDepth 20000 in
theorem gX4_moveToOrFromRegister_X4_registerOfLetter : GoodIn wsX4_moveToOrFromRegister (wsV RX4 242 RX4 yX4_registerOfLetter wsX4_registerOfLetter) := goodIn_app (goodIn_of _ (by decide +kernel)) ggX4_moveToOrFromRegister_X4_registerOfLetter
set_option maxRecDepth 20000 in
theorem ggX4_moveToOrFromRegister_X4_needItems : GoodIn wsX4_moveToOrFromRegister wsX4_needItems := goodIn_ca (goodIn_r _ [42, 43, 44, 1, 45, 105, 106, 107, 108, 109, 110, 111, 118, 119, 120, 121, 122] (by decide +kernel) (by decide +kernel)) (goodIn_sub (fun _ h => List.mem_cons_of_mem _ (List.mem_append_left _ (List.mem_append_right _ h))) (by decide +kernel))
set_option maxRecDepth 20000 in
theorem gX4_moveToOrFromRegister_X4_needItems : GoodIn wsX4_moveToOrFromRegister (wsV RX4 170 RX4 yX4_needItems wsX4_needItems) := goodIn_app (goodIn_of _ (by decide +kernel)) ggX4_moveToOrFromRegister_X4_needItems
set_option maxRecDepth 20000 in
theorem ggX4_moveToOrFromRegister_X3_drop : GoodIn wsX4_moveToOrFromRegister wsX3_drop := goodIn_r _ [50, 51, 52, 53, 54, 55, 118, 119, 120, 121, 122] (by decide +kernel) (by decide +kernel)
set_option maxRecDepth 20000 in
theorem gX4_moveToOrFromRegister_X3_drop : GoodIn wsX4_moveToOrFromRegister (wsV RX4 215 RX3 yX3_drop wsX3_drop) := goodIn_app (goodIn_of _ (by decide +kernel)) ggX4_moveToOrFromRegister_X3_drop
set_option maxRecDepth 20000 in
theorem ggX4_moveToOrFromRegister_X3_putTopOf : GoodIn wsX4_moveToOrFromRegister wsX3_putTopOf := goodIn_ca (goodIn_r _ [59, 60, 61, 62, 49, 63, 51, 64, 65, 66, 67, 68, 69, 70, 71, 72, 73, 74, 75, 76, 77, 78, 79, 80, 81, 82, 83, 84, 85, 86, 87, 88, 89, 90, 91, 92, 93, 94, 95, 96, 97, 98, 99, 100, 101, 118, 119, 120, 121, 122] (by decide +kernel) (by decide +kernel)) (goodIn_sub (fun _ h => List.mem_cons_of_mem _ (List.mem_append_right _ h)) (by decide +kernel))
set_option maxRecDepth 20000 in
theorem gX4_moveToOrFromRegister_X3_putTopOf : GoodIn wsX4_moveToOrFromRegister (wsV RX4 225 RX3 yX3_putTopOf wsX3_putTopOf) := goodIn_app (goodIn_of _ (by decide +kernel)) ggX4_moveToOrFromRegister_X3_putTopOf
set_option maxRecDepth 20000 in
theorem ggX4_moveToOrFromRegister_X4_needHeld : GoodIn wsX4_moveToOrFromRegister wsX4_needHeld := goodIn_ca (goodIn_r _ [104, 43, 44, 45, 118, 119, 120, 121, 122] (by decide +kernel) (by decide +kernel)) (goodIn_sub (fun _ h => List.mem_cons_of_mem _ (List.mem_append_left _ (List.mem_append_right _ h))) (by decide +kernel))
set_option maxRecDepth 20000 in
theorem gX4_moveToOrFromRegister_X4_needHeld : GoodIn wsX4_moveToOrFromRegister (va_wsS RX4 246 yX4_needHeld wsX4_needHeld) := goodIn_app (goodIn_of _ (by decide +kernel)) ggX4_moveToOrFromRegister_X4_needHeld
theorem dX4_moveToOrFromRegister_0 : decode cX4_moveToOrFromRegister 0 = .ok (.aload_n 0, 1) := by decide +kernel
theorem dX4_moveToOrFromRegister_1 : decode cX4_moveToOrFromRegister 1 = .ok (.invokevirtual 242, 3) := by decide +kernel
theorem dX4_moveToOrFromRegister_4 : decode cX4_moveToOrFromRegister 4 = .ok (.astore_n 2, 1) := by decide +kernel
theorem dX4_moveToOrFromRegister_5 : decode cX4_moveToOrFromRegister 5 = .ok (.iload_n 1, 1) := by decide +kernel
theorem dX4_moveToOrFromRegister_6 : decode cX4_moveToOrFromRegister 6 = .ok (.bipush 115, 2) := by decide +kernel
theorem dX4_moveToOrFromRegister_8 : decode cX4_moveToOrFromRegister 8 = .ok (.if_icmp .ne 32, 3) := by decide +kernel
theorem dX4_moveToOrFromRegister_11 : decode cX4_moveToOrFromRegister 11 = .ok (.aload_n 0, 1) := by decide +kernel
theorem dX4_moveToOrFromRegister_12 : decode cX4_moveToOrFromRegister 12 = .ok (.iconst 1, 1) := by decide +kernel
theorem dX4_moveToOrFromRegister_13 : decode cX4_moveToOrFromRegister 13 = .ok (.invokevirtual 170, 3) := by decide +kernel
theorem dX4_moveToOrFromRegister_16 : decode cX4_moveToOrFromRegister 16 = .ok (.aload_n 2, 1) := by decide +kernel
theorem dX4_moveToOrFromRegister_17 : decode cX4_moveToOrFromRegister 17 = .ok (.iconst 1, 1) := by decide +kernel
theorem dX4_moveToOrFromRegister_18 : decode cX4_moveToOrFromRegister 18 = .ok (.invokevirtual 215, 3) := by decide +kernel
theorem dX4_moveToOrFromRegister_21 : decode cX4_moveToOrFromRegister 21 = .ok (.aload_n 2, 1) := by decide +kernel
theorem dX4_moveToOrFromRegister_22 : decode cX4_moveToOrFromRegister 22 = .ok (.aload_n 0, 1) := by decide +kernel
theorem dX4_moveToOrFromRegister_23 : decode cX4_moveToOrFromRegister 23 = .ok (.getfield 14, 3) := by decide +kernel
theorem dX4_moveToOrFromRegister_26 : decode cX4_moveToOrFromRegister 26 = .ok (.invokevirtual 225, 3) := by decide +kernel
theorem dX4_moveToOrFromRegister_29 : decode cX4_moveToOrFromRegister 29 = .ok (.aload_n 0, 1) := by decide +kernel
theorem dX4_moveToOrFromRegister_30 : decode cX4_moveToOrFromRegister 30 = .ok (.getfield 14, 3) := by decide +kernel
theorem dX4_moveToOrFromRegister_33 : decode cX4_moveToOrFromRegister 33 = .ok (.iconst 1, 1) := by decide +kernel
theorem dX4_moveToOrFromRegister_34 : decode cX4_moveToOrFromRegister 34 = .ok (.invokevirtual 215, 3) := by decide +kernel
theorem dX4_moveToOrFromRegister_37 : decode cX4_moveToOrFromRegister 37 = .ok (.goto 60, 3) := by decide +kernel
theorem dX4_moveToOrFromRegister_40 : decode cX4_moveToOrFromRegister 40 = .ok (.iload_n 1, 1) := by decide +kernel
theorem dX4_moveToOrFromRegister_41 : decode cX4_moveToOrFromRegister 41 = .ok (.bipush 83, 2) := by decide +kernel
theorem dX4_moveToOrFromRegister_43 : decode cX4_moveToOrFromRegister 43 = .ok (.if_icmp .ne 27, 3) := by decide +kernel
theorem dX4_moveToOrFromRegister_46 : decode cX4_moveToOrFromRegister 46 = .ok (.aload_n 0, 1) := by decide +kernel
theorem dX4_moveToOrFromRegister_47 : decode cX4_moveToOrFromRegister 47 = .ok (.iconst 1, 1) := by decide +kernel
theorem dX4_moveToOrFromRegister_48 : decode cX4_moveToOrFromRegister 48 = .ok (.invokevirtual 170, 3) := by decide +kernel
theorem dX4_moveToOrFromRegister_51 : decode cX4_moveToOrFromRegister 51 = .ok (.aload_n 2, 1) := by decide +kernel
theorem dX4_moveToOrFromRegister_52 : decode cX4_moveToOrFromRegister 52 = .ok (.aload_n 0, 1) := by decide +kernel
theorem dX4_moveToOrFromRegister_53 : decode cX4_moveToOrFromRegister 53 = .ok (.getfield 14, 3) := by decide +kernel
theorem dX4_moveToOrFromRegister_56 : decode cX4_moveToOrFromRegister 56 = .ok (.invokevirtual 225, 3) := by decide +kernel
theorem dX4_moveToOrFromRegister_59 : decode cX4_moveToOrFromRegister 59 = .ok (.aload_n 0, 1) := by decide +kernel
theorem dX4_moveToOrFromRegister_60 : decode cX4_moveToOrFromRegister 60 = .ok (.getfield 14, 3) := by decide +kernel
theorem dX4_moveToOrFromRegister_63 : decode cX4_moveToOrFromRegister 63 = .ok (.iconst 1, 1) := by decide +kernel
theorem dX4_moveToOrFromRegister_64 : decode cX4_moveToOrFromRegister 64 = .ok (.invokevirtual 215, 3) := by decide +kernel
theorem dX4_moveToOrFromRegister_67 : decode cX4_moveToOrFromRegister 67 = .ok (.goto 30, 3) := by decide +kernel
theorem dX4_moveToOrFromRegister_70 : decode cX4_moveToOrFromRegister 70 = .ok (.aload_n 2, 1) := by decide +kernel
theorem dX4_moveToOrFromRegister_71 : decode cX4_moveToOrFromRegister 71 = .ok (.invokestatic 246, 3) := by decide +kernel
theorem dX4_moveToOrFromRegister_74 : decode cX4_moveToOrFromRegister 74 = .ok (.aload_n 0, 1) := by decide +kernel
theorem dX4_moveToOrFromRegister_75 : decode cX4_moveToOrFromRegister 75 = .ok (.getfield 14, 3) := by decide +kernel
theorem dX4_moveToOrFromRegister_78 : decode cX4_moveToOrFromRegister 78 = .ok (.aload_n 2, 1) := by decide +kernel
theorem dX4_moveToOrFromRegister_79 : decode cX4_moveToOrFromRegister 79 = .ok (.invokevirtual 225, 3) := by decide +kernel
theorem dX4_moveToOrFromRegister_82 : decode cX4_moveToOrFromRegister 82 = .ok (.aload_n 2, 1) := by decide +kernel
theorem dX4_moveToOrFromRegister_83 : decode cX4_moveToOrFromRegister 83 = .ok (.iload_n 1, 1) := by decide +kernel
theorem dX4_moveToOrFromRegister_84 : decode cX4_moveToOrFromRegister 84 = .ok (.bipush 76, 2) := by decide +kernel
theorem dX4_moveToOrFromRegister_86 : decode cX4_moveToOrFromRegister 86 = .ok (.if_icmp .ne 7, 3) := by decide +kernel
theorem dX4_moveToOrFromRegister_89 : decode cX4_moveToOrFromRegister 89 = .ok (.iconst 1, 1) := by decide +kernel
theorem dX4_moveToOrFromRegister_90 : decode cX4_moveToOrFromRegister 90 = .ok (.goto 4, 3) := by decide +kernel
theorem dX4_moveToOrFromRegister_93 : decode cX4_moveToOrFromRegister 93 = .ok (.iconst 0, 1) := by decide +kernel
theorem dX4_moveToOrFromRegister_94 : decode cX4_moveToOrFromRegister 94 = .ok (.invokevirtual 215, 3) := by decide +kernel
theorem dX4_moveToOrFromRegister_97 : decode cX4_moveToOrFromRegister 97 = .ok (.return_, 1) := by decide +kernel
set_option maxRecDepth 20000 in
theorem ggX4_runTop_X4_needItems : GoodIn wsX4_runTop wsX4_needItems := goodIn_ca (goodIn_r _ [7, 8, 9, 1, 10, 87, 88, 89, 90, 91, 92, 93, 94, 95, 96, 97, 98] (by decide +kernel) (by decide +kernel)) (goodIn_sub (fun _ h => List.mem_cons_of_mem _ (List.mem_append_left _ (List.mem_append_right _ h))) (by decide +kernel))
set_option maxRecDepth 20000 in
theorem gX4_runTop_X4_needItems : GoodIn wsX4_runTop (wsV RX4 170 RX4 yX4_needItems wsX4_needItems) := goodIn_app (goodIn_of _ (by decide +kernel)) ggX4_runTop_X4_needItems
set_option maxRecDepth 20000 in
theorem ggX4_runTop_X3_slotBelowTop : GoodIn wsX4_runTop wsX3_slotBelowTop := goodIn_r _ [15, 16, 94, 95, 96, 97, 98] (by decide +kernel) (by decide +kernel)
set_option maxRecDepth 20000 in
theorem gX4_runTop_X3_slotBelowTop : GoodIn wsX4_runTop (wsV RX4 104 RX3 yX3_slotBelowTop wsX3_slotBelowTop) := goodIn_app (goodIn_of _ (by decide +kernel)) ggX4_runTop_X3_slotBelowTop
set_option maxRecDepth 20000 in
theorem ggX4_runTop_X3_rowAt : GoodIn wsX4_runTop wsX3_rowAt := goodIn_r _ [20, 21, 22, 23, 24, 14, 25, 16, 26, 94, 95, 96, 97, 98] (by decide +kernel) (by decide +kernel)
set_option maxRecDepth 20000 in
theorem gX4_runTop_X3_rowAt : GoodIn wsX4_runTop (wsV RX4 173 RX3 yX3_rowAt wsX3_rowAt) := goodIn_app (goodIn_of _ (by decide +kernel)) ggX4_runTop_X3_rowAt
set_option maxRecDepth 20000 in
theorem ggX4_runTop_X3_startAt : GoodIn wsX4_runTop wsX3_startAt := goodIn_r _ [30, 31, 22, 23, 24, 14, 25, 16, 26, 94, 95, 96, 97, 98] (by decide +kernel) (by decide +kernel)
set_option maxRecDepth 20000 in
theorem gX4_runTop_X3_startAt : GoodIn wsX4_runTop (wsV RX4 249 RX3 yX3_startAt wsX3_startAt) := goodIn_app (goodIn_of _ (by decide +kernel)) ggX4_runTop_X3_startAt
set_option maxRecDepth 20000 in
theorem ggX4_runTop_X3_valueAt : GoodIn wsX4_runTop wsX3_valueAt := goodIn_r _ [35, 26, 22, 23, 24, 14, 25, 16, 94, 95, 96, 97, 98] (by decide +kernel) (by decide +kernel)
set_option maxRecDepth 20000 in
theorem gX4_runTop_X3_valueAt : GoodIn wsX4_runTop (wsV RX4 96 RX3 yX3_valueAt wsX3_valueAt) := goodIn_app (goodIn_of _ (by decide +kernel)) ggX4_runTop_X3_valueAt
set_option maxRecDepth 20000 in
theorem ggX4_runTop_X1_enterMacro : GoodIn wsX4_runTop wsX1_enterMacro := goodIn_ca (goodIn_r _ [40, 41, 42, 43, 39, 44, 45, 46, 47, 48, 49, 50, 51, 52, 53, 54, 55, 56, 57, 58, 59, 60, 61, 62, 63, 64, 65, 66, 67, 68, 69, 70, 71, 72, 73, 74, 75, 76, 77, 78, 79, 80, 81, 99, 100, 101, 102, 103, 104] (by decide +kernel) (by decide +kernel)) (goodIn_sub (fun _ h => List.mem_cons_of_mem _ (List.mem_append_right _ h)) (by decide +kernel))
set_option maxRecDepth 20000 in
theorem gX4_runTop_X1_enterMacro : GoodIn wsX4_runTop (wsV RX4 252 RX1 yX1_enterMacro wsX1_enterMacro) := goodIn_app (goodIn_of _ (by decide +kernel)) ggX4_runTop_X1_enterMacro
set_option maxRecDepth 20000 in
theorem ggX4_runTop_X3_drop : GoodIn wsX4_runTop wsX3_drop := goodIn_r _ [85, 16, 86, 73, 74, 75, 94, 95, 96, 97, 98] (by decide +kernel) (by decide +kernel)
set_option maxRecDepth 20000 in
theorem gX4_runTop_X3_drop : GoodIn wsX4_runTop (wsV RX4 215 RX3 yX3_drop wsX3_drop) := goodIn_app (goodIn_of _ (by decide +kernel)) ggX4_runTop_X3_drop
theorem dX4_runTop_0 : decode cX4_runTop 0 = .ok (.aload_n 0, 1) := by decide +kernel
theorem dX4_runTop_1 : decode cX4_runTop 1 = .ok (.iconst 1, 1) := by decide +kernel
theorem dX4_runTop_2 : decode cX4_runTop 2 = .ok (.invokevirtual 170, 3) := by decide +kernel
theorem dX4_runTop_5 : decode cX4_runTop 5 = .ok (.aload_n 0, 1) := by decide +kernel
theorem dX4_runTop_6 : decode cX4_runTop 6 = .ok (.getfield 14, 3) := by decide +kernel
theorem dX4_runTop_9 : decode cX4_runTop 9 = .ok (.iconst 0, 1) := by decide +kernel
theorem dX4_runTop_10 : decode cX4_runTop 10 = .ok (.invokevirtual 104, 3) := by decide +kernel
theorem dX4_runTop_13 : decode cX4_runTop 13 = .ok (.istore_n 1, 1) := by decide +kernel
theorem dX4_runTop_14 : decode cX4_runTop 14 = .ok (.aload_n 0, 1) := by decide +kernel
theorem dX4_runTop_15 : decode cX4_runTop 15 = .ok (.getfield 14, 3) := by decide +kernel
theorem dX4_runTop_18 : decode cX4_runTop 18 = .ok (.iload_n 1, 1) := by decide +kernel
theorem dX4_runTop_19 : decode cX4_runTop 19 = .ok (.invokevirtual 173, 3) := by decide +kernel
theorem dX4_runTop_22 : decode cX4_runTop 22 = .ok (.astore_n 2, 1) := by decide +kernel
theorem dX4_runTop_23 : decode cX4_runTop 23 = .ok (.aload_n 2, 1) := by decide +kernel
theorem dX4_runTop_24 : decode cX4_runTop 24 = .ok (.ifnull 36, 3) := by decide +kernel
theorem dX4_runTop_27 : decode cX4_runTop 27 = .ok (.aload_n 0, 1) := by decide +kernel
theorem dX4_runTop_28 : decode cX4_runTop 28 = .ok (.getfield 28, 3) := by decide +kernel
theorem dX4_runTop_31 : decode cX4_runTop 31 = .ok (.aload_n 2, 1) := by decide +kernel
theorem dX4_runTop_32 : decode cX4_runTop 32 = .ok (.aload_n 0, 1) := by decide +kernel
theorem dX4_runTop_33 : decode cX4_runTop 33 = .ok (.getfield 14, 3) := by decide +kernel
theorem dX4_runTop_36 : decode cX4_runTop 36 = .ok (.iload_n 1, 1) := by decide +kernel
theorem dX4_runTop_37 : decode cX4_runTop 37 = .ok (.invokevirtual 249, 3) := by decide +kernel
theorem dX4_runTop_40 : decode cX4_runTop 40 = .ok (.aload_n 0, 1) := by decide +kernel
theorem dX4_runTop_41 : decode cX4_runTop 41 = .ok (.getfield 14, 3) := by decide +kernel
theorem dX4_runTop_44 : decode cX4_runTop 44 = .ok (.iload_n 1, 1) := by decide +kernel
theorem dX4_runTop_45 : decode cX4_runTop 45 = .ok (.invokevirtual 96, 3) := by decide +kernel
theorem dX4_runTop_48 : decode cX4_runTop 48 = .ok (.l2i, 1) := by decide +kernel
theorem dX4_runTop_49 : decode cX4_runTop 49 = .ok (.invokevirtual 252, 3) := by decide +kernel
theorem dX4_runTop_52 : decode cX4_runTop 52 = .ok (.aload_n 0, 1) := by decide +kernel
theorem dX4_runTop_53 : decode cX4_runTop 53 = .ok (.getfield 14, 3) := by decide +kernel
theorem dX4_runTop_56 : decode cX4_runTop 56 = .ok (.iconst 1, 1) := by decide +kernel
theorem dX4_runTop_57 : decode cX4_runTop 57 = .ok (.invokevirtual 215, 3) := by decide +kernel
theorem dX4_runTop_60 : decode cX4_runTop 60 = .ok (.return_, 1) := by decide +kernel
set_option maxRecDepth 20000 in
theorem ggX4_runIfOrdered_X4_registerOfLetter : GoodIn wsX4_runIfOrdered wsX4_registerOfLetter := goodIn_ca (goodIn_r _ [9, 10, 11, 4, 12, 13, 14, 15, 16, 17, 18, 19, 20, 21, 22, 23, 24, 25, 26, 27, 28, 29, 30, 31, 32, 33, 34, 8, 35, 36, 37, 38, 39, 40, 141, 142, 143, 144, 145, 146, 147, 148, 149, 150, 151, 152, 153] (by decide +kernel) (by decide +kernel)) (goodIn_sub (fun _ h => List.mem_cons_of_mem _ (List.mem_append_left _ (List.mem_append_left _ (List.mem_append_left _ (List.mem_append_right _ h))))) (by decide +kernel))
set_option maxRecDepth 20000 in
theorem gX4_runIfOrdered_X4_registerOfLetter : GoodIn wsX4_runIfOrdered (wsV RX4 242 RX4 yX4_registerOfLetter wsX4_registerOfLetter) := goodIn_app (goodIn_of _ (by decide +kernel)) ggX4_runIfOrdered_X4_registerOfLetter
set_option maxRecDepth 20000 in
theorem ggX4_runIfOrdered_X4_needNumbers : GoodIn wsX4_runIfOrdered wsX4_needNumbers := goodIn_ca (goodIn_ca (goodIn_r _ [44, 1, 2, 3, 45, 46, 47, 8, 48, 49, 50, 51, 52, 53, 54, 55, 56, 57, 58, 59, 60, 61, 62, 63, 64, 65, 66, 67, 141, 142, 143, 144, 145, 146, 147, 154, 155, 156, 157, 158] (by decide +kernel) (by decide +kernel)) (goodIn_sub (fun _ h => List.mem_cons_of_mem _ (List.mem_append_left _ (List.mem_append_left _ (List.mem_append_left _ (List.mem_append_left _ (List.mem_append_right _ h)))))) (by decide +kernel))) (goodIn_sub (fun _ h => List.mem_cons_of_mem _ (List.mem_append_left _ (List.mem_append_left _ (List.mem_append_right _ h)))) (by decide +kernel))
set_option maxRecDepth 20000 in
theorem gX4_runIfOrdered_X4_needNumbers : GoodIn wsX4_runIfOrdered (wsV RX4 182 RX4 yX4_needNumbers wsX4_needNumbers) := goodIn_app (goodIn_of _ (by decide +kernel)) ggX4_runIfOrdered_X4_needNumbers
set_option maxRecDepth 20000 in
theorem ggX4_runIfOrdered_X3_slotBelowTop : GoodIn wsX4_runIfOrdered wsX3_slotBelowTop := goodIn_r _ [56, 57, 154, 155, 156, 157, 158] (by decide +kernel) (by decide +kernel)
set_option maxRecDepth 20000 in
theorem gX4_runIfOrdered_X3_slotBelowTop : GoodIn wsX4_runIfOrdered (wsV RX4 104 RX3 yX3_slotBelowTop wsX3_slotBelowTop) := goodIn_app (goodIn_of _ (by decide +kernel)) ggX4_runIfOrdered_X3_slotBelowTop
set_option maxRecDepth 20000 in
theorem ggX4_runIfOrdered_X3_valueAt : GoodIn wsX4_runIfOrdered wsX3_valueAt := goodIn_r _ [71, 67, 63, 64, 65, 55, 66, 57, 154, 155, 156, 157, 158] (by decide +kernel) (by decide +kernel)
set_option maxRecDepth 20000 in
theorem gX4_runIfOrdered_X3_valueAt : GoodIn wsX4_runIfOrdered (wsV RX4 96 RX3 yX3_valueAt wsX3_valueAt) := goodIn_app (goodIn_of _ (by decide +kernel)) ggX4_runIfOrdered_X3_valueAt
set_option maxRecDepth 20000 in
theorem ggX4_runIfOrdered_X3_placesAt : GoodIn wsX4_runIfOrdered wsX3_placesAt := goodIn_r _ [75, 76, 63, 64, 65, 55, 66, 57, 67, 154, 155, 156, 157, 158] (by decide +kernel) (by decide +kernel)
set_option maxRecDepth 20000 in
theorem gX4_runIfOrdered_X3_placesAt : GoodIn wsX4_runIfOrdered (wsV RX4 100 RX3 yX3_placesAt wsX3_placesAt) := goodIn_app (goodIn_of _ (by decide +kernel)) ggX4_runIfOrdered_X3_placesAt
set_option maxRecDepth 20000 in
theorem ggX4_runIfOrdered_X0_order : GoodIn wsX4_runIfOrdered wsX0_order := goodIn_ca (goodIn_r _ [80, 81, 82, 83, 84, 85, 86, 79, 87, 88, 89, 90, 91, 92, 93, 94, 95, 96, 97, 98, 99, 100, 101, 102, 103, 104, 105, 106, 107] (by decide +kernel) (by decide +kernel)) (goodIn_sub (fun _ h => List.mem_cons_of_mem _ (List.mem_append_left _ (List.mem_append_right _ h))) (by decide +kernel))
set_option maxRecDepth 20000 in
theorem gX4_runIfOrdered_X0_order : GoodIn wsX4_runIfOrdered (va_wsS RX4 255 yX0_order wsX0_order) := goodIn_app (goodIn_of _ (by decide +kernel)) ggX4_runIfOrdered_X0_order
set_option maxRecDepth 20000 in
theorem ggX4_runIfOrdered_X4_needHeld : GoodIn wsX4_runIfOrdered wsX4_needHeld := goodIn_ca (goodIn_r _ [110, 49, 50, 51, 154, 155, 156, 157, 158] (by decide +kernel) (by decide +kernel)) (goodIn_sub (fun _ h => List.mem_cons_of_mem _ (List.mem_append_left _ (List.mem_append_left _ (List.mem_append_right _ h)))) (by decide +kernel))
set_option maxRecDepth 20000 in
theorem gX4_runIfOrdered_X4_needHeld : GoodIn wsX4_runIfOrdered (va_wsS RX4 246 yX4_needHeld wsX4_needHeld) := goodIn_app (goodIn_of _ (by decide +kernel)) ggX4_runIfOrdered_X4_needHeld
set_option maxRecDepth 20000 in
theorem ggX4_runIfOrdered_X3_rowAt : GoodIn wsX4_runIfOrdered wsX3_rowAt := goodIn_r _ [61, 62, 63, 64, 65, 55, 66, 57, 67, 154, 155, 156, 157, 158] (by decide +kernel) (by decide +kernel)
set_option maxRecDepth 20000 in
theorem gX4_runIfOrdered_X3_rowAt : GoodIn wsX4_runIfOrdered (wsV RX4 173 RX3 yX3_rowAt wsX3_rowAt) := goodIn_app (goodIn_of _ (by decide +kernel)) ggX4_runIfOrdered_X3_rowAt
set_option maxRecDepth 20000 in
theorem ggX4_runIfOrdered_X3_startAt : GoodIn wsX4_runIfOrdered wsX3_startAt := goodIn_r _ [114, 115, 63, 64, 65, 55, 66, 57, 67, 154, 155, 156, 157, 158] (by decide +kernel) (by decide +kernel)
set_option maxRecDepth 20000 in
theorem gX4_runIfOrdered_X3_startAt : GoodIn wsX4_runIfOrdered (wsV RX4 249 RX3 yX3_startAt wsX3_startAt) := goodIn_app (goodIn_of _ (by decide +kernel)) ggX4_runIfOrdered_X3_startAt
set_option maxRecDepth 20000 in
theorem ggX4_runIfOrdered_X1_enterMacro : GoodIn wsX4_runIfOrdered wsX1_enterMacro := goodIn_ca (goodIn_r _ [119, 120, 121, 122, 15, 123, 124, 13, 14, 16, 17, 18, 19, 20, 21, 22, 23, 24, 25, 26, 27, 28, 29, 30, 31, 125, 38, 39, 40, 126, 127, 128, 129, 130, 82, 83, 84, 131, 132, 133, 134, 135, 99, 148, 149, 150, 151, 152, 153] (by decide +kernel) (by decide +kernel)) (goodIn_sub (fun _ h => List.mem_cons_of_mem _ (List.mem_append_right _ h)) (by decide +kernel))
set_option maxRecDepth 20000 in
theorem gX4_runIfOrdered_X1_enterMacro : GoodIn wsX4_runIfOrdered (wsV RX4 252 RX1 yX1_enterMacro wsX1_enterMacro) := goodIn_app (goodIn_of _ (by decide +kernel)) ggX4_runIfOrdered_X1_enterMacro
set_option maxRecDepth 20000 in
theorem ggX4_runIfOrdered_X3_drop : GoodIn wsX4_runIfOrdered wsX3_drop := goodIn_r _ [139, 57, 140, 82, 83, 84, 154, 155, 156, 157, 158] (by decide +kernel) (by decide +kernel)
set_option maxRecDepth 20000 in
theorem gX4_runIfOrdered_X3_drop : GoodIn wsX4_runIfOrdered (wsV RX4 215 RX3 yX3_drop wsX3_drop) := goodIn_app (goodIn_of _ (by decide +kernel)) ggX4_runIfOrdered_X3_drop
theorem dX4_runIfOrdered_0 : decode cX4_runIfOrdered 0 = .ok (.aload_n 0, 1) := by decide +kernel
theorem dX4_runIfOrdered_1 : decode cX4_runIfOrdered 1 = .ok (.invokevirtual 242, 3) := by decide +kernel
theorem dX4_runIfOrdered_4 : decode cX4_runIfOrdered 4 = .ok (.astore_n 2, 1) := by decide +kernel
theorem dX4_runIfOrdered_5 : decode cX4_runIfOrdered 5 = .ok (.aload_n 0, 1) := by decide +kernel
theorem dX4_runIfOrdered_6 : decode cX4_runIfOrdered 6 = .ok (.iconst 2, 1) := by decide +kernel
theorem dX4_runIfOrdered_7 : decode cX4_runIfOrdered 7 = .ok (.invokevirtual 182, 3) := by decide +kernel
theorem dX4_runIfOrdered_10 : decode cX4_runIfOrdered 10 = .ok (.aload_n 0, 1) := by decide +kernel
theorem dX4_runIfOrdered_11 : decode cX4_runIfOrdered 11 = .ok (.getfield 14, 3) := by decide +kernel
theorem dX4_runIfOrdered_14 : decode cX4_runIfOrdered 14 = .ok (.iconst 1, 1) := by decide +kernel
theorem dX4_runIfOrdered_15 : decode cX4_runIfOrdered 15 = .ok (.invokevirtual 104, 3) := by decide +kernel
theorem dX4_runIfOrdered_18 : decode cX4_runIfOrdered 18 = .ok (.istore_n 3, 1) := by decide +kernel
theorem dX4_runIfOrdered_19 : decode cX4_runIfOrdered 19 = .ok (.aload_n 0, 1) := by decide +kernel
theorem dX4_runIfOrdered_20 : decode cX4_runIfOrdered 20 = .ok (.getfield 14, 3) := by decide +kernel
theorem dX4_runIfOrdered_23 : decode cX4_runIfOrdered 23 = .ok (.iconst 0, 1) := by decide +kernel
theorem dX4_runIfOrdered_24 : decode cX4_runIfOrdered 24 = .ok (.invokevirtual 104, 3) := by decide +kernel
theorem dX4_runIfOrdered_27 : decode cX4_runIfOrdered 27 = .ok (.istore 4, 2) := by decide +kernel
theorem dX4_runIfOrdered_29 : decode cX4_runIfOrdered 29 = .ok (.aload_n 0, 1) := by decide +kernel
theorem dX4_runIfOrdered_30 : decode cX4_runIfOrdered 30 = .ok (.getfield 14, 3) := by decide +kernel
theorem dX4_runIfOrdered_33 : decode cX4_runIfOrdered 33 = .ok (.iload 4, 2) := by decide +kernel
theorem dX4_runIfOrdered_35 : decode cX4_runIfOrdered 35 = .ok (.invokevirtual 96, 3) := by decide +kernel
theorem dX4_runIfOrdered_38 : decode cX4_runIfOrdered 38 = .ok (.aload_n 0, 1) := by decide +kernel
theorem dX4_runIfOrdered_39 : decode cX4_runIfOrdered 39 = .ok (.getfield 14, 3) := by decide +kernel
theorem dX4_runIfOrdered_42 : decode cX4_runIfOrdered 42 = .ok (.iload 4, 2) := by decide +kernel
theorem dX4_runIfOrdered_44 : decode cX4_runIfOrdered 44 = .ok (.invokevirtual 100, 3) := by decide +kernel
theorem dX4_runIfOrdered_47 : decode cX4_runIfOrdered 47 = .ok (.aload_n 0, 1) := by decide +kernel
theorem dX4_runIfOrdered_48 : decode cX4_runIfOrdered 48 = .ok (.getfield 14, 3) := by decide +kernel
theorem dX4_runIfOrdered_51 : decode cX4_runIfOrdered 51 = .ok (.iload_n 3, 1) := by decide +kernel
theorem dX4_runIfOrdered_52 : decode cX4_runIfOrdered 52 = .ok (.invokevirtual 96, 3) := by decide +kernel
theorem dX4_runIfOrdered_55 : decode cX4_runIfOrdered 55 = .ok (.aload_n 0, 1) := by decide +kernel
theorem dX4_runIfOrdered_56 : decode cX4_runIfOrdered 56 = .ok (.getfield 14, 3) := by decide +kernel
theorem dX4_runIfOrdered_59 : decode cX4_runIfOrdered 59 = .ok (.iload_n 3, 1) := by decide +kernel
theorem dX4_runIfOrdered_60 : decode cX4_runIfOrdered 60 = .ok (.invokevirtual 100, 3) := by decide +kernel
theorem dX4_runIfOrdered_63 : decode cX4_runIfOrdered 63 = .ok (.invokestatic 255, 3) := by decide +kernel
theorem dX4_runIfOrdered_66 : decode cX4_runIfOrdered 66 = .ok (.istore 5, 2) := by decide +kernel
theorem dX4_runIfOrdered_68 : decode cX4_runIfOrdered 68 = .ok (.iload_n 1, 1) := by decide +kernel
theorem dX4_runIfOrdered_69 : decode cX4_runIfOrdered 69 = .ok (.bipush 60, 2) := by decide +kernel
theorem dX4_runIfOrdered_71 : decode cX4_runIfOrdered 71 = .ok (.if_icmp .ne 16, 3) := by decide +kernel
theorem dX4_runIfOrdered_74 : decode cX4_runIfOrdered 74 = .ok (.iload 5, 2) := by decide +kernel
theorem dX4_runIfOrdered_76 : decode cX4_runIfOrdered 76 = .ok (.ifCond .ge 7, 3) := by decide +kernel
theorem dX4_runIfOrdered_79 : decode cX4_runIfOrdered 79 = .ok (.iconst 1, 1) := by decide +kernel
theorem dX4_runIfOrdered_80 : decode cX4_runIfOrdered 80 = .ok (.goto 36, 3) := by decide +kernel
theorem dX4_runIfOrdered_83 : decode cX4_runIfOrdered 83 = .ok (.iconst 0, 1) := by decide +kernel
theorem dX4_runIfOrdered_84 : decode cX4_runIfOrdered 84 = .ok (.goto 32, 3) := by decide +kernel
theorem dX4_runIfOrdered_87 : decode cX4_runIfOrdered 87 = .ok (.iload_n 1, 1) := by decide +kernel
theorem dX4_runIfOrdered_88 : decode cX4_runIfOrdered 88 = .ok (.bipush 62, 2) := by decide +kernel
theorem dX4_runIfOrdered_90 : decode cX4_runIfOrdered 90 = .ok (.if_icmp .ne 16, 3) := by decide +kernel
theorem dX4_runIfOrdered_93 : decode cX4_runIfOrdered 93 = .ok (.iload 5, 2) := by decide +kernel
theorem dX4_runIfOrdered_95 : decode cX4_runIfOrdered 95 = .ok (.ifCond .le 7, 3) := by decide +kernel
theorem dX4_runIfOrdered_98 : decode cX4_runIfOrdered 98 = .ok (.iconst 1, 1) := by decide +kernel
theorem dX4_runIfOrdered_99 : decode cX4_runIfOrdered 99 = .ok (.goto 17, 3) := by decide +kernel
theorem dX4_runIfOrdered_102 : decode cX4_runIfOrdered 102 = .ok (.iconst 0, 1) := by decide +kernel
theorem dX4_runIfOrdered_103 : decode cX4_runIfOrdered 103 = .ok (.goto 13, 3) := by decide +kernel
theorem dX4_runIfOrdered_106 : decode cX4_runIfOrdered 106 = .ok (.iload 5, 2) := by decide +kernel
theorem dX4_runIfOrdered_108 : decode cX4_runIfOrdered 108 = .ok (.ifCond .ne 7, 3) := by decide +kernel
theorem dX4_runIfOrdered_111 : decode cX4_runIfOrdered 111 = .ok (.iconst 1, 1) := by decide +kernel
theorem dX4_runIfOrdered_112 : decode cX4_runIfOrdered 112 = .ok (.goto 4, 3) := by decide +kernel
theorem dX4_runIfOrdered_115 : decode cX4_runIfOrdered 115 = .ok (.iconst 0, 1) := by decide +kernel
theorem dX4_runIfOrdered_116 : decode cX4_runIfOrdered 116 = .ok (.istore 6, 2) := by decide +kernel
theorem dX4_runIfOrdered_118 : decode cX4_runIfOrdered 118 = .ok (.iload 6, 2) := by decide +kernel
theorem dX4_runIfOrdered_120 : decode cX4_runIfOrdered 120 = .ok (.ifCond .eq 60, 3) := by decide +kernel
theorem dX4_runIfOrdered_123 : decode cX4_runIfOrdered 123 = .ok (.aload_n 2, 1) := by decide +kernel
theorem dX4_runIfOrdered_124 : decode cX4_runIfOrdered 124 = .ok (.invokestatic 246, 3) := by decide +kernel
theorem dX4_runIfOrdered_127 : decode cX4_runIfOrdered 127 = .ok (.aload_n 2, 1) := by decide +kernel
theorem dX4_runIfOrdered_128 : decode cX4_runIfOrdered 128 = .ok (.iconst 0, 1) := by decide +kernel
theorem dX4_runIfOrdered_129 : decode cX4_runIfOrdered 129 = .ok (.invokevirtual 104, 3) := by decide +kernel
theorem dX4_runIfOrdered_132 : decode cX4_runIfOrdered 132 = .ok (.istore 7, 2) := by decide +kernel
theorem dX4_runIfOrdered_134 : decode cX4_runIfOrdered 134 = .ok (.aload_n 2, 1) := by decide +kernel
theorem dX4_runIfOrdered_135 : decode cX4_runIfOrdered 135 = .ok (.iload 7, 2) := by decide +kernel
theorem dX4_runIfOrdered_137 : decode cX4_runIfOrdered 137 = .ok (.invokevirtual 173, 3) := by decide +kernel
theorem dX4_runIfOrdered_140 : decode cX4_runIfOrdered 140 = .ok (.astore 8, 2) := by decide +kernel
theorem dX4_runIfOrdered_142 : decode cX4_runIfOrdered 142 = .ok (.aload 8, 2) := by decide +kernel
theorem dX4_runIfOrdered_144 : decode cX4_runIfOrdered 144 = .ok (.ifnonnull 14, 3) := by decide +kernel
theorem dX4_runIfOrdered_147 : decode cX4_runIfOrdered 147 = .ok (.new 177, 3) := by decide +kernel
theorem dX4_runIfOrdered_150 : decode cX4_runIfOrdered 150 = .ok (.dup, 1) := by decide +kernel
theorem dX4_runIfOrdered_151 : decode cX4_runIfOrdered 151 = .ok (.ldc_w 259, 3) := by decide +kernel
theorem dX4_runIfOrdered_154 : decode cX4_runIfOrdered 154 = .ok (.invokespecial 181, 3) := by decide +kernel
theorem dX4_runIfOrdered_157 : decode cX4_runIfOrdered 157 = .ok (.athrow, 1) := by decide +kernel
theorem dX4_runIfOrdered_158 : decode cX4_runIfOrdered 158 = .ok (.aload_n 0, 1) := by decide +kernel
theorem dX4_runIfOrdered_159 : decode cX4_runIfOrdered 159 = .ok (.getfield 28, 3) := by decide +kernel
theorem dX4_runIfOrdered_162 : decode cX4_runIfOrdered 162 = .ok (.aload 8, 2) := by decide +kernel
theorem dX4_runIfOrdered_164 : decode cX4_runIfOrdered 164 = .ok (.aload_n 2, 1) := by decide +kernel
theorem dX4_runIfOrdered_165 : decode cX4_runIfOrdered 165 = .ok (.iload 7, 2) := by decide +kernel
theorem dX4_runIfOrdered_167 : decode cX4_runIfOrdered 167 = .ok (.invokevirtual 249, 3) := by decide +kernel
theorem dX4_runIfOrdered_170 : decode cX4_runIfOrdered 170 = .ok (.aload_n 2, 1) := by decide +kernel
theorem dX4_runIfOrdered_171 : decode cX4_runIfOrdered 171 = .ok (.iload 7, 2) := by decide +kernel
theorem dX4_runIfOrdered_173 : decode cX4_runIfOrdered 173 = .ok (.invokevirtual 96, 3) := by decide +kernel
theorem dX4_runIfOrdered_176 : decode cX4_runIfOrdered 176 = .ok (.l2i, 1) := by decide +kernel
theorem dX4_runIfOrdered_177 : decode cX4_runIfOrdered 177 = .ok (.invokevirtual 252, 3) := by decide +kernel
theorem dX4_runIfOrdered_180 : decode cX4_runIfOrdered 180 = .ok (.aload_n 0, 1) := by decide +kernel
theorem dX4_runIfOrdered_181 : decode cX4_runIfOrdered 181 = .ok (.getfield 14, 3) := by decide +kernel
theorem dX4_runIfOrdered_184 : decode cX4_runIfOrdered 184 = .ok (.iconst 2, 1) := by decide +kernel
theorem dX4_runIfOrdered_185 : decode cX4_runIfOrdered 185 = .ok (.invokevirtual 215, 3) := by decide +kernel
theorem dX4_runIfOrdered_188 : decode cX4_runIfOrdered 188 = .ok (.return_, 1) := by decide +kernel
