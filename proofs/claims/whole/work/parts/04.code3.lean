theorem dX4_calculate_214 : decode cX4_calculate 214 = .ok (.getfield 39, 3) := by decide +kernel
theorem dX4_calculate_217 : decode cX4_calculate 217 = .ok (.invokestatic 208, 3) := by decide +kernel
theorem dX4_calculate_220 : decode cX4_calculate 220 = .ok (.lstore 9, 2) := by decide +kernel
theorem dX4_calculate_222 : decode cX4_calculate 222 = .ok (.goto 33, 3) := by decide +kernel
theorem dX4_calculate_225 : decode cX4_calculate 225 = .ok (.aload_n 0, 1) := by decide +kernel
theorem dX4_calculate_226 : decode cX4_calculate 226 = .ok (.getfield 39, 3) := by decide +kernel
theorem dX4_calculate_229 : decode cX4_calculate 229 = .ok (.iload 7, 2) := by decide +kernel
theorem dX4_calculate_231 : decode cX4_calculate 231 = .ok (.iadd, 1) := by decide +kernel
theorem dX4_calculate_232 : decode cX4_calculate 232 = .ok (.iload 4, 2) := by decide +kernel
theorem dX4_calculate_234 : decode cX4_calculate 234 = .ok (.invokestatic 185, 3) := by decide +kernel
theorem dX4_calculate_237 : decode cX4_calculate 237 = .ok (.istore 11, 2) := by decide +kernel
theorem dX4_calculate_239 : decode cX4_calculate 239 = .ok (.lload_n 2, 1) := by decide +kernel
theorem dX4_calculate_240 : decode cX4_calculate 240 = .ok (.iload 4, 2) := by decide +kernel
theorem dX4_calculate_242 : decode cX4_calculate 242 = .ok (.lload 5, 2) := by decide +kernel
theorem dX4_calculate_244 : decode cX4_calculate 244 = .ok (.iload 7, 2) := by decide +kernel
theorem dX4_calculate_246 : decode cX4_calculate 246 = .ok (.aload_n 0, 1) := by decide +kernel
theorem dX4_calculate_247 : decode cX4_calculate 247 = .ok (.getfield 39, 3) := by decide +kernel
theorem dX4_calculate_250 : decode cX4_calculate 250 = .ok (.invokestatic 212, 3) := by decide +kernel
theorem dX4_calculate_253 : decode cX4_calculate 253 = .ok (.lstore 9, 2) := by decide +kernel
theorem dX4_calculate_255 : decode cX4_calculate 255 = .ok (.aload_n 0, 1) := by decide +kernel
theorem dX4_calculate_256 : decode cX4_calculate 256 = .ok (.getfield 14, 3) := by decide +kernel
theorem dX4_calculate_259 : decode cX4_calculate 259 = .ok (.iconst 2, 1) := by decide +kernel
theorem dX4_calculate_260 : decode cX4_calculate 260 = .ok (.invokevirtual 215, 3) := by decide +kernel
theorem dX4_calculate_263 : decode cX4_calculate 263 = .ok (.aload_n 0, 1) := by decide +kernel
theorem dX4_calculate_264 : decode cX4_calculate 264 = .ok (.getfield 14, 3) := by decide +kernel
theorem dX4_calculate_267 : decode cX4_calculate 267 = .ok (.lload 9, 2) := by decide +kernel
theorem dX4_calculate_269 : decode cX4_calculate 269 = .ok (.iload 11, 2) := by decide +kernel
theorem dX4_calculate_271 : decode cX4_calculate 271 = .ok (.invokevirtual 149, 3) := by decide +kernel
theorem dX4_calculate_274 : decode cX4_calculate 274 = .ok (.return_, 1) := by decide +kernel
set_option maxRecDepth 20000 in
theorem ggX4_changeNumber_X4_needNumbers : GoodIn wsX4_changeNumber wsX4_needNumbers := goodIn_ca (goodIn_ca (goodIn_r _ [11, 12, 13, 1, 14, 15, 16, 10, 17, 18, 19, 20, 21, 22, 23, 24, 25, 26, 27, 28, 29, 30, 31, 32, 33, 34, 35, 36, 107, 108, 109, 110, 111, 112, 113, 114, 115, 116, 117, 118] (by decide +kernel) (by decide +kernel)) (goodIn_sub (fun _ h => List.mem_cons_of_mem _ (List.mem_append_left _ (List.mem_append_left _ (List.mem_append_left _ (List.mem_append_left _ (List.mem_append_right _ h)))))) (by decide +kernel))) (goodIn_sub (fun _ h => List.mem_cons_of_mem _ (List.mem_append_left _ (List.mem_append_left _ (List.mem_append_left _ (List.mem_append_right _ h))))) (by decide +kernel))
set_option maxRecDepth 20000 in
theorem gX4_changeNumber_X4_needNumbers : GoodIn wsX4_changeNumber (wsV RX4 182 RX4 yX4_needNumbers wsX4_needNumbers) := goodIn_app (goodIn_of _ (by decide +kernel)) ggX4_changeNumber_X4_needNumbers
set_option maxRecDepth 20000 in
theorem ggX4_changeNumber_X3_slotBelowTop : GoodIn wsX4_changeNumber wsX3_slotBelowTop := goodIn_r _ [25, 26, 114, 115, 116, 117, 118] (by decide +kernel) (by decide +kernel)
set_option maxRecDepth 20000 in
theorem gX4_changeNumber_X3_slotBelowTop : GoodIn wsX4_changeNumber (wsV RX4 104 RX3 yX3_slotBelowTop wsX3_slotBelowTop) := goodIn_app (goodIn_of _ (by decide +kernel)) ggX4_changeNumber_X3_slotBelowTop
set_option maxRecDepth 20000 in
theorem ggX4_changeNumber_X3_valueAt : GoodIn wsX4_changeNumber wsX3_valueAt := goodIn_r _ [40, 36, 32, 33, 34, 24, 35, 26, 114, 115, 116, 117, 118] (by decide +kernel) (by decide +kernel)
set_option maxRecDepth 20000 in
theorem gX4_changeNumber_X3_valueAt : GoodIn wsX4_changeNumber (wsV RX4 96 RX3 yX3_valueAt wsX3_valueAt) := goodIn_app (goodIn_of _ (by decide +kernel)) ggX4_changeNumber_X3_valueAt
set_option maxRecDepth 20000 in
theorem ggX4_changeNumber_X3_placesAt : GoodIn wsX4_changeNumber wsX3_placesAt := goodIn_r _ [44, 45, 32, 33, 34, 24, 35, 26, 36, 114, 115, 116, 117, 118] (by decide +kernel) (by decide +kernel)
set_option maxRecDepth 20000 in
theorem gX4_changeNumber_X3_placesAt : GoodIn wsX4_changeNumber (wsV RX4 100 RX3 yX3_placesAt wsX3_placesAt) := goodIn_app (goodIn_of _ (by decide +kernel)) ggX4_changeNumber_X3_placesAt
set_option maxRecDepth 20000 in
theorem ggX4_changeNumber_X0_asPlaces : GoodIn wsX4_changeNumber wsX0_asPlaces := goodIn_ca (goodIn_ca (goodIn_r _ [49, 50, 51, 52, 53, 54, 48, 55, 56, 57, 58, 59, 60, 4, 5, 6, 61, 62, 63, 64, 65, 66, 67, 68, 69, 70, 71, 72, 73, 74, 75, 76, 77, 78] (by decide +kernel) (by decide +kernel)) (goodIn_sub (fun _ h => List.mem_cons_of_mem _ (List.mem_append_left _ (List.mem_append_left _ (List.mem_append_right _ h)))) (by decide +kernel))) (goodIn_sub (fun _ h => List.mem_cons_of_mem _ (List.mem_append_left _ (List.mem_append_right _ h))) (by decide +kernel))
set_option maxRecDepth 20000 in
theorem gX4_changeNumber_X0_asPlaces : GoodIn wsX4_changeNumber (va_wsS RX4 218 yX0_asPlaces wsX0_asPlaces) := goodIn_app (goodIn_of _ (by decide +kernel)) ggX4_changeNumber_X0_asPlaces
set_option maxRecDepth 20000 in
theorem ggX4_changeNumber_X3_drop : GoodIn wsX4_changeNumber wsX3_drop := goodIn_r _ [82, 26, 83, 4, 5, 6, 114, 115, 116, 117, 118] (by decide +kernel) (by decide +kernel)
set_option maxRecDepth 20000 in
theorem gX4_changeNumber_X3_drop : GoodIn wsX4_changeNumber (wsV RX4 215 RX3 yX3_drop wsX3_drop) := goodIn_app (goodIn_of _ (by decide +kernel)) ggX4_changeNumber_X3_drop
set_option maxRecDepth 20000 in
theorem ggX4_changeNumber_X0_root : GoodIn wsX4_changeNumber wsX0_root := goodIn_ca (goodIn_ca (goodIn_r _ [86, 50, 51, 87, 88, 67, 68, 48, 69, 56, 57, 58, 59, 60, 4, 5, 6, 61, 62, 63, 70, 71, 72, 73, 74, 75, 76, 77, 78] (by decide +kernel) (by decide +kernel)) (goodIn_sub (fun _ h => List.mem_cons_of_mem _ (List.mem_append_left _ (List.mem_append_left _ (List.mem_append_right _ h)))) (by decide +kernel))) (goodIn_sub (fun _ h => List.mem_cons_of_mem _ (List.mem_append_left _ (List.mem_append_right _ h))) (by decide +kernel))
set_option maxRecDepth 20000 in
theorem gX4_changeNumber_X0_root : GoodIn wsX4_changeNumber (va_wsS RX4 221 yX0_root wsX0_root) := goodIn_app (goodIn_of _ (by decide +kernel)) ggX4_changeNumber_X0_root
set_option maxRecDepth 20000 in
theorem ggX4_changeNumber_X3_putNumber : GoodIn wsX4_changeNumber wsX3_putNumber := goodIn_ca (goodIn_r _ [92, 93, 94, 95, 24, 96, 97, 74, 26, 98, 99, 100, 101, 36, 102, 103, 104, 105, 45, 31, 106, 32, 33, 34, 35, 114, 115, 116, 117, 118] (by decide +kernel) (by decide +kernel)) (goodIn_sub (fun _ h => List.mem_cons_of_mem _ (List.mem_append_right _ h)) (by decide +kernel))
set_option maxRecDepth 20000 in
theorem gX4_changeNumber_X3_putNumber : GoodIn wsX4_changeNumber (wsV RX4 149 RX3 yX3_putNumber wsX3_putNumber) := goodIn_app (goodIn_of _ (by decide +kernel)) ggX4_changeNumber_X3_putNumber
theorem dX4_changeNumber_0 : decode cX4_changeNumber 0 = .ok (.aload_n 0, 1) := by decide +kernel
theorem dX4_changeNumber_1 : decode cX4_changeNumber 1 = .ok (.iconst 1, 1) := by decide +kernel
theorem dX4_changeNumber_2 : decode cX4_changeNumber 2 = .ok (.invokevirtual 182, 3) := by decide +kernel
theorem dX4_changeNumber_5 : decode cX4_changeNumber 5 = .ok (.aload_n 0, 1) := by decide +kernel
theorem dX4_changeNumber_6 : decode cX4_changeNumber 6 = .ok (.getfield 14, 3) := by decide +kernel
theorem dX4_changeNumber_9 : decode cX4_changeNumber 9 = .ok (.aload_n 0, 1) := by decide +kernel
theorem dX4_changeNumber_10 : decode cX4_changeNumber 10 = .ok (.getfield 14, 3) := by decide +kernel
theorem dX4_changeNumber_13 : decode cX4_changeNumber 13 = .ok (.iconst 0, 1) := by decide +kernel
theorem dX4_changeNumber_14 : decode cX4_changeNumber 14 = .ok (.invokevirtual 104, 3) := by decide +kernel
theorem dX4_changeNumber_17 : decode cX4_changeNumber 17 = .ok (.invokevirtual 96, 3) := by decide +kernel
theorem dX4_changeNumber_20 : decode cX4_changeNumber 20 = .ok (.lstore_n 2, 1) := by decide +kernel
theorem dX4_changeNumber_21 : decode cX4_changeNumber 21 = .ok (.aload_n 0, 1) := by decide +kernel
theorem dX4_changeNumber_22 : decode cX4_changeNumber 22 = .ok (.getfield 14, 3) := by decide +kernel
theorem dX4_changeNumber_25 : decode cX4_changeNumber 25 = .ok (.aload_n 0, 1) := by decide +kernel
theorem dX4_changeNumber_26 : decode cX4_changeNumber 26 = .ok (.getfield 14, 3) := by decide +kernel
theorem dX4_changeNumber_29 : decode cX4_changeNumber 29 = .ok (.iconst 0, 1) := by decide +kernel
theorem dX4_changeNumber_30 : decode cX4_changeNumber 30 = .ok (.invokevirtual 104, 3) := by decide +kernel
theorem dX4_changeNumber_33 : decode cX4_changeNumber 33 = .ok (.invokevirtual 100, 3) := by decide +kernel
theorem dX4_changeNumber_36 : decode cX4_changeNumber 36 = .ok (.istore 4, 2) := by decide +kernel
theorem dX4_changeNumber_38 : decode cX4_changeNumber 38 = .ok (.iload_n 1, 1) := by decide +kernel
theorem dX4_changeNumber_39 : decode cX4_changeNumber 39 = .ok (.bipush 107, 2) := by decide +kernel
theorem dX4_changeNumber_41 : decode cX4_changeNumber 41 = .ok (.if_icmp .ne 24, 3) := by decide +kernel
theorem dX4_changeNumber_44 : decode cX4_changeNumber 44 = .ok (.aload_n 0, 1) := by decide +kernel
theorem dX4_changeNumber_45 : decode cX4_changeNumber 45 = .ok (.lload_n 2, 1) := by decide +kernel
theorem dX4_changeNumber_46 : decode cX4_changeNumber 46 = .ok (.iload 4, 2) := by decide +kernel
theorem dX4_changeNumber_48 : decode cX4_changeNumber 48 = .ok (.invokestatic 218, 3) := by decide +kernel
theorem dX4_changeNumber_51 : decode cX4_changeNumber 51 = .ok (.putfield 39, 3) := by decide +kernel
theorem dX4_changeNumber_54 : decode cX4_changeNumber 54 = .ok (.aload_n 0, 1) := by decide +kernel
theorem dX4_changeNumber_55 : decode cX4_changeNumber 55 = .ok (.getfield 14, 3) := by decide +kernel
theorem dX4_changeNumber_58 : decode cX4_changeNumber 58 = .ok (.iconst 1, 1) := by decide +kernel
theorem dX4_changeNumber_59 : decode cX4_changeNumber 59 = .ok (.invokevirtual 215, 3) := by decide +kernel
theorem dX4_changeNumber_62 : decode cX4_changeNumber 62 = .ok (.goto 99, 3) := by decide +kernel
theorem dX4_changeNumber_65 : decode cX4_changeNumber 65 = .ok (.iload_n 1, 1) := by decide +kernel
theorem dX4_changeNumber_66 : decode cX4_changeNumber 66 = .ok (.bipush 118, 2) := by decide +kernel
theorem dX4_changeNumber_68 : decode cX4_changeNumber 68 = .ok (.if_icmp .ne 46, 3) := by decide +kernel
theorem dX4_changeNumber_71 : decode cX4_changeNumber 71 = .ok (.aload_n 0, 1) := by decide +kernel
theorem dX4_changeNumber_72 : decode cX4_changeNumber 72 = .ok (.getfield 39, 3) := by decide +kernel
theorem dX4_changeNumber_75 : decode cX4_changeNumber 75 = .ok (.iload 4, 2) := by decide +kernel
theorem dX4_changeNumber_77 : decode cX4_changeNumber 77 = .ok (.invokestatic 185, 3) := by decide +kernel
theorem dX4_changeNumber_80 : decode cX4_changeNumber 80 = .ok (.istore 5, 2) := by decide +kernel
theorem dX4_changeNumber_82 : decode cX4_changeNumber 82 = .ok (.lload_n 2, 1) := by decide +kernel
theorem dX4_changeNumber_83 : decode cX4_changeNumber 83 = .ok (.iload 4, 2) := by decide +kernel
theorem dX4_changeNumber_85 : decode cX4_changeNumber 85 = .ok (.iload 5, 2) := by decide +kernel
theorem dX4_changeNumber_87 : decode cX4_changeNumber 87 = .ok (.invokestatic 221, 3) := by decide +kernel
theorem dX4_changeNumber_90 : decode cX4_changeNumber 90 = .ok (.lstore 6, 2) := by decide +kernel
theorem dX4_changeNumber_92 : decode cX4_changeNumber 92 = .ok (.aload_n 0, 1) := by decide +kernel
theorem dX4_changeNumber_93 : decode cX4_changeNumber 93 = .ok (.getfield 14, 3) := by decide +kernel
theorem dX4_changeNumber_96 : decode cX4_changeNumber 96 = .ok (.iconst 1, 1) := by decide +kernel
theorem dX4_changeNumber_97 : decode cX4_changeNumber 97 = .ok (.invokevirtual 215, 3) := by decide +kernel
theorem dX4_changeNumber_100 : decode cX4_changeNumber 100 = .ok (.aload_n 0, 1) := by decide +kernel
theorem dX4_changeNumber_101 : decode cX4_changeNumber 101 = .ok (.getfield 14, 3) := by decide +kernel
theorem dX4_changeNumber_104 : decode cX4_changeNumber 104 = .ok (.lload 6, 2) := by decide +kernel
theorem dX4_changeNumber_106 : decode cX4_changeNumber 106 = .ok (.iload 5, 2) := by decide +kernel
theorem dX4_changeNumber_108 : decode cX4_changeNumber 108 = .ok (.invokevirtual 149, 3) := by decide +kernel
theorem dX4_changeNumber_111 : decode cX4_changeNumber 111 = .ok (.goto 50, 3) := by decide +kernel
theorem dX4_changeNumber_114 : decode cX4_changeNumber 114 = .ok (.iload_n 1, 1) := by decide +kernel
theorem dX4_changeNumber_115 : decode cX4_changeNumber 115 = .ok (.bipush 126, 2) := by decide +kernel
theorem dX4_changeNumber_117 : decode cX4_changeNumber 117 = .ok (.if_icmp .ne 25, 3) := by decide +kernel
theorem dX4_changeNumber_120 : decode cX4_changeNumber 120 = .ok (.aload_n 0, 1) := by decide +kernel
theorem dX4_changeNumber_121 : decode cX4_changeNumber 121 = .ok (.getfield 14, 3) := by decide +kernel
theorem dX4_changeNumber_124 : decode cX4_changeNumber 124 = .ok (.iconst 1, 1) := by decide +kernel
theorem dX4_changeNumber_125 : decode cX4_changeNumber 125 = .ok (.invokevirtual 215, 3) := by decide +kernel
theorem dX4_changeNumber_128 : decode cX4_changeNumber 128 = .ok (.aload_n 0, 1) := by decide +kernel
theorem dX4_changeNumber_129 : decode cX4_changeNumber 129 = .ok (.getfield 14, 3) := by decide +kernel
theorem dX4_changeNumber_132 : decode cX4_changeNumber 132 = .ok (.lload_n 2, 1) := by decide +kernel
theorem dX4_changeNumber_133 : decode cX4_changeNumber 133 = .ok (.lneg, 1) := by decide +kernel
theorem dX4_changeNumber_134 : decode cX4_changeNumber 134 = .ok (.iload 4, 2) := by decide +kernel
theorem dX4_changeNumber_136 : decode cX4_changeNumber 136 = .ok (.invokevirtual 149, 3) := by decide +kernel
theorem dX4_changeNumber_139 : decode cX4_changeNumber 139 = .ok (.goto 22, 3) := by decide +kernel
theorem dX4_changeNumber_142 : decode cX4_changeNumber 142 = .ok (.aload_n 0, 1) := by decide +kernel
theorem dX4_changeNumber_143 : decode cX4_changeNumber 143 = .ok (.getfield 14, 3) := by decide +kernel
theorem dX4_changeNumber_146 : decode cX4_changeNumber 146 = .ok (.iconst 1, 1) := by decide +kernel
theorem dX4_changeNumber_147 : decode cX4_changeNumber 147 = .ok (.invokevirtual 215, 3) := by decide +kernel
theorem dX4_changeNumber_150 : decode cX4_changeNumber 150 = .ok (.aload_n 0, 1) := by decide +kernel
theorem dX4_changeNumber_151 : decode cX4_changeNumber 151 = .ok (.getfield 14, 3) := by decide +kernel
theorem dX4_changeNumber_154 : decode cX4_changeNumber 154 = .ok (.iload 4, 2) := by decide +kernel
theorem dX4_changeNumber_156 : decode cX4_changeNumber 156 = .ok (.i2l, 1) := by decide +kernel
theorem dX4_changeNumber_157 : decode cX4_changeNumber 157 = .ok (.iconst 0, 1) := by decide +kernel
theorem dX4_changeNumber_158 : decode cX4_changeNumber 158 = .ok (.invokevirtual 149, 3) := by decide +kernel
theorem dX4_changeNumber_161 : decode cX4_changeNumber 161 = .ok (.return_, 1) := by decide +kernel
set_option maxRecDepth 20000 in
theorem ggX4_arrangeStack_X4_needItems : GoodIn wsX4_arrangeStack wsX4_needItems := goodIn_ca (goodIn_r _ [11, 12, 13, 3, 4, 83, 84, 85, 86, 87, 88, 89, 90, 91, 92, 93, 94] (by decide +kernel) (by decide +kernel)) (goodIn_sub (fun _ h => List.mem_cons_of_mem _ (List.mem_append_left _ (List.mem_append_right _ h))) (by decide +kernel))
set_option maxRecDepth 20000 in
theorem gX4_arrangeStack_X4_needItems : GoodIn wsX4_arrangeStack (wsV RX4 170 RX4 yX4_needItems wsX4_needItems) := goodIn_app (goodIn_of _ (by decide +kernel)) ggX4_arrangeStack_X4_needItems
set_option maxRecDepth 20000 in
theorem ggX4_arrangeStack_X3_putTopOf : GoodIn wsX4_arrangeStack wsX3_putTopOf := goodIn_ca (goodIn_r _ [18, 19, 20, 21, 17, 22, 23, 24, 25, 26, 27, 28, 29, 30, 31, 32, 33, 34, 35, 36, 37, 38, 39, 40, 41, 42, 43, 44, 45, 46, 47, 48, 49, 50, 51, 52, 53, 54, 55, 56, 57, 58, 59, 60, 61, 90, 91, 92, 93, 94] (by decide +kernel) (by decide +kernel)) (goodIn_sub (fun _ h => List.mem_cons_of_mem _ (List.mem_append_right _ h)) (by decide +kernel))
set_option maxRecDepth 20000 in
theorem gX4_arrangeStack_X3_putTopOf : GoodIn wsX4_arrangeStack (wsV RX4 225 RX3 yX3_putTopOf wsX3_putTopOf) := goodIn_app (goodIn_of _ (by decide +kernel)) ggX4_arrangeStack_X3_putTopOf
set_option maxRecDepth 20000 in
theorem ggX4_arrangeStack_X3_swapTopTwo : GoodIn wsX4_arrangeStack wsX3_swapTopTwo := goodIn_r _ [65, 19, 20, 21, 17, 22, 23, 24, 25, 26, 27, 28, 29, 30, 31, 32, 33, 34, 35, 36, 37, 38, 39, 40, 41, 42, 43, 44, 45, 46, 47, 58, 59, 60, 61, 90, 91, 92, 93, 94] (by decide +kernel) (by decide +kernel)
set_option maxRecDepth 20000 in
theorem gX4_arrangeStack_X3_swapTopTwo : GoodIn wsX4_arrangeStack (wsV RX4 229 RX3 yX3_swapTopTwo wsX3_swapTopTwo) := goodIn_app (goodIn_of _ (by decide +kernel)) ggX4_arrangeStack_X3_swapTopTwo
set_option maxRecDepth 20000 in
theorem ggX4_arrangeStack_X3_drop : GoodIn wsX4_arrangeStack wsX3_drop := goodIn_r _ [69, 23, 70, 71, 72, 73, 90, 91, 92, 93, 94] (by decide +kernel) (by decide +kernel)
set_option maxRecDepth 20000 in
theorem gX4_arrangeStack_X3_drop : GoodIn wsX4_arrangeStack (wsV RX4 215 RX3 yX3_drop wsX3_drop) := goodIn_app (goodIn_of _ (by decide +kernel)) ggX4_arrangeStack_X3_drop
set_option maxRecDepth 20000 in
theorem ggX4_arrangeStack_X3_clear : GoodIn wsX4_arrangeStack wsX3_clear := goodIn_r _ [77, 23, 90, 91, 92, 93, 94] (by decide +kernel) (by decide +kernel)
set_option maxRecDepth 20000 in
theorem gX4_arrangeStack_X3_clear : GoodIn wsX4_arrangeStack (wsV RX4 63 RX3 yX3_clear wsX3_clear) := goodIn_app (goodIn_of _ (by decide +kernel)) ggX4_arrangeStack_X3_clear
set_option maxRecDepth 20000 in
theorem ggX4_arrangeStack_X3_putNumber : GoodIn wsX4_arrangeStack wsX3_putNumber := goodIn_ca (goodIn_r _ [81, 48, 49, 50, 17, 51, 52, 53, 23, 54, 55, 56, 57, 28, 58, 59, 60, 61, 37, 42, 47, 29, 30, 31, 32, 90, 91, 92, 93, 94] (by decide +kernel) (by decide +kernel)) (goodIn_sub (fun _ h => List.mem_cons_of_mem _ (List.mem_append_right _ h)) (by decide +kernel))
set_option maxRecDepth 20000 in
theorem gX4_arrangeStack_X3_putNumber : GoodIn wsX4_arrangeStack (wsV RX4 149 RX3 yX3_putNumber wsX3_putNumber) := goodIn_app (goodIn_of _ (by decide +kernel)) ggX4_arrangeStack_X3_putNumber
set_option maxRecDepth 20000 in
theorem ggX4_arrangeStack_X3_isFull : GoodIn wsX4_arrangeStack wsX3_isFull := goodIn_r _ [57, 23, 28, 90, 91, 92, 93, 94] (by decide +kernel) (by decide +kernel)
set_option maxRecDepth 20000 in
theorem gX4_arrangeStack_X3_isFull : GoodIn wsX4_arrangeStack (wsV RX4 232 RX3 yX3_isFull wsX3_isFull) := goodIn_app (goodIn_of _ (by decide +kernel)) ggX4_arrangeStack_X3_isFull
theorem dX4_arrangeStack_0 : decode cX4_arrangeStack 0 = .ok (.iload_n 1, 1) := by decide +kernel
theorem dX4_arrangeStack_1 : decode cX4_arrangeStack 1 = .ok (.lookupswitch 191 #[(68, 101), (75, 146), (99, 117), (100, 67), (112, 162), (114, 86), (122, 127)], 67) := by decide +kernel
theorem dX4_arrangeStack_68 : decode cX4_arrangeStack 68 = .ok (.aload_n 0, 1) := by decide +kernel
theorem dX4_arrangeStack_69 : decode cX4_arrangeStack 69 = .ok (.iconst 1, 1) := by decide +kernel
theorem dX4_arrangeStack_70 : decode cX4_arrangeStack 70 = .ok (.invokevirtual 170, 3) := by decide +kernel
theorem dX4_arrangeStack_73 : decode cX4_arrangeStack 73 = .ok (.aload_n 0, 1) := by decide +kernel
theorem dX4_arrangeStack_74 : decode cX4_arrangeStack 74 = .ok (.getfield 14, 3) := by decide +kernel
theorem dX4_arrangeStack_77 : decode cX4_arrangeStack 77 = .ok (.aload_n 0, 1) := by decide +kernel
theorem dX4_arrangeStack_78 : decode cX4_arrangeStack 78 = .ok (.getfield 14, 3) := by decide +kernel
theorem dX4_arrangeStack_81 : decode cX4_arrangeStack 81 = .ok (.invokevirtual 225, 3) := by decide +kernel
theorem dX4_arrangeStack_84 : decode cX4_arrangeStack 84 = .ok (.goto 118, 3) := by decide +kernel
theorem dX4_arrangeStack_87 : decode cX4_arrangeStack 87 = .ok (.aload_n 0, 1) := by decide +kernel
theorem dX4_arrangeStack_88 : decode cX4_arrangeStack 88 = .ok (.iconst 2, 1) := by decide +kernel
theorem dX4_arrangeStack_89 : decode cX4_arrangeStack 89 = .ok (.invokevirtual 170, 3) := by decide +kernel
theorem dX4_arrangeStack_92 : decode cX4_arrangeStack 92 = .ok (.aload_n 0, 1) := by decide +kernel
theorem dX4_arrangeStack_93 : decode cX4_arrangeStack 93 = .ok (.getfield 14, 3) := by decide +kernel
theorem dX4_arrangeStack_96 : decode cX4_arrangeStack 96 = .ok (.invokevirtual 229, 3) := by decide +kernel
theorem dX4_arrangeStack_99 : decode cX4_arrangeStack 99 = .ok (.goto 103, 3) := by decide +kernel
theorem dX4_arrangeStack_102 : decode cX4_arrangeStack 102 = .ok (.aload_n 0, 1) := by decide +kernel
theorem dX4_arrangeStack_103 : decode cX4_arrangeStack 103 = .ok (.iconst 1, 1) := by decide +kernel
theorem dX4_arrangeStack_104 : decode cX4_arrangeStack 104 = .ok (.invokevirtual 170, 3) := by decide +kernel
theorem dX4_arrangeStack_107 : decode cX4_arrangeStack 107 = .ok (.aload_n 0, 1) := by decide +kernel
theorem dX4_arrangeStack_108 : decode cX4_arrangeStack 108 = .ok (.getfield 14, 3) := by decide +kernel
theorem dX4_arrangeStack_111 : decode cX4_arrangeStack 111 = .ok (.iconst 1, 1) := by decide +kernel
theorem dX4_arrangeStack_112 : decode cX4_arrangeStack 112 = .ok (.invokevirtual 215, 3) := by decide +kernel
theorem dX4_arrangeStack_115 : decode cX4_arrangeStack 115 = .ok (.goto 87, 3) := by decide +kernel
theorem dX4_arrangeStack_118 : decode cX4_arrangeStack 118 = .ok (.aload_n 0, 1) := by decide +kernel
theorem dX4_arrangeStack_119 : decode cX4_arrangeStack 119 = .ok (.getfield 14, 3) := by decide +kernel
theorem dX4_arrangeStack_122 : decode cX4_arrangeStack 122 = .ok (.invokevirtual 63, 3) := by decide +kernel
theorem dX4_arrangeStack_125 : decode cX4_arrangeStack 125 = .ok (.goto 77, 3) := by decide +kernel
theorem dX4_arrangeStack_128 : decode cX4_arrangeStack 128 = .ok (.aload_n 0, 1) := by decide +kernel
theorem dX4_arrangeStack_129 : decode cX4_arrangeStack 129 = .ok (.getfield 14, 3) := by decide +kernel
theorem dX4_arrangeStack_132 : decode cX4_arrangeStack 132 = .ok (.aload_n 0, 1) := by decide +kernel
theorem dX4_arrangeStack_133 : decode cX4_arrangeStack 133 = .ok (.getfield 14, 3) := by decide +kernel
theorem dX4_arrangeStack_136 : decode cX4_arrangeStack 136 = .ok (.getfield 95, 3) := by decide +kernel
theorem dX4_arrangeStack_139 : decode cX4_arrangeStack 139 = .ok (.i2l, 1) := by decide +kernel
theorem dX4_arrangeStack_140 : decode cX4_arrangeStack 140 = .ok (.iconst 0, 1) := by decide +kernel
theorem dX4_arrangeStack_141 : decode cX4_arrangeStack 141 = .ok (.invokevirtual 149, 3) := by decide +kernel
theorem dX4_arrangeStack_144 : decode cX4_arrangeStack 144 = .ok (.goto 58, 3) := by decide +kernel
theorem dX4_arrangeStack_147 : decode cX4_arrangeStack 147 = .ok (.aload_n 0, 1) := by decide +kernel
theorem dX4_arrangeStack_148 : decode cX4_arrangeStack 148 = .ok (.getfield 14, 3) := by decide +kernel
theorem dX4_arrangeStack_151 : decode cX4_arrangeStack 151 = .ok (.aload_n 0, 1) := by decide +kernel
theorem dX4_arrangeStack_152 : decode cX4_arrangeStack 152 = .ok (.getfield 39, 3) := by decide +kernel
theorem dX4_arrangeStack_155 : decode cX4_arrangeStack 155 = .ok (.i2l, 1) := by decide +kernel
theorem dX4_arrangeStack_156 : decode cX4_arrangeStack 156 = .ok (.iconst 0, 1) := by decide +kernel
theorem dX4_arrangeStack_157 : decode cX4_arrangeStack 157 = .ok (.invokevirtual 149, 3) := by decide +kernel
theorem dX4_arrangeStack_160 : decode cX4_arrangeStack 160 = .ok (.goto 42, 3) := by decide +kernel
theorem dX4_arrangeStack_163 : decode cX4_arrangeStack 163 = .ok (.aload_n 0, 1) := by decide +kernel
theorem dX4_arrangeStack_164 : decode cX4_arrangeStack 164 = .ok (.iconst 1, 1) := by decide +kernel
theorem dX4_arrangeStack_165 : decode cX4_arrangeStack 165 = .ok (.invokevirtual 170, 3) := by decide +kernel
theorem dX4_arrangeStack_168 : decode cX4_arrangeStack 168 = .ok (.aload_n 0, 1) := by decide +kernel
theorem dX4_arrangeStack_169 : decode cX4_arrangeStack 169 = .ok (.getfield 22, 3) := by decide +kernel
theorem dX4_arrangeStack_172 : decode cX4_arrangeStack 172 = .ok (.invokevirtual 232, 3) := by decide +kernel
theorem dX4_arrangeStack_175 : decode cX4_arrangeStack 175 = .ok (.ifCond .ne 27, 3) := by decide +kernel
theorem dX4_arrangeStack_178 : decode cX4_arrangeStack 178 = .ok (.aload_n 0, 1) := by decide +kernel
theorem dX4_arrangeStack_179 : decode cX4_arrangeStack 179 = .ok (.getfield 22, 3) := by decide +kernel
theorem dX4_arrangeStack_182 : decode cX4_arrangeStack 182 = .ok (.aload_n 0, 1) := by decide +kernel
theorem dX4_arrangeStack_183 : decode cX4_arrangeStack 183 = .ok (.getfield 14, 3) := by decide +kernel
theorem dX4_arrangeStack_186 : decode cX4_arrangeStack 186 = .ok (.invokevirtual 225, 3) := by decide +kernel
theorem dX4_arrangeStack_189 : decode cX4_arrangeStack 189 = .ok (.goto 13, 3) := by decide +kernel
theorem dX4_arrangeStack_192 : decode cX4_arrangeStack 192 = .ok (.new 56, 3) := by decide +kernel
theorem dX4_arrangeStack_195 : decode cX4_arrangeStack 195 = .ok (.dup, 1) := by decide +kernel
theorem dX4_arrangeStack_196 : decode cX4_arrangeStack 196 = .ok (.ldc 236, 2) := by decide +kernel
theorem dX4_arrangeStack_198 : decode cX4_arrangeStack 198 = .ok (.invokespecial 60, 3) := by decide +kernel
theorem dX4_arrangeStack_201 : decode cX4_arrangeStack 201 = .ok (.athrow, 1) := by decide +kernel
theorem dX4_arrangeStack_202 : decode cX4_arrangeStack 202 = .ok (.return_, 1) := by decide +kernel
set_option maxRecDepth 20000 in
theorem ggX4_registerOfLetter_X1_look : GoodIn wsX4_registerOfLetter wsX1_look := goodIn_r _ [8, 9, 10, 11, 12, 13, 14, 15, 7, 16, 17, 18, 19, 20, 21, 22, 23, 41, 42, 43, 44, 45, 46] (by decide +kernel) (by decide +kernel)
set_option maxRecDepth 20000 in
theorem gX4_registerOfLetter_X1_look : GoodIn wsX4_registerOfLetter (wsV RX4 80 RX1 yX1_look wsX1_look) := goodIn_app (goodIn_of _ (by decide +kernel)) ggX4_registerOfLetter_X1_look
set_option maxRecDepth 20000 in
theorem ggX4_registerOfLetter_X4_registerNumbered : GoodIn wsX4_registerOfLetter wsX4_registerNumbered := goodIn_r _ [28, 29, 34, 35, 36, 37, 38, 39, 40] (by decide +kernel) (by decide +kernel)
set_option maxRecDepth 20000 in
theorem gX4_registerOfLetter_X4_registerNumbered : GoodIn wsX4_registerOfLetter (wsV RX4 107 RX4 yX4_registerNumbered wsX4_registerNumbered) := goodIn_app (goodIn_of _ (by decide +kernel)) ggX4_registerOfLetter_X4_registerNumbered
set_option maxRecDepth 20000 in
theorem ggX4_registerOfLetter_X1_pass : GoodIn wsX4_registerOfLetter wsX1_pass := goodIn_r _ [33, 9, 10, 13, 14, 15, 7, 16, 12, 41, 42, 43, 44] (by decide +kernel) (by decide +kernel)
set_option maxRecDepth 20000 in
theorem gX4_registerOfLetter_X1_pass : GoodIn wsX4_registerOfLetter (wsV RX4 118 RX1 yX1_pass wsX1_pass) := goodIn_app (goodIn_of _ (by decide +kernel)) ggX4_registerOfLetter_X1_pass
theorem dX4_registerOfLetter_0 : decode cX4_registerOfLetter 0 = .ok (.aload_n 0, 1) := by decide +kernel
theorem dX4_registerOfLetter_1 : decode cX4_registerOfLetter 1 = .ok (.aload_n 0, 1) := by decide +kernel
theorem dX4_registerOfLetter_2 : decode cX4_registerOfLetter 2 = .ok (.getfield 28, 3) := by decide +kernel
theorem dX4_registerOfLetter_5 : decode cX4_registerOfLetter 5 = .ok (.invokevirtual 80, 3) := by decide +kernel
theorem dX4_registerOfLetter_8 : decode cX4_registerOfLetter 8 = .ok (.bipush 97, 2) := by decide +kernel
theorem dX4_registerOfLetter_10 : decode cX4_registerOfLetter 10 = .ok (.isub, 1) := by decide +kernel
theorem dX4_registerOfLetter_11 : decode cX4_registerOfLetter 11 = .ok (.invokevirtual 107, 3) := by decide +kernel
theorem dX4_registerOfLetter_14 : decode cX4_registerOfLetter 14 = .ok (.astore_n 1, 1) := by decide +kernel
theorem dX4_registerOfLetter_15 : decode cX4_registerOfLetter 15 = .ok (.aload_n 1, 1) := by decide +kernel
theorem dX4_registerOfLetter_16 : decode cX4_registerOfLetter 16 = .ok (.ifnonnull 13, 3) := by decide +kernel
theorem dX4_registerOfLetter_19 : decode cX4_registerOfLetter 19 = .ok (.new 56, 3) := by decide +kernel
theorem dX4_registerOfLetter_22 : decode cX4_registerOfLetter 22 = .ok (.dup, 1) := by decide +kernel
theorem dX4_registerOfLetter_23 : decode cX4_registerOfLetter 23 = .ok (.ldc 238, 2) := by decide +kernel
theorem dX4_registerOfLetter_25 : decode cX4_registerOfLetter 25 = .ok (.invokespecial 60, 3) := by decide +kernel
theorem dX4_registerOfLetter_28 : decode cX4_registerOfLetter 28 = .ok (.athrow, 1) := by decide +kernel
theorem dX4_registerOfLetter_29 : decode cX4_registerOfLetter 29 = .ok (.aload_n 0, 1) := by decide +kernel
theorem dX4_registerOfLetter_30 : decode cX4_registerOfLetter 30 = .ok (.getfield 28, 3) := by decide +kernel
theorem dX4_registerOfLetter_33 : decode cX4_registerOfLetter 33 = .ok (.invokevirtual 118, 3) := by decide +kernel
theorem dX4_registerOfLetter_36 : decode cX4_registerOfLetter 36 = .ok (.aload_n 1, 1) := by decide +kernel
theorem dX4_registerOfLetter_37 : decode cX4_registerOfLetter 37 = .ok (.areturn, 1) := by decide +kernel
theorem dX4_needHeld_0 : decode cX4_needHeld 0 = .ok (.aload_n 0, 1) := by decide +kernel
theorem dX4_needHeld_1 : decode cX4_needHeld 1 = .ok (.getfield 95, 3) := by decide +kernel
theorem dX4_needHeld_4 : decode cX4_needHeld 4 = .ok (.iconst 1, 1) := by decide +kernel
theorem dX4_needHeld_5 : decode cX4_needHeld 5 = .ok (.if_icmp .ge 13, 3) := by decide +kernel
theorem dX4_needHeld_8 : decode cX4_needHeld 8 = .ok (.new 165, 3) := by decide +kernel
theorem dX4_needHeld_11 : decode cX4_needHeld 11 = .ok (.dup, 1) := by decide +kernel
theorem dX4_needHeld_12 : decode cX4_needHeld 12 = .ok (.ldc 240, 2) := by decide +kernel
theorem dX4_needHeld_14 : decode cX4_needHeld 14 = .ok (.invokespecial 169, 3) := by decide +kernel
theorem dX4_needHeld_17 : decode cX4_needHeld 17 = .ok (.athrow, 1) := by decide +kernel
theorem dX4_needHeld_18 : decode cX4_needHeld 18 = .ok (.return_, 1) := by decide +kernel
set_option maxRecDepth 20000 in
theorem ggX4_moveToOrFromRegister_X4_registerOfLetter : GoodIn wsX4_moveToOrFromRegister wsX4_registerOfLetter := goodIn_ca (goodIn_r _ [6, 7, 8, 9, 10, 11, 12, 13, 14, 15, 16, 17, 18, 19, 20, 21, 22, 23, 24, 25, 26, 27, 28, 29, 30, 31, 32, 5, 33, 34, 35, 36, 37, 38, 105, 106, 107, 108, 109, 110, 111, 112, 113, 114, 115, 116, 117] (by decide +kernel) (by decide +kernel)) (goodIn_sub (fun _ h => List.mem_cons_of_mem _ (List.mem_append_left _ (List.mem_append_left _ (List.mem_append_right _ h)))) (by decide +kernel))
set_option maxRecDepth 20000 in
theorem gX4_moveToOrFromRegister_X4_registerOfLetter : GoodIn wsX4_moveToOrFromRegister (wsV RX4 242 RX4 yX4_registerOfLetter wsX4_registerOfLetter) := goodIn_app (goodIn_of _ (by decide +kernel)) ggX4_moveToOrFromRegister_X4_registerOfLetter
set_option maxRecDepth 20000 in
theorem ggX4_moveToOrFromRegister_X4_needItems : GoodIn wsX4_moveToOrFromRegister wsX4_needItems := goodIn_ca (goodIn_r _ [42, 43, 44, 1, 45, 105, 106, 107, 108, 109, 110, 111, 118, 119, 120, 121, 122] (by decide +kernel) (by decide +kernel)) (goodIn_sub (fun _ h => List.mem_cons_of_mem _ (List.mem_append_left _ (List.mem_append_right _ h))) (by decide +kernel))
set_option maxRecDepth 20000 in
theorem gX4_moveToOrFromRegister_X4_needItems : GoodIn wsX4_moveToOrFromRegister (wsV RX4 170 RX4 yX4_needItems wsX4_needItems) := goodIn_app (goodIn_of _ (by decide +kernel)) ggX4_moveToOrFromRegister_X4_needItems
set_option maxRecDepth 20000 in
theorem ggX4_moveToOrFromRegister_X3_drop : GoodIn wsX4_moveToOrFromRegister wsX3_drop := goodIn_r _ [50, 51, 52, 53, 54, 55, 118, 119, 120, 121, 122] (by decide +kernel) (by decide +kernel)
set_option maxRecDepth 20000 in
theorem gX4_moveToOrFromRegister_X3_drop : GoodIn wsX4_moveToOrFromRegister (wsV RX4 215 RX3 yX3_drop wsX3_drop) := goodIn_app (goodIn_of _ (by decide +kernel)) ggX4_moveToOrFromRegister_X3_drop
set_option maxRecDepth 20000 in
theorem ggX4_moveToOrFromRegister_X3_putTopOf : GoodIn wsX4_moveToOrFromRegister wsX3_putTopOf := goodIn_ca (goodIn_r _ [59, 60, 61, 62, 49, 63, 51, 64, 65, 66, 67, 68, 69, 70, 71, 72, 73, 74, 75, 76, 77, 78, 79, 80, 81, 82, 83, 84, 85, 86, 87, 88, 89, 90, 91, 92, 93, 94, 95, 96, 97, 98, 99, 100, 101, 118, 119, 120, 121, 122] (by decide +kernel) (by decide +kernel)) (goodIn_sub (fun _ h => List.mem_cons_of_mem _ (List.mem_append_right _ h)) (by decide +kernel))
set_option maxRecDepth 20000 in
theorem gX4_moveToOrFromRegister_X3_putTopOf : GoodIn wsX4_moveToOrFromRegister (wsV RX4 225 RX3 yX3_putTopOf wsX3_putTopOf) := goodIn_app (goodIn_of _ (by decide +kernel)) ggX4_moveToOrFromRegister_X3_putTopOf
set_option maxRecDepth 20000 in
theorem ggX4_moveToOrFromRegister_X4_needHeld : GoodIn wsX4_moveToOrFromRegister wsX4_needHeld := goodIn_ca (goodIn_r _ [104, 43, 44, 45, 118, 119, 120, 121, 122] (by decide +kernel) (by decide +kernel)) (goodIn_sub (fun _ h => List.mem_cons_of_mem _ (List.mem_append_left _ (List.mem_append_right _ h))) (by decide +kernel))
set_option maxRecDepth 20000 in
theorem gX4_moveToOrFromRegister_X4_needHeld : GoodIn wsX4_moveToOrFromRegister (va_wsS RX4 246 yX4_needHeld wsX4_needHeld) := goodIn_app (goodIn_of _ (by decide +kernel)) ggX4_moveToOrFromRegister_X4_needHeld
theorem dX4_moveToOrFromRegister_0 : decode cX4_moveToOrFromRegister 0 = .ok (.aload_n 0, 1) := by decide +kernel
theorem dX4_moveToOrFromRegister_1 : decode cX4_moveToOrFromRegister 1 = .ok (.invokevirtual 242, 3) := by decide +kernel
theorem dX4_moveToOrFromRegister_4 : decode cX4_moveToOrFromRegister 4 = .ok (.astore_n 2, 1) := by decide +kernel
theorem dX4_moveToOrFromRegister_5 : decode cX4_moveToOrFromRegister 5 = .ok (.iload_n 1, 1) := by decide +kernel
theorem dX4_moveToOrFromRegister_6 : decode cX4_moveToOrFromRegister 6 = .ok (.bipush 115, 2) := by decide +kernel
theorem dX4_moveToOrFromRegister_8 : decode cX4_moveToOrFromRegister 8 = .ok (.if_icmp .ne 32, 3) := by decide +kernel
theorem dX4_moveToOrFromRegister_11 : decode cX4_moveToOrFromRegister 11 = .ok (.aload_n 0, 1) := by decide +kernel
theorem dX4_moveToOrFromRegister_12 : decode cX4_moveToOrFromRegister 12 = .ok (.iconst 1, 1) := by decide +kernel
theorem dX4_moveToOrFromRegister_13 : decode cX4_moveToOrFromRegister 13 = .ok (.invokevirtual 170, 3) := by decide +kernel
theorem dX4_moveToOrFromRegister_16 : decode cX4_moveToOrFromRegister 16 = .ok (.aload_n 2, 1) := by decide +kernel
theorem dX4_moveToOrFromRegister_17 : decode cX4_moveToOrFromRegister 17 = .ok (.iconst 1, 1) := by decide +kernel
theorem dX4_moveToOrFromRegister_18 : decode cX4_moveToOrFromRegister 18 = .ok (.invokevirtual 215, 3) := by decide +kernel
theorem dX4_moveToOrFromRegister_21 : decode cX4_moveToOrFromRegister 21 = .ok (.aload_n 2, 1) := by decide +kernel
theorem dX4_moveToOrFromRegister_22 : decode cX4_moveToOrFromRegister 22 = .ok (.aload_n 0, 1) := by decide +kernel
theorem dX4_moveToOrFromRegister_23 : decode cX4_moveToOrFromRegister 23 = .ok (.getfield 14, 3) := by decide +kernel
theorem dX4_moveToOrFromRegister_26 : decode cX4_moveToOrFromRegister 26 = .ok (.invokevirtual 225, 3) := by decide +kernel
theorem dX4_moveToOrFromRegister_29 : decode cX4_moveToOrFromRegister 29 = .ok (.aload_n 0, 1) := by decide +kernel
theorem dX4_moveToOrFromRegister_30 : decode cX4_moveToOrFromRegister 30 = .ok (.getfield 14, 3) := by decide +kernel
theorem dX4_moveToOrFromRegister_33 : decode cX4_moveToOrFromRegister 33 = .ok (.iconst 1, 1) := by decide +kernel
theorem dX4_moveToOrFromRegister_34 : decode cX4_moveToOrFromRegister 34 = .ok (.invokevirtual 215, 3) := by decide +kernel
theorem dX4_moveToOrFromRegister_37 : decode cX4_moveToOrFromRegister 37 = .ok (.goto 60, 3) := by decide +kernel
theorem dX4_moveToOrFromRegister_40 : decode cX4_moveToOrFromRegister 40 = .ok (.iload_n 1, 1) := by decide +kernel
theorem dX4_moveToOrFromRegister_41 : decode cX4_moveToOrFromRegister 41 = .ok (.bipush 83, 2) := by decide +kernel
theorem dX4_moveToOrFromRegister_43 : decode cX4_moveToOrFromRegister 43 = .ok (.if_icmp .ne 27, 3) := by decide +kernel
theorem dX4_moveToOrFromRegister_46 : decode cX4_moveToOrFromRegister 46 = .ok (.aload_n 0, 1) := by decide +kernel
theorem dX4_moveToOrFromRegister_47 : decode cX4_moveToOrFromRegister 47 = .ok (.iconst 1, 1) := by decide +kernel
theorem dX4_moveToOrFromRegister_48 : decode cX4_moveToOrFromRegister 48 = .ok (.invokevirtual 170, 3) := by decide +kernel
theorem dX4_moveToOrFromRegister_51 : decode cX4_moveToOrFromRegister 51 = .ok (.aload_n 2, 1) := by decide +kernel
theorem dX4_moveToOrFromRegister_52 : decode cX4_moveToOrFromRegister 52 = .ok (.aload_n 0, 1) := by decide +kernel
theorem dX4_moveToOrFromRegister_53 : decode cX4_moveToOrFromRegister 53 = .ok (.getfield 14, 3) := by decide +kernel
theorem dX4_moveToOrFromRegister_56 : decode cX4_moveToOrFromRegister 56 = .ok (.invokevirtual 225, 3) := by decide +kernel
theorem dX4_moveToOrFromRegister_59 : decode cX4_moveToOrFromRegister 59 = .ok (.aload_n 0, 1) := by decide +kernel
theorem dX4_moveToOrFromRegister_60 : decode cX4_moveToOrFromRegister 60 = .ok (.getfield 14, 3) := by decide +kernel
theorem dX4_moveToOrFromRegister_63 : decode cX4_moveToOrFromRegister 63 = .ok (.iconst 1, 1) := by decide +kernel
theorem dX4_moveToOrFromRegister_64 : decode cX4_moveToOrFromRegister 64 = .ok (.invokevirtual 215, 3) := by decide +kernel
theorem dX4_moveToOrFromRegister_67 : decode cX4_moveToOrFromRegister 67 = .ok (.goto 30, 3) := by decide +kernel
theorem dX4_moveToOrFromRegister_70 : decode cX4_moveToOrFromRegister 70 = .ok (.aload_n 2, 1) := by decide +kernel
theorem dX4_moveToOrFromRegister_71 : decode cX4_moveToOrFromRegister 71 = .ok (.invokestatic 246, 3) := by decide +kernel
theorem dX4_moveToOrFromRegister_74 : decode cX4_moveToOrFromRegister 74 = .ok (.aload_n 0, 1) := by decide +kernel
theorem dX4_moveToOrFromRegister_75 : decode cX4_moveToOrFromRegister 75 = .ok (.getfield 14, 3) := by decide +kernel
theorem dX4_moveToOrFromRegister_78 : decode cX4_moveToOrFromRegister 78 = .ok (.aload_n 2, 1) := by decide +kernel
theorem dX4_moveToOrFromRegister_79 : decode cX4_moveToOrFromRegister 79 = .ok (.invokevirtual 225, 3) := by decide +kernel
theorem dX4_moveToOrFromRegister_82 : decode cX4_moveToOrFromRegister 82 = .ok (.aload_n 2, 1) := by decide +kernel
theorem dX4_moveToOrFromRegister_83 : decode cX4_moveToOrFromRegister 83 = .ok (.iload_n 1, 1) := by decide +kernel
theorem dX4_moveToOrFromRegister_84 : decode cX4_moveToOrFromRegister 84 = .ok (.bipush 76, 2) := by decide +kernel
theorem dX4_moveToOrFromRegister_86 : decode cX4_moveToOrFromRegister 86 = .ok (.if_icmp .ne 7, 3) := by decide +kernel
theorem dX4_moveToOrFromRegister_89 : decode cX4_moveToOrFromRegister 89 = .ok (.iconst 1, 1) := by decide +kernel
theorem dX4_moveToOrFromRegister_90 : decode cX4_moveToOrFromRegister 90 = .ok (.goto 4, 3) := by decide +kernel
theorem dX4_moveToOrFromRegister_93 : decode cX4_moveToOrFromRegister 93 = .ok (.iconst 0, 1) := by decide +kernel
theorem dX4_moveToOrFromRegister_94 : decode cX4_moveToOrFromRegister 94 = .ok (.invokevirtual 215, 3) := by decide +kernel
theorem dX4_moveToOrFromRegister_97 : decode cX4_moveToOrFromRegister 97 = .ok (.return_, 1) := by decide +kernel
set_option maxRecDepth 20000 in
theorem ggX4_runTop_X4_needItems : GoodIn wsX4_runTop wsX4_needItems := goodIn_ca (goodIn_r _ [7, 8, 9, 1, 10, 87, 88, 89, 90, 91, 92, 93, 94, 95, 96, 97, 98] (by decide +kernel) (by decide +kernel)) (goodIn_sub (fun _ h => List.mem_cons_of_mem _ (List.mem_append_left _ (List.mem_append_right _ h))) (by decide +kernel))
set_option maxRecDepth 20000 in
theorem gX4_runTop_X4_needItems : GoodIn wsX4_runTop (wsV RX4 170 RX4 yX4_needItems wsX4_needItems) := goodIn_app (goodIn_of _ (by decide +kernel)) ggX4_runTop_X4_needItems
set_option maxRecDepth 20000 in
theorem ggX4_runTop_X3_slotBelowTop : GoodIn wsX4_runTop wsX3_slotBelowTop := goodIn_r _ [15, 16, 94, 95, 96, 97, 98] (by decide +kernel) (by decide +kernel)
set_option maxRecDepth 20000 in
theorem gX4_runTop_X3_slotBelowTop : GoodIn wsX4_runTop (wsV RX4 104 RX3 yX3_slotBelowTop wsX3_slotBelowTop) := goodIn_app (goodIn_of _ (by decide +kernel)) ggX4_runTop_X3_slotBelowTop
set_option maxRecDepth 20000 in
theorem ggX4_runTop_X3_rowAt : GoodIn wsX4_runTop wsX3_rowAt := goodIn_r _ [20, 21, 22, 23, 24, 14, 25, 16, 26, 94, 95, 96, 97, 98] (by decide +kernel) (by decide +kernel)
set_option maxRecDepth 20000 in
theorem gX4_runTop_X3_rowAt : GoodIn wsX4_runTop (wsV RX4 173 RX3 yX3_rowAt wsX3_rowAt) := goodIn_app (goodIn_of _ (by decide +kernel)) ggX4_runTop_X3_rowAt
set_option maxRecDepth 20000 in
theorem ggX4_runTop_X3_startAt : GoodIn wsX4_runTop wsX3_startAt := goodIn_r _ [30, 31, 22, 23, 24, 14, 25, 16, 26, 94, 95, 96, 97, 98] (by decide +kernel) (by decide +kernel)
set_option maxRecDepth 20000 in
theorem gX4_runTop_X3_startAt : GoodIn wsX4_runTop (wsV RX4 249 RX3 yX3_startAt wsX3_startAt) := goodIn_app (goodIn_of _ (by decide +kernel)) ggX4_runTop_X3_startAt
set_option maxRecDepth 20000 in
theorem ggX4_runTop_X3_valueAt : GoodIn wsX4_runTop wsX3_valueAt := goodIn_r _ [35, 26, 22, 23, 24, 14, 25, 16, 94, 95, 96, 97, 98] (by decide +kernel) (by decide +kernel)
set_option maxRecDepth 20000 in
theorem gX4_runTop_X3_valueAt : GoodIn wsX4_runTop (wsV RX4 96 RX3 yX3_valueAt wsX3_valueAt) := goodIn_app (goodIn_of _ (by decide +kernel)) ggX4_runTop_X3_valueAt
set_option maxRecDepth 20000 in
theorem ggX4_runTop_X1_enterMacro : GoodIn wsX4_runTop wsX1_enterMacro := goodIn_ca (goodIn_r _ [40, 41, 42, 43, 39, 44, 45, 46, 47, 48, 49, 50, 51, 52, 53, 54, 55, 56, 57, 58, 59, 60, 61, 62, 63, 64, 65, 66, 67, 68, 69, 70, 71, 72, 73, 74, 75, 76, 77, 78, 79, 80, 81, 99, 100, 101, 102, 103, 104] (by decide +kernel) (by decide +kernel)) (goodIn_sub (fun _ h => List.mem_cons_of_mem _ (List.mem_append_right _ h)) (by decide +kernel))
set_option maxRecDepth 20000 in
theorem gX4_runTop_X1_enterMacro : GoodIn wsX4_runTop (wsV RX4 252 RX1 yX1_enterMacro wsX1_enterMacro) := goodIn_app (goodIn_of _ (by decide +kernel)) ggX4_runTop_X1_enterMacro
set_option maxRecDepth 20000 in
theorem ggX4_runTop_X3_drop : GoodIn wsX4_runTop wsX3_drop := goodIn_r _ [85, 16, 86, 73, 74, 75, 94, 95, 96, 97, 98] (by decide +kernel) (by decide +kernel)
set_option maxRecDepth 20000 in
theorem gX4_runTop_X3_drop : GoodIn wsX4_runTop (wsV RX4 215 RX3 yX3_drop wsX3_drop) := goodIn_app (goodIn_of _ (by decide +kernel)) ggX4_runTop_X3_drop
theorem dX4_runTop_0 : decode cX4_runTop 0 = .ok (.aload_n 0, 1) := by decide +kernel
theorem dX4_runTop_1 : decode cX4_runTop 1 = .ok (.iconst 1, 1) := by decide +kernel
theorem dX4_runTop_2 : decode cX4_runTop 2 = .ok (.invokevirtual 170, 3) := by decide +kernel
theorem dX4_runTop_5 : decode cX4_runTop 5 = .ok (.aload_n 0, 1) := by decide +kernel
theorem dX4_runTop_6 : decode cX4_runTop 6 = .ok (.getfield 14, 3) := by decide +kernel
theorem dX4_runTop_9 : decode cX4_runTop 9 = .ok (.iconst 0, 1) := by decide +kernel
theorem dX4_runTop_10 : decode cX4_runTop 10 = .ok (.invokevirtual 104, 3) := by decide +kernel
theorem dX4_runTop_13 : decode cX4_runTop 13 = .ok (.istore_n 1, 1) := by decide +kernel
theorem dX4_runTop_14 : decode cX4_runTop 14 = .ok (.aload_n 0, 1) := by decide +kernel
theorem dX4_runTop_15 : decode cX4_runTop 15 = .ok (.getfield 14, 3) := by decide +kernel
theorem dX4_runTop_18 : decode cX4_runTop 18 = .ok (.iload_n 1, 1) := by decide +kernel
theorem dX4_runTop_19 : decode cX4_runTop 19 = .ok (.invokevirtual 173, 3) := by decide +kernel
theorem dX4_runTop_22 : decode cX4_runTop 22 = .ok (.astore_n 2, 1) := by decide +kernel
theorem dX4_runTop_23 : decode cX4_runTop 23 = .ok (.aload_n 2, 1) := by decide +kernel
theorem dX4_runTop_24 : decode cX4_runTop 24 = .ok (.ifnull 36, 3) := by decide +kernel
theorem dX4_runTop_27 : decode cX4_runTop 27 = .ok (.aload_n 0, 1) := by decide +kernel
theorem dX4_runTop_28 : decode cX4_runTop 28 = .ok (.getfield 28, 3) := by decide +kernel
theorem dX4_runTop_31 : decode cX4_runTop 31 = .ok (.aload_n 2, 1) := by decide +kernel
theorem dX4_runTop_32 : decode cX4_runTop 32 = .ok (.aload_n 0, 1) := by decide +kernel
theorem dX4_runTop_33 : decode cX4_runTop 33 = .ok (.getfield 14, 3) := by decide +kernel
theorem dX4_runTop_36 : decode cX4_runTop 36 = .ok (.iload_n 1, 1) := by decide +kernel
theorem dX4_runTop_37 : decode cX4_runTop 37 = .ok (.invokevirtual 249, 3) := by decide +kernel
theorem dX4_runTop_40 : decode cX4_runTop 40 = .ok (.aload_n 0, 1) := by decide +kernel
theorem dX4_runTop_41 : decode cX4_runTop 41 = .ok (.getfield 14, 3) := by decide +kernel
theorem dX4_runTop_44 : decode cX4_runTop 44 = .ok (.iload_n 1, 1) := by decide +kernel
theorem dX4_runTop_45 : decode cX4_runTop 45 = .ok (.invokevirtual 96, 3) := by decide +kernel
theorem dX4_runTop_48 : decode cX4_runTop 48 = .ok (.l2i, 1) := by decide +kernel
theorem dX4_runTop_49 : decode cX4_runTop 49 = .ok (.invokevirtual 252, 3) := by decide +kernel
theorem dX4_runTop_52 : decode cX4_runTop 52 = .ok (.aload_n 0, 1) := by decide +kernel
theorem dX4_runTop_53 : decode cX4_runTop 53 = .ok (.getfield 14, 3) := by decide +kernel
theorem dX4_runTop_56 : decode cX4_runTop 56 = .ok (.iconst 1, 1) := by decide +kernel
theorem dX4_runTop_57 : decode cX4_runTop 57 = .ok (.invokevirtual 215, 3) := by decide +kernel
theorem dX4_runTop_60 : decode cX4_runTop 60 = .ok (.return_, 1) := by decide +kernel
set_option maxRecDepth 20000 in
theorem ggX4_runIfOrdered_X4_registerOfLetter : GoodIn wsX4_runIfOrdered wsX4_registerOfLetter := goodIn_ca (goodIn_r _ [9, 10, 11, 4, 12, 13, 14, 15, 16, 17, 18, 19, 20, 21, 22, 23, 24, 25, 26, 27, 28, 29, 30, 31, 32, 33, 34, 8, 35, 36, 37, 38, 39, 40, 141, 142, 143, 144, 145, 146, 147, 148, 149, 150, 151, 152, 153] (by decide +kernel) (by decide +kernel)) (goodIn_sub (fun _ h => List.mem_cons_of_mem _ (List.mem_append_left _ (List.mem_append_left _ (List.mem_append_left _ (List.mem_append_right _ h))))) (by decide +kernel))
set_option maxRecDepth 20000 in
theorem gX4_runIfOrdered_X4_registerOfLetter : GoodIn wsX4_runIfOrdered (wsV RX4 242 RX4 yX4_registerOfLetter wsX4_registerOfLetter) := goodIn_app (goodIn_of _ (by decide +kernel)) ggX4_runIfOrdered_X4_registerOfLetter
set_option maxRecDepth 20000 in
theorem ggX4_runIfOrdered_X4_needNumbers : GoodIn wsX4_runIfOrdered wsX4_needNumbers := goodIn_ca (goodIn_ca (goodIn_r _ [44, 1, 2, 3, 45, 46, 47, 8, 48, 49, 50, 51, 52, 53, 54, 55, 56, 57, 58, 59, 60, 61, 62, 63, 64, 65, 66, 67, 141, 142, 143, 144, 145, 146, 147, 154, 155, 156, 157, 158] (by decide +kernel) (by decide +kernel)) (goodIn_sub (fun _ h => List.mem_cons_of_mem _ (List.mem_append_left _ (List.mem_append_left _ (List.mem_append_left _ (List.mem_append_left _ (List.mem_append_right _ h)))))) (by decide +kernel))) (goodIn_sub (fun _ h => List.mem_cons_of_mem _ (List.mem_append_left _ (List.mem_append_left _ (List.mem_append_right _ h)))) (by decide +kernel))
set_option maxRecDepth 20000 in
theorem gX4_runIfOrdered_X4_needNumbers : GoodIn wsX4_runIfOrdered (wsV RX4 182 RX4 yX4_needNumbers wsX4_needNumbers) := goodIn_app (goodIn_of _ (by decide +kernel)) ggX4_runIfOrdered_X4_needNumbers
set_option maxRecDepth 20000 in
theorem ggX4_runIfOrdered_X3_slotBelowTop : GoodIn wsX4_runIfOrdered wsX3_slotBelowTop := goodIn_r _ [56, 57, 154, 155, 156, 157, 158] (by decide +kernel) (by decide +kernel)
set_option maxRecDepth 20000 in
theorem gX4_runIfOrdered_X3_slotBelowTop : GoodIn wsX4_runIfOrdered (wsV RX4 104 RX3 yX3_slotBelowTop wsX3_slotBelowTop) := goodIn_app (goodIn_of _ (by decide +kernel)) ggX4_runIfOrdered_X3_slotBelowTop
set_option maxRecDepth 20000 in
theorem ggX4_runIfOrdered_X3_valueAt : GoodIn wsX4_runIfOrdered wsX3_valueAt := goodIn_r _ [71, 67, 63, 64, 65, 55, 66, 57, 154, 155, 156, 157, 158] (by decide +kernel) (by decide +kernel)
set_option maxRecDepth 20000 in
theorem gX4_runIfOrdered_X3_valueAt : GoodIn wsX4_runIfOrdered (wsV RX4 96 RX3 yX3_valueAt wsX3_valueAt) := goodIn_app (goodIn_of _ (by decide +kernel)) ggX4_runIfOrdered_X3_valueAt
set_option maxRecDepth 20000 in
theorem ggX4_runIfOrdered_X3_placesAt : GoodIn wsX4_runIfOrdered wsX3_placesAt := goodIn_r _ [75, 76, 63, 64, 65, 55, 66, 57, 67, 154, 155, 156, 157, 158] (by decide +kernel) (by decide +kernel)
set_option maxRecDepth 20000 in
theorem gX4_runIfOrdered_X3_placesAt : GoodIn wsX4_runIfOrdered (wsV RX4 100 RX3 yX3_placesAt wsX3_placesAt) := goodIn_app (goodIn_of _ (by decide +kernel)) ggX4_runIfOrdered_X3_placesAt
set_option maxRecDepth 20000 in
theorem ggX4_runIfOrdered_X0_order : GoodIn wsX4_runIfOrdered wsX0_order := goodIn_ca (goodIn_r _ [80, 81, 82, 83, 84, 85, 86, 79, 87, 88, 89, 90, 91, 92, 93, 94, 95, 96, 97, 98, 99, 100, 101, 102, 103, 104, 105, 106, 107] (by decide +kernel) (by decide +kernel)) (goodIn_sub (fun _ h => List.mem_cons_of_mem _ (List.mem_append_left _ (List.mem_append_right _ h))) (by decide +kernel))
set_option maxRecDepth 20000 in
theorem gX4_runIfOrdered_X0_order : GoodIn wsX4_runIfOrdered (va_wsS RX4 255 yX0_order wsX0_order) := goodIn_app (goodIn_of _ (by decide +kernel)) ggX4_runIfOrdered_X0_order
set_option maxRecDepth 20000 in
theorem ggX4_runIfOrdered_X4_needHeld : GoodIn wsX4_runIfOrdered wsX4_needHeld := goodIn_ca (goodIn_r _ [110, 49, 50, 51, 154, 155, 156, 157, 158] (by decide +kernel) (by decide +kernel)) (goodIn_sub (fun _ h => List.mem_cons_of_mem _ (List.mem_append_left _ (List.mem_append_left _ (List.mem_append_right _ h)))) (by decide +kernel))
set_option maxRecDepth 20000 in
theorem gX4_runIfOrdered_X4_needHeld : GoodIn wsX4_runIfOrdered (va_wsS RX4 246 yX4_needHeld wsX4_needHeld) := goodIn_app (goodIn_of _ (by decide +kernel)) ggX4_runIfOrdered_X4_needHeld
set_option maxRecDepth 20000 in
theorem ggX4_runIfOrdered_X3_rowAt : GoodIn wsX4_runIfOrdered wsX3_rowAt := goodIn_r _ [61, 62, 63, 64, 65, 55, 66, 57, 67, 154, 155, 156, 157, 158] (by decide +kernel) (by decide +kernel)
set_option maxRecDepth 20000 in
theorem gX4_runIfOrdered_X3_rowAt : GoodIn wsX4_runIfOrdered (wsV RX4 173 RX3 yX3_rowAt wsX3_rowAt) := goodIn_app (goodIn_of _ (by decide +kernel)) ggX4_runIfOrdered_X3_rowAt
set_option maxRecDepth 20000 in
theorem ggX4_runIfOrdered_X3_startAt : GoodIn wsX4_runIfOrdered wsX3_startAt := goodIn_r _ [114, 115, 63, 64, 65, 55, 66, 57, 67, 154, 155, 156, 157, 158] (by decide +kernel) (by decide +kernel)
set_option maxRecDepth 20000 in
theorem gX4_runIfOrdered_X3_startAt : GoodIn wsX4_runIfOrdered (wsV RX4 249 RX3 yX3_startAt wsX3_startAt) := goodIn_app (goodIn_of _ (by decide +kernel)) ggX4_runIfOrdered_X3_startAt
set_option maxRecDepth 20000 in
theorem ggX4_runIfOrdered_X1_enterMacro : GoodIn wsX4_runIfOrdered wsX1_enterMacro := goodIn_ca (goodIn_r _ [119, 120, 121, 122, 15, 123, 124, 13, 14, 16, 17, 18, 19, 20, 21, 22, 23, 24, 25, 26, 27, 28, 29, 30, 31, 125, 38, 39, 40, 126, 127, 128, 129, 130, 82, 83, 84, 131, 132, 133, 134, 135, 99, 148, 149, 150, 151, 152, 153] (by decide +kernel) (by decide +kernel)) (goodIn_sub (fun _ h => List.mem_cons_of_mem _ (List.mem_append_right _ h)) (by decide +kernel))
set_option maxRecDepth 20000 in
theorem gX4_runIfOrdered_X1_enterMacro : GoodIn wsX4_runIfOrdered (wsV RX4 252 RX1 yX1_enterMacro wsX1_enterMacro) := goodIn_app (goodIn_of _ (by decide +kernel)) ggX4_runIfOrdered_X1_enterMacro
set_option maxRecDepth 20000 in
theorem ggX4_runIfOrdered_X3_drop : GoodIn wsX4_runIfOrdered wsX3_drop := goodIn_r _ [139, 57, 140, 82, 83, 84, 154, 155, 156, 157, 158] (by decide +kernel) (by decide +kernel)
set_option maxRecDepth 20000 in
theorem gX4_runIfOrdered_X3_drop : GoodIn wsX4_runIfOrdered (wsV RX4 215 RX3 yX3_drop wsX3_drop) := goodIn_app (goodIn_of _ (by decide +kernel)) ggX4_runIfOrdered_X3_drop
theorem dX4_runIfOrdered_0 : decode cX4_runIfOrdered 0 = .ok (.aload_n 0, 1) := by decide +kernel
theorem dX4_runIfOrdered_1 : decode cX4_runIfOrdered 1 = .ok (.invokevirtual 242, 3) := by decide +kernel
theorem dX4_runIfOrdered_4 : decode cX4_runIfOrdered 4 = .ok (.astore_n 2, 1) := by decide +kernel
theorem dX4_runIfOrdered_5 : decode cX4_runIfOrdered 5 = .ok (.aload_n 0, 1) := by decide +kernel
theorem dX4_runIfOrdered_6 : decode cX4_runIfOrdered 6 = .ok (.iconst 2, 1) := by decide +kernel
theorem dX4_runIfOrdered_7 : decode cX4_runIfOrdered 7 = .ok (.invokevirtual 182, 3) := by decide +kernel
theorem dX4_runIfOrdered_10 : decode cX4_runIfOrdered 10 = .ok (.aload_n 0, 1) := by decide +kernel
theorem dX4_runIfOrdered_11 : decode cX4_runIfOrdered 11 = .ok (.getfield 14, 3) := by decide +kernel
theorem dX4_runIfOrdered_14 : decode cX4_runIfOrdered 14 = .ok (.iconst 1, 1) := by decide +kernel
theorem dX4_runIfOrdered_15 : decode cX4_runIfOrdered 15 = .ok (.invokevirtual 104, 3) := by decide +kernel
theorem dX4_runIfOrdered_18 : decode cX4_runIfOrdered 18 = .ok (.istore_n 3, 1) := by decide +kernel
theorem dX4_runIfOrdered_19 : decode cX4_runIfOrdered 19 = .ok (.aload_n 0, 1) := by decide +kernel
theorem dX4_runIfOrdered_20 : decode cX4_runIfOrdered 20 = .ok (.getfield 14, 3) := by decide +kernel
theorem dX4_runIfOrdered_23 : decode cX4_runIfOrdered 23 = .ok (.iconst 0, 1) := by decide +kernel
theorem dX4_runIfOrdered_24 : decode cX4_runIfOrdered 24 = .ok (.invokevirtual 104, 3) := by decide +kernel
theorem dX4_runIfOrdered_27 : decode cX4_runIfOrdered 27 = .ok (.istore 4, 2) := by decide +kernel
theorem dX4_runIfOrdered_29 : decode cX4_runIfOrdered 29 = .ok (.aload_n 0, 1) := by decide +kernel
theorem dX4_runIfOrdered_30 : decode cX4_runIfOrdered 30 = .ok (.getfield 14, 3) := by decide +kernel
theorem dX4_runIfOrdered_33 : decode cX4_runIfOrdered 33 = .ok (.iload 4, 2) := by decide +kernel
theorem dX4_runIfOrdered_35 : decode cX4_runIfOrdered 35 = .ok (.invokevirtual 96, 3) := by decide +kernel
theorem dX4_runIfOrdered_38 : decode cX4_runIfOrdered 38 = .ok (.aload_n 0, 1) := by decide +kernel
theorem dX4_runIfOrdered_39 : decode cX4_runIfOrdered 39 = .ok (.getfield 14, 3) := by decide +kernel
theorem dX4_runIfOrdered_42 : decode cX4_runIfOrdered 42 = .ok (.iload 4, 2) := by decide +kernel
theorem dX4_runIfOrdered_44 : decode cX4_runIfOrdered 44 = .ok (.invokevirtual 100, 3) := by decide +kernel
theorem dX4_runIfOrdered_47 : decode cX4_runIfOrdered 47 = .ok (.aload_n 0, 1) := by decide +kernel
theorem dX4_runIfOrdered_48 : decode cX4_runIfOrdered 48 = .ok (.getfield 14, 3) := by decide +kernel
theorem dX4_runIfOrdered_51 : decode cX4_runIfOrdered 51 = .ok (.iload_n 3, 1) := by decide +kernel
theorem dX4_runIfOrdered_52 : decode cX4_runIfOrdered 52 = .ok (.invokevirtual 96, 3) := by decide +kernel
theorem dX4_runIfOrdered_55 : decode cX4_runIfOrdered 55 = .ok (.aload_n 0, 1) := by decide +kernel
theorem dX4_runIfOrdered_56 : decode cX4_runIfOrdered 56 = .ok (.getfield 14, 3) := by decide +kernel
theorem dX4_runIfOrdered_59 : decode cX4_runIfOrdered 59 = .ok (.iload_n 3, 1) := by decide +kernel
theorem dX4_runIfOrdered_60 : decode cX4_runIfOrdered 60 = .ok (.invokevirtual 100, 3) := by decide +kernel
theorem dX4_runIfOrdered_63 : decode cX4_runIfOrdered 63 = .ok (.invokestatic 255, 3) := by decide +kernel
theorem dX4_runIfOrdered_66 : decode cX4_runIfOrdered 66 = .ok (.istore 5, 2) := by decide +kernel
theorem dX4_runIfOrdered_68 : decode cX4_runIfOrdered 68 = .ok (.iload_n 1, 1) := by decide +kernel
theorem dX4_runIfOrdered_69 : decode cX4_runIfOrdered 69 = .ok (.bipush 60, 2) := by decide +kernel
theorem dX4_runIfOrdered_71 : decode cX4_runIfOrdered 71 = .ok (.if_icmp .ne 16, 3) := by decide +kernel
theorem dX4_runIfOrdered_74 : decode cX4_runIfOrdered 74 = .ok (.iload 5, 2) := by decide +kernel
theorem dX4_runIfOrdered_76 : decode cX4_runIfOrdered 76 = .ok (.ifCond .ge 7, 3) := by decide +kernel
theorem dX4_runIfOrdered_79 : decode cX4_runIfOrdered 79 = .ok (.iconst 1, 1) := by decide +kernel
theorem dX4_runIfOrdered_80 : decode cX4_runIfOrdered 80 = .ok (.goto 36, 3) := by decide +kernel
theorem dX4_runIfOrdered_83 : decode cX4_runIfOrdered 83 = .ok (.iconst 0, 1) := by decide +kernel
theorem dX4_runIfOrdered_84 : decode cX4_runIfOrdered 84 = .ok (.goto 32, 3) := by decide +kernel
theorem dX4_runIfOrdered_87 : decode cX4_runIfOrdered 87 = .ok (.iload_n 1, 1) := by decide +kernel
theorem dX4_runIfOrdered_88 : decode cX4_runIfOrdered 88 = .ok (.bipush 62, 2) := by decide +kernel
theorem dX4_runIfOrdered_90 : decode cX4_runIfOrdered 90 = .ok (.if_icmp .ne 16, 3) := by decide +kernel
theorem dX4_runIfOrdered_93 : decode cX4_runIfOrdered 93 = .ok (.iload 5, 2) := by decide +kernel
theorem dX4_runIfOrdered_95 : decode cX4_runIfOrdered 95 = .ok (.ifCond .le 7, 3) := by decide +kernel
theorem dX4_runIfOrdered_98 : decode cX4_runIfOrdered 98 = .ok (.iconst 1, 1) := by decide +kernel
theorem dX4_runIfOrdered_99 : decode cX4_runIfOrdered 99 = .ok (.goto 17, 3) := by decide +kernel
theorem dX4_runIfOrdered_102 : decode cX4_runIfOrdered 102 = .ok (.iconst 0, 1) := by decide +kernel
theorem dX4_runIfOrdered_103 : decode cX4_runIfOrdered 103 = .ok (.goto 13, 3) := by decide +kernel
theorem dX4_runIfOrdered_106 : decode cX4_runIfOrdered 106 = .ok (.iload 5, 2) := by decide +kernel
theorem dX4_runIfOrdered_108 : decode cX4_runIfOrdered 108 = .ok (.ifCond .ne 7, 3) := by decide +kernel
theorem dX4_runIfOrdered_111 : decode cX4_runIfOrdered 111 = .ok (.iconst 1, 1) := by decide +kernel
theorem dX4_runIfOrdered_112 : decode cX4_runIfOrdered 112 = .ok (.goto 4, 3) := by decide +kernel
theorem dX4_runIfOrdered_115 : decode cX4_runIfOrdered 115 = .ok (.iconst 0, 1) := by decide +kernel
theorem dX4_runIfOrdered_116 : decode cX4_runIfOrdered 116 = .ok (.istore 6, 2) := by decide +kernel
theorem dX4_runIfOrdered_118 : decode cX4_runIfOrdered 118 = .ok (.iload 6, 2) := by decide +kernel
theorem dX4_runIfOrdered_120 : decode cX4_runIfOrdered 120 = .ok (.ifCond .eq 60, 3) := by decide +kernel
theorem dX4_runIfOrdered_123 : decode cX4_runIfOrdered 123 = .ok (.aload_n 2, 1) := by decide +kernel
theorem dX4_runIfOrdered_124 : decode cX4_runIfOrdered 124 = .ok (.invokestatic 246, 3) := by decide +kernel
theorem dX4_runIfOrdered_127 : decode cX4_runIfOrdered 127 = .ok (.aload_n 2, 1) := by decide +kernel
theorem dX4_runIfOrdered_128 : decode cX4_runIfOrdered 128 = .ok (.iconst 0, 1) := by decide +kernel
theorem dX4_runIfOrdered_129 : decode cX4_runIfOrdered 129 = .ok (.invokevirtual 104, 3) := by decide +kernel
theorem dX4_runIfOrdered_132 : decode cX4_runIfOrdered 132 = .ok (.istore 7, 2) := by decide +kernel
theorem dX4_runIfOrdered_134 : decode cX4_runIfOrdered 134 = .ok (.aload_n 2, 1) := by decide +kernel
theorem dX4_runIfOrdered_135 : decode cX4_runIfOrdered 135 = .ok (.iload 7, 2) := by decide +kernel
theorem dX4_runIfOrdered_137 : decode cX4_runIfOrdered 137 = .ok (.invokevirtual 173, 3) := by decide +kernel
theorem dX4_runIfOrdered_140 : decode cX4_runIfOrdered 140 = .ok (.astore 8, 2) := by decide +kernel
theorem dX4_runIfOrdered_142 : decode cX4_runIfOrdered 142 = .ok (.aload 8, 2) := by decide +kernel
theorem dX4_runIfOrdered_144 : decode cX4_runIfOrdered 144 = .ok (.ifnonnull 14, 3) := by decide +kernel
theorem dX4_runIfOrdered_147 : decode cX4_runIfOrdered 147 = .ok (.new 177, 3) := by decide +kernel
theorem dX4_runIfOrdered_150 : decode cX4_runIfOrdered 150 = .ok (.dup, 1) := by decide +kernel
theorem dX4_runIfOrdered_151 : decode cX4_runIfOrdered 151 = .ok (.ldc_w 259, 3) := by decide +kernel
theorem dX4_runIfOrdered_154 : decode cX4_runIfOrdered 154 = .ok (.invokespecial 181, 3) := by decide +kernel
theorem dX4_runIfOrdered_157 : decode cX4_runIfOrdered 157 = .ok (.athrow, 1) := by decide +kernel
theorem dX4_runIfOrdered_158 : decode cX4_runIfOrdered 158 = .ok (.aload_n 0, 1) := by decide +kernel
theorem dX4_runIfOrdered_159 : decode cX4_runIfOrdered 159 = .ok (.getfield 28, 3) := by decide +kernel
theorem dX4_runIfOrdered_162 : decode cX4_runIfOrdered 162 = .ok (.aload 8, 2) := by decide +kernel
theorem dX4_runIfOrdered_164 : decode cX4_runIfOrdered 164 = .ok (.aload_n 2, 1) := by decide +kernel
theorem dX4_runIfOrdered_165 : decode cX4_runIfOrdered 165 = .ok (.iload 7, 2) := by decide +kernel
theorem dX4_runIfOrdered_167 : decode cX4_runIfOrdered 167 = .ok (.invokevirtual 249, 3) := by decide +kernel
theorem dX4_runIfOrdered_170 : decode cX4_runIfOrdered 170 = .ok (.aload_n 2, 1) := by decide +kernel
theorem dX4_runIfOrdered_171 : decode cX4_runIfOrdered 171 = .ok (.iload 7, 2) := by decide +kernel
theorem dX4_runIfOrdered_173 : decode cX4_runIfOrdered 173 = .ok (.invokevirtual 96, 3) := by decide +kernel
theorem dX4_runIfOrdered_176 : decode cX4_runIfOrdered 176 = .ok (.l2i, 1) := by decide +kernel
theorem dX4_runIfOrdered_177 : decode cX4_runIfOrdered 177 = .ok (.invokevirtual 252, 3) := by decide +kernel
theorem dX4_runIfOrdered_180 : decode cX4_runIfOrdered 180 = .ok (.aload_n 0, 1) := by decide +kernel
theorem dX4_runIfOrdered_181 : decode cX4_runIfOrdered 181 = .ok (.getfield 14, 3) := by decide +kernel
theorem dX4_runIfOrdered_184 : decode cX4_runIfOrdered 184 = .ok (.iconst 2, 1) := by decide +kernel
theorem dX4_runIfOrdered_185 : decode cX4_runIfOrdered 185 = .ok (.invokevirtual 215, 3) := by decide +kernel
theorem dX4_runIfOrdered_188 : decode cX4_runIfOrdered 188 = .ok (.return_, 1) := by decide +kernel
theorem dX5_init_0 : decode cX5_init 0 = .ok (.aload_n 0, 1) := by decide +kernel
theorem dX5_init_1 : decode cX5_init 1 = .ok (.invokespecial 1, 3) := by decide +kernel
theorem dX5_init_4 : decode cX5_init 4 = .ok (.aload_n 0, 1) := by decide +kernel
theorem dX5_init_5 : decode cX5_init 5 = .ok (.sipush 160, 3) := by decide +kernel
theorem dX5_init_8 : decode cX5_init 8 = .ok (.newarray .int, 2) := by decide +kernel
theorem dX5_init_10 : decode cX5_init 10 = .ok (.putfield 7, 3) := by decide +kernel
theorem dX5_init_13 : decode cX5_init 13 = .ok (.aload_n 0, 1) := by decide +kernel
theorem dX5_init_14 : decode cX5_init 14 = .ok (.bipush 82, 2) := by decide +kernel
theorem dX5_init_16 : decode cX5_init 16 = .ok (.newarray .long, 2) := by decide +kernel
theorem dX5_init_18 : decode cX5_init 18 = .ok (.putfield 13, 3) := by decide +kernel
theorem dX5_init_21 : decode cX5_init 21 = .ok (.aload_n 0, 1) := by decide +kernel
theorem dX5_init_22 : decode cX5_init 22 = .ok (.bipush 82, 2) := by decide +kernel
theorem dX5_init_24 : decode cX5_init 24 = .ok (.newarray .int, 2) := by decide +kernel
theorem dX5_init_26 : decode cX5_init 26 = .ok (.putfield 17, 3) := by decide +kernel
theorem dX5_init_29 : decode cX5_init 29 = .ok (.aload_n 0, 1) := by decide +kernel
theorem dX5_init_30 : decode cX5_init 30 = .ok (.sipush 13120, 3) := by decide +kernel
theorem dX5_init_33 : decode cX5_init 33 = .ok (.newarray .int, 2) := by decide +kernel
theorem dX5_init_35 : decode cX5_init 35 = .ok (.putfield 20, 3) := by decide +kernel
theorem dX5_init_38 : decode cX5_init 38 = .ok (.aload_n 0, 1) := by decide +kernel
theorem dX5_init_39 : decode cX5_init 39 = .ok (.iconst 4, 1) := by decide +kernel
theorem dX5_init_40 : decode cX5_init 40 = .ok (.newarray .int, 2) := by decide +kernel
theorem dX5_init_42 : decode cX5_init 42 = .ok (.putfield 23, 3) := by decide +kernel
theorem dX5_init_45 : decode cX5_init 45 = .ok (.aload_n 0, 1) := by decide +kernel
theorem dX5_init_46 : decode cX5_init 46 = .ok (.sipush 1920, 3) := by decide +kernel
theorem dX5_init_49 : decode cX5_init 49 = .ok (.newarray .int, 2) := by decide +kernel
theorem dX5_init_51 : decode cX5_init 51 = .ok (.putfield 26, 3) := by decide +kernel
theorem dX5_init_54 : decode cX5_init 54 = .ok (.aload_n 0, 1) := by decide +kernel
theorem dX5_init_55 : decode cX5_init 55 = .ok (.bipush 12, 2) := by decide +kernel
theorem dX5_init_57 : decode cX5_init 57 = .ok (.newarray .int, 2) := by decide +kernel
theorem dX5_init_59 : decode cX5_init 59 = .ok (.putfield 29, 3) := by decide +kernel
theorem dX5_init_62 : decode cX5_init 62 = .ok (.aload_n 0, 1) := by decide +kernel
theorem dX5_init_63 : decode cX5_init 63 = .ok (.bipush 12, 2) := by decide +kernel
theorem dX5_init_65 : decode cX5_init 65 = .ok (.newarray .int, 2) := by decide +kernel
theorem dX5_init_67 : decode cX5_init 67 = .ok (.putfield 32, 3) := by decide +kernel
theorem dX5_init_70 : decode cX5_init 70 = .ok (.aload_n 0, 1) := by decide +kernel
theorem dX5_init_71 : decode cX5_init 71 = .ok (.bipush 40, 2) := by decide +kernel
theorem dX5_init_73 : decode cX5_init 73 = .ok (.newarray .long, 2) := by decide +kernel
theorem dX5_init_75 : decode cX5_init 75 = .ok (.putfield 35, 3) := by decide +kernel
theorem dX5_init_78 : decode cX5_init 78 = .ok (.aload_n 0, 1) := by decide +kernel
theorem dX5_init_79 : decode cX5_init 79 = .ok (.bipush 40, 2) := by decide +kernel
theorem dX5_init_81 : decode cX5_init 81 = .ok (.newarray .int, 2) := by decide +kernel
theorem dX5_init_83 : decode cX5_init 83 = .ok (.putfield 38, 3) := by decide +kernel
theorem dX5_init_86 : decode cX5_init 86 = .ok (.return_, 1) := by decide +kernel
theorem dX5_thrown_0 : decode cX5_thrown 0 = .ok (.aload_n 0, 1) := by decide +kernel
theorem dX5_thrown_1 : decode cX5_thrown 1 = .ok (.getfield 41, 3) := by decide +kernel
theorem dX5_thrown_4 : decode cX5_thrown 4 = .ok (.ireturn, 1) := by decide +kernel
theorem dX5_within_0 : decode cX5_within 0 = .ok (.lload_n 0, 1) := by decide +kernel
theorem dX5_within_1 : decode cX5_within 1 = .ok (.lload_n 2, 1) := by decide +kernel
theorem dX5_within_2 : decode cX5_within 2 = .ok (.lcmp, 1) := by decide +kernel
theorem dX5_within_3 : decode cX5_within 3 = .ok (.ifCond .lt 14, 3) := by decide +kernel
theorem dX5_within_6 : decode cX5_within 6 = .ok (.lload_n 0, 1) := by decide +kernel
theorem dX5_within_7 : decode cX5_within 7 = .ok (.lload 4, 2) := by decide +kernel
theorem dX5_within_9 : decode cX5_within 9 = .ok (.lcmp, 1) := by decide +kernel
theorem dX5_within_10 : decode cX5_within 10 = .ok (.ifCond .gt 7, 3) := by decide +kernel
theorem dX5_within_13 : decode cX5_within 13 = .ok (.iconst 1, 1) := by decide +kernel
theorem dX5_within_14 : decode cX5_within 14 = .ok (.goto 4, 3) := by decide +kernel
theorem dX5_within_17 : decode cX5_within 17 = .ok (.iconst 0, 1) := by decide +kernel
theorem dX5_within_18 : decode cX5_within 18 = .ok (.ireturn, 1) := by decide +kernel
theorem dX5_write_0 : decode cX5_write 0 = .ok (.aload_n 0, 1) := by decide +kernel
theorem dX5_write_1 : decode cX5_write 1 = .ok (.iconst 0, 1) := by decide +kernel
theorem dX5_write_2 : decode cX5_write 2 = .ok (.putfield 41, 3) := by decide +kernel
theorem dX5_write_5 : decode cX5_write 5 = .ok (.iconst 0, 1) := by decide +kernel
theorem dX5_write_6 : decode cX5_write 6 = .ok (.istore_n 3, 1) := by decide +kernel
theorem dX5_write_7 : decode cX5_write 7 = .ok (.iconst 0, 1) := by decide +kernel
theorem dX5_write_8 : decode cX5_write 8 = .ok (.istore 4, 2) := by decide +kernel
theorem dX5_write_10 : decode cX5_write 10 = .ok (.iload 4, 2) := by decide +kernel
theorem dX5_write_12 : decode cX5_write 12 = .ok (.bipush 8, 2) := by decide +kernel
theorem dX5_write_14 : decode cX5_write 14 = .ok (.if_icmp .ge 43, 3) := by decide +kernel
theorem dX5_write_17 : decode cX5_write 17 = .ok (.lload_n 1, 1) := by decide +kernel
theorem dX5_write_18 : decode cX5_write 18 = .ok (.bipush 8, 2) := by decide +kernel
theorem dX5_write_20 : decode cX5_write 20 = .ok (.iload 4, 2) := by decide +kernel
theorem dX5_write_22 : decode cX5_write 22 = .ok (.imul, 1) := by decide +kernel
theorem dX5_write_23 : decode cX5_write 23 = .ok (.lshr, 1) := by decide +kernel
theorem dX5_write_24 : decode cX5_write 24 = .ok (.l2i, 1) := by decide +kernel
theorem dX5_write_25 : decode cX5_write 25 = .ok (.sipush 255, 3) := by decide +kernel
theorem dX5_write_28 : decode cX5_write 28 = .ok (.iand, 1) := by decide +kernel
theorem dX5_write_29 : decode cX5_write 29 = .ok (.istore 5, 2) := by decide +kernel
theorem dX5_write_31 : decode cX5_write 31 = .ok (.iload 5, 2) := by decide +kernel
theorem dX5_write_33 : decode cX5_write 33 = .ok (.ifCond .ne 6, 3) := by decide +kernel
theorem dX5_write_36 : decode cX5_write 36 = .ok (.goto 21, 3) := by decide +kernel
theorem dX5_write_39 : decode cX5_write 39 = .ok (.iload 5, 2) := by decide +kernel
theorem dX5_write_41 : decode cX5_write 41 = .ok (.bipush 127, 2) := by decide +kernel
theorem dX5_write_43 : decode cX5_write 43 = .ok (.if_icmp .le 5, 3) := by decide +kernel
theorem dX5_write_46 : decode cX5_write 46 = .ok (.iconst (-1), 1) := by decide +kernel
theorem dX5_write_47 : decode cX5_write 47 = .ok (.ireturn, 1) := by decide +kernel
theorem dX5_write_48 : decode cX5_write 48 = .ok (.iinc 3 1, 3) := by decide +kernel
theorem dX5_write_51 : decode cX5_write 51 = .ok (.iinc 4 1, 3) := by decide +kernel
theorem dX5_write_54 : decode cX5_write 54 = .ok (.goto (-44), 3) := by decide +kernel
theorem dX5_write_57 : decode cX5_write 57 = .ok (.aload_n 0, 1) := by decide +kernel
theorem dX5_write_58 : decode cX5_write 58 = .ok (.getfield 45, 3) := by decide +kernel
theorem dX5_write_61 : decode cX5_write 61 = .ok (.iload_n 3, 1) := by decide +kernel
theorem dX5_write_62 : decode cX5_write 62 = .ok (.iadd, 1) := by decide +kernel
theorem dX5_write_63 : decode cX5_write 63 = .ok (.sipush 160, 3) := by decide +kernel
theorem dX5_write_66 : decode cX5_write 66 = .ok (.if_icmp .le 5, 3) := by decide +kernel
theorem dX5_write_69 : decode cX5_write 69 = .ok (.iconst (-1), 1) := by decide +kernel
theorem dX5_write_70 : decode cX5_write 70 = .ok (.ireturn, 1) := by decide +kernel
theorem dX5_write_71 : decode cX5_write 71 = .ok (.iconst 0, 1) := by decide +kernel
theorem dX5_write_72 : decode cX5_write 72 = .ok (.istore 4, 2) := by decide +kernel
theorem dX5_write_74 : decode cX5_write 74 = .ok (.iload 4, 2) := by decide +kernel
theorem dX5_write_76 : decode cX5_write 76 = .ok (.iload_n 3, 1) := by decide +kernel
theorem dX5_write_77 : decode cX5_write 77 = .ok (.if_icmp .ge 32, 3) := by decide +kernel
theorem dX5_write_80 : decode cX5_write 80 = .ok (.aload_n 0, 1) := by decide +kernel
theorem dX5_write_81 : decode cX5_write 81 = .ok (.getfield 7, 3) := by decide +kernel
theorem dX5_write_84 : decode cX5_write 84 = .ok (.aload_n 0, 1) := by decide +kernel
theorem dX5_write_85 : decode cX5_write 85 = .ok (.getfield 45, 3) := by decide +kernel
theorem dX5_write_88 : decode cX5_write 88 = .ok (.iload 4, 2) := by decide +kernel
theorem dX5_write_90 : decode cX5_write 90 = .ok (.iadd, 1) := by decide +kernel
theorem dX5_write_91 : decode cX5_write 91 = .ok (.lload_n 1, 1) := by decide +kernel
theorem dX5_write_92 : decode cX5_write 92 = .ok (.bipush 8, 2) := by decide +kernel
theorem dX5_write_94 : decode cX5_write 94 = .ok (.iload 4, 2) := by decide +kernel
theorem dX5_write_96 : decode cX5_write 96 = .ok (.imul, 1) := by decide +kernel
theorem dX5_write_97 : decode cX5_write 97 = .ok (.lshr, 1) := by decide +kernel
theorem dX5_write_98 : decode cX5_write 98 = .ok (.l2i, 1) := by decide +kernel
theorem dX5_write_99 : decode cX5_write 99 = .ok (.bipush 127, 2) := by decide +kernel
theorem dX5_write_101 : decode cX5_write 101 = .ok (.iand, 1) := by decide +kernel
theorem dX5_write_102 : decode cX5_write 102 = .ok (.iastore, 1) := by decide +kernel
theorem dX5_write_103 : decode cX5_write 103 = .ok (.iinc 4 1, 3) := by decide +kernel
theorem dX5_write_106 : decode cX5_write 106 = .ok (.goto (-32), 3) := by decide +kernel
theorem dX5_write_109 : decode cX5_write 109 = .ok (.aload_n 0, 1) := by decide +kernel
theorem dX5_write_110 : decode cX5_write 110 = .ok (.dup, 1) := by decide +kernel
theorem dX5_write_111 : decode cX5_write 111 = .ok (.getfield 45, 3) := by decide +kernel
theorem dX5_write_114 : decode cX5_write 114 = .ok (.iload_n 3, 1) := by decide +kernel
theorem dX5_write_115 : decode cX5_write 115 = .ok (.iadd, 1) := by decide +kernel
theorem dX5_write_116 : decode cX5_write 116 = .ok (.putfield 45, 3) := by decide +kernel
theorem dX5_write_119 : decode cX5_write 119 = .ok (.iload_n 3, 1) := by decide +kernel
theorem dX5_write_120 : decode cX5_write 120 = .ok (.ireturn, 1) := by decide +kernel
theorem dX5_erase_0 : decode cX5_erase 0 = .ok (.aload_n 0, 1) := by decide +kernel
theorem dX5_erase_1 : decode cX5_erase 1 = .ok (.iconst 0, 1) := by decide +kernel
theorem dX5_erase_2 : decode cX5_erase 2 = .ok (.putfield 41, 3) := by decide +kernel
theorem dX5_erase_5 : decode cX5_erase 5 = .ok (.aload_n 0, 1) := by decide +kernel
theorem dX5_erase_6 : decode cX5_erase 6 = .ok (.getfield 45, 3) := by decide +kernel
theorem dX5_erase_9 : decode cX5_erase 9 = .ok (.istore_n 1, 1) := by decide +kernel
theorem dX5_erase_10 : decode cX5_erase 10 = .ok (.aload_n 0, 1) := by decide +kernel
theorem dX5_erase_11 : decode cX5_erase 11 = .ok (.iconst 0, 1) := by decide +kernel
theorem dX5_erase_12 : decode cX5_erase 12 = .ok (.putfield 45, 3) := by decide +kernel
theorem dX5_erase_15 : decode cX5_erase 15 = .ok (.iload_n 1, 1) := by decide +kernel
theorem dX5_erase_16 : decode cX5_erase 16 = .ok (.ireturn, 1) := by decide +kernel
theorem dX5_copy_0 : decode cX5_copy 0 = .ok (.aload_n 0, 1) := by decide +kernel
theorem dX5_copy_1 : decode cX5_copy 1 = .ok (.getfield 13, 3) := by decide +kernel
theorem dX5_copy_4 : decode cX5_copy 4 = .ok (.iload_n 2, 1) := by decide +kernel
theorem dX5_copy_5 : decode cX5_copy 5 = .ok (.aload_n 0, 1) := by decide +kernel
theorem dX5_copy_6 : decode cX5_copy 6 = .ok (.getfield 13, 3) := by decide +kernel
theorem dX5_copy_9 : decode cX5_copy 9 = .ok (.iload_n 1, 1) := by decide +kernel
theorem dX5_copy_10 : decode cX5_copy 10 = .ok (.laload, 1) := by decide +kernel
theorem dX5_copy_11 : decode cX5_copy 11 = .ok (.lastore, 1) := by decide +kernel
theorem dX5_copy_12 : decode cX5_copy 12 = .ok (.aload_n 0, 1) := by decide +kernel
theorem dX5_copy_13 : decode cX5_copy 13 = .ok (.getfield 17, 3) := by decide +kernel
theorem dX5_copy_16 : decode cX5_copy 16 = .ok (.iload_n 2, 1) := by decide +kernel
theorem dX5_copy_17 : decode cX5_copy 17 = .ok (.aload_n 0, 1) := by decide +kernel
theorem dX5_copy_18 : decode cX5_copy 18 = .ok (.getfield 17, 3) := by decide +kernel
theorem dX5_copy_21 : decode cX5_copy 21 = .ok (.iload_n 1, 1) := by decide +kernel
theorem dX5_copy_22 : decode cX5_copy 22 = .ok (.iaload, 1) := by decide +kernel
theorem dX5_copy_23 : decode cX5_copy 23 = .ok (.iastore, 1) := by decide +kernel
theorem dX5_copy_24 : decode cX5_copy 24 = .ok (.iconst 0, 1) := by decide +kernel
theorem dX5_copy_25 : decode cX5_copy 25 = .ok (.istore_n 3, 1) := by decide +kernel
theorem dX5_copy_26 : decode cX5_copy 26 = .ok (.iload_n 3, 1) := by decide +kernel
theorem dX5_copy_27 : decode cX5_copy 27 = .ok (.i2l, 1) := by decide +kernel
theorem dX5_copy_28 : decode cX5_copy 28 = .ok (.aload_n 0, 1) := by decide +kernel
theorem dX5_copy_29 : decode cX5_copy 29 = .ok (.getfield 13, 3) := by decide +kernel
theorem dX5_copy_32 : decode cX5_copy 32 = .ok (.iload_n 1, 1) := by decide +kernel
theorem dX5_copy_33 : decode cX5_copy 33 = .ok (.laload, 1) := by decide +kernel
theorem dX5_copy_34 : decode cX5_copy 34 = .ok (.lcmp, 1) := by decide +kernel
theorem dX5_copy_35 : decode cX5_copy 35 = .ok (.ifCond .ge 42, 3) := by decide +kernel
theorem dX5_copy_38 : decode cX5_copy 38 = .ok (.aload_n 0, 1) := by decide +kernel
theorem dX5_copy_39 : decode cX5_copy 39 = .ok (.getfield 17, 3) := by decide +kernel
theorem dX5_copy_42 : decode cX5_copy 42 = .ok (.iload_n 1, 1) := by decide +kernel
theorem dX5_copy_43 : decode cX5_copy 43 = .ok (.iaload, 1) := by decide +kernel
theorem dX5_copy_44 : decode cX5_copy 44 = .ok (.ifCond .ge 33, 3) := by decide +kernel
theorem dX5_copy_47 : decode cX5_copy 47 = .ok (.aload_n 0, 1) := by decide +kernel
theorem dX5_copy_48 : decode cX5_copy 48 = .ok (.getfield 20, 3) := by decide +kernel
theorem dX5_copy_51 : decode cX5_copy 51 = .ok (.sipush 160, 3) := by decide +kernel
theorem dX5_copy_54 : decode cX5_copy 54 = .ok (.iload_n 2, 1) := by decide +kernel
theorem dX5_copy_55 : decode cX5_copy 55 = .ok (.imul, 1) := by decide +kernel
theorem dX5_copy_56 : decode cX5_copy 56 = .ok (.iload_n 3, 1) := by decide +kernel
theorem dX5_copy_57 : decode cX5_copy 57 = .ok (.iadd, 1) := by decide +kernel
theorem dX5_copy_58 : decode cX5_copy 58 = .ok (.aload_n 0, 1) := by decide +kernel
theorem dX5_copy_59 : decode cX5_copy 59 = .ok (.getfield 20, 3) := by decide +kernel
theorem dX5_copy_62 : decode cX5_copy 62 = .ok (.sipush 160, 3) := by decide +kernel
theorem dX5_copy_65 : decode cX5_copy 65 = .ok (.iload_n 1, 1) := by decide +kernel
theorem dX5_copy_66 : decode cX5_copy 66 = .ok (.imul, 1) := by decide +kernel
theorem dX5_copy_67 : decode cX5_copy 67 = .ok (.iload_n 3, 1) := by decide +kernel
theorem dX5_copy_68 : decode cX5_copy 68 = .ok (.iadd, 1) := by decide +kernel
theorem dX5_copy_69 : decode cX5_copy 69 = .ok (.iaload, 1) := by decide +kernel
theorem dX5_copy_70 : decode cX5_copy 70 = .ok (.iastore, 1) := by decide +kernel
theorem dX5_copy_71 : decode cX5_copy 71 = .ok (.iinc 3 1, 3) := by decide +kernel
theorem dX5_copy_74 : decode cX5_copy 74 = .ok (.goto (-48), 3) := by decide +kernel
theorem dX5_copy_77 : decode cX5_copy 77 = .ok (.return_, 1) := by decide +kernel
theorem dX5_fail_0 : decode cX5_fail 0 = .ok (.aload_n 0, 1) := by decide +kernel
theorem dX5_fail_1 : decode cX5_fail 1 = .ok (.iload_n 1, 1) := by decide +kernel
theorem dX5_fail_2 : decode cX5_fail 2 = .ok (.putfield 48, 3) := by decide +kernel
theorem dX5_fail_5 : decode cX5_fail 5 = .ok (.iconst 0, 1) := by decide +kernel
theorem dX5_fail_6 : decode cX5_fail 6 = .ok (.ireturn, 1) := by decide +kernel
set_option maxRecDepth 20000 in
theorem ggX5_have_X5_fail : GoodIn wsX5_have wsX5_fail := goodIn_r _ [6, 7, 8, 9, 10, 11, 12, 13, 14, 15, 16, 17, 18, 19, 20, 21, 22, 23, 24, 25, 26, 27, 28] (by decide +kernel) (by decide +kernel)
set_option maxRecDepth 20000 in
theorem gX5_have_X5_fail : GoodIn wsX5_have (wsV RX5 54 RX5 yX5_fail wsX5_fail) := goodIn_app (goodIn_of _ (by decide +kernel)) ggX5_have_X5_fail
theorem dX5_have_0 : decode cX5_have 0 = .ok (.aload_n 0, 1) := by decide +kernel
theorem dX5_have_1 : decode cX5_have 1 = .ok (.getfield 51, 3) := by decide +kernel
theorem dX5_have_4 : decode cX5_have 4 = .ok (.iload_n 1, 1) := by decide +kernel
theorem dX5_have_5 : decode cX5_have 5 = .ok (.if_icmp .ge 11, 3) := by decide +kernel
theorem dX5_have_8 : decode cX5_have 8 = .ok (.aload_n 0, 1) := by decide +kernel
theorem dX5_have_9 : decode cX5_have 9 = .ok (.iconst 2, 1) := by decide +kernel
theorem dX5_have_10 : decode cX5_have 10 = .ok (.invokevirtual 54, 3) := by decide +kernel
theorem dX5_have_13 : decode cX5_have 13 = .ok (.ifCond .eq 7, 3) := by decide +kernel
theorem dX5_have_16 : decode cX5_have 16 = .ok (.iconst 1, 1) := by decide +kernel
theorem dX5_have_17 : decode cX5_have 17 = .ok (.goto 4, 3) := by decide +kernel
theorem dX5_have_20 : decode cX5_have 20 = .ok (.iconst 0, 1) := by decide +kernel
theorem dX5_have_21 : decode cX5_have 21 = .ok (.ireturn, 1) := by decide +kernel
set_option maxRecDepth 20000 in
theorem ggX5_numbers_X5_have : GoodIn wsX5_numbers wsX5_have := goodIn_r _ [7, 2, 8, 9, 10, 6, 11, 12, 13, 14, 15, 16, 17, 18, 19, 20, 21, 22, 23, 24, 25, 26, 27, 28, 29, 30, 31, 32, 33] (by decide +kernel) (by decide +kernel)
set_option maxRecDepth 20000 in
theorem gX5_numbers_X5_have : GoodIn wsX5_numbers (wsV RX5 58 RX5 yX5_have wsX5_have) := goodIn_app (goodIn_of _ (by decide +kernel)) ggX5_numbers_X5_have
set_option maxRecDepth 20000 in
theorem ggX5_numbers_X5_fail : GoodIn wsX5_numbers wsX5_fail := goodIn_r _ [11, 12, 13, 14, 15, 16, 17, 18, 19, 20, 21, 22, 23, 24, 25, 26, 27, 28, 29, 30, 31, 32, 33] (by decide +kernel) (by decide +kernel)
set_option maxRecDepth 20000 in
theorem gX5_numbers_X5_fail : GoodIn wsX5_numbers (wsV RX5 54 RX5 yX5_fail wsX5_fail) := goodIn_app (goodIn_of _ (by decide +kernel)) ggX5_numbers_X5_fail
theorem dX5_numbers_0 : decode cX5_numbers 0 = .ok (.aload_n 0, 1) := by decide +kernel
theorem dX5_numbers_1 : decode cX5_numbers 1 = .ok (.iload_n 1, 1) := by decide +kernel
theorem dX5_numbers_2 : decode cX5_numbers 2 = .ok (.invokevirtual 58, 3) := by decide +kernel
theorem dX5_numbers_5 : decode cX5_numbers 5 = .ok (.ifCond .ne 5, 3) := by decide +kernel
theorem dX5_numbers_8 : decode cX5_numbers 8 = .ok (.iconst 0, 1) := by decide +kernel
theorem dX5_numbers_9 : decode cX5_numbers 9 = .ok (.ireturn, 1) := by decide +kernel
theorem dX5_numbers_10 : decode cX5_numbers 10 = .ok (.iconst 1, 1) := by decide +kernel
theorem dX5_numbers_11 : decode cX5_numbers 11 = .ok (.istore_n 2, 1) := by decide +kernel
theorem dX5_numbers_12 : decode cX5_numbers 12 = .ok (.iload_n 2, 1) := by decide +kernel
theorem dX5_numbers_13 : decode cX5_numbers 13 = .ok (.iload_n 1, 1) := by decide +kernel
theorem dX5_numbers_14 : decode cX5_numbers 14 = .ok (.if_icmp .gt 29, 3) := by decide +kernel
theorem dX5_numbers_17 : decode cX5_numbers 17 = .ok (.aload_n 0, 1) := by decide +kernel
theorem dX5_numbers_18 : decode cX5_numbers 18 = .ok (.getfield 17, 3) := by decide +kernel
theorem dX5_numbers_21 : decode cX5_numbers 21 = .ok (.aload_n 0, 1) := by decide +kernel
theorem dX5_numbers_22 : decode cX5_numbers 22 = .ok (.getfield 51, 3) := by decide +kernel
theorem dX5_numbers_25 : decode cX5_numbers 25 = .ok (.iload_n 2, 1) := by decide +kernel
theorem dX5_numbers_26 : decode cX5_numbers 26 = .ok (.isub, 1) := by decide +kernel
theorem dX5_numbers_27 : decode cX5_numbers 27 = .ok (.iaload, 1) := by decide +kernel
theorem dX5_numbers_28 : decode cX5_numbers 28 = .ok (.ifCond .ge 9, 3) := by decide +kernel
theorem dX5_numbers_31 : decode cX5_numbers 31 = .ok (.aload_n 0, 1) := by decide +kernel
theorem dX5_numbers_32 : decode cX5_numbers 32 = .ok (.iconst 3, 1) := by decide +kernel
theorem dX5_numbers_33 : decode cX5_numbers 33 = .ok (.invokevirtual 54, 3) := by decide +kernel
theorem dX5_numbers_36 : decode cX5_numbers 36 = .ok (.ireturn, 1) := by decide +kernel
theorem dX5_numbers_37 : decode cX5_numbers 37 = .ok (.iinc 2 1, 3) := by decide +kernel
theorem dX5_numbers_40 : decode cX5_numbers 40 = .ok (.goto (-28), 3) := by decide +kernel
theorem dX5_numbers_43 : decode cX5_numbers 43 = .ok (.iconst 1, 1) := by decide +kernel
theorem dX5_numbers_44 : decode cX5_numbers 44 = .ok (.ireturn, 1) := by decide +kernel
set_option maxRecDepth 20000 in
theorem ggX5_room_X5_fail : GoodIn wsX5_room wsX5_fail := goodIn_r _ [6, 7, 8, 9, 10, 11, 12, 13, 14, 15, 16, 17, 18, 19, 20, 21, 22, 23, 24, 25, 26, 27, 28] (by decide +kernel) (by decide +kernel)
set_option maxRecDepth 20000 in
theorem gX5_room_X5_fail : GoodIn wsX5_room (wsV RX5 54 RX5 yX5_fail wsX5_fail) := goodIn_app (goodIn_of _ (by decide +kernel)) ggX5_room_X5_fail
theorem dX5_room_0 : decode cX5_room 0 = .ok (.aload_n 0, 1) := by decide +kernel
theorem dX5_room_1 : decode cX5_room 1 = .ok (.getfield 51, 3) := by decide +kernel
theorem dX5_room_4 : decode cX5_room 4 = .ok (.bipush 40, 2) := by decide +kernel
theorem dX5_room_6 : decode cX5_room 6 = .ok (.if_icmp .lt 11, 3) := by decide +kernel
theorem dX5_room_9 : decode cX5_room 9 = .ok (.aload_n 0, 1) := by decide +kernel
theorem dX5_room_10 : decode cX5_room 10 = .ok (.iconst 5, 1) := by decide +kernel
theorem dX5_room_11 : decode cX5_room 11 = .ok (.invokevirtual 54, 3) := by decide +kernel
theorem dX5_room_14 : decode cX5_room 14 = .ok (.ifCond .eq 7, 3) := by decide +kernel
theorem dX5_room_17 : decode cX5_room 17 = .ok (.iconst 1, 1) := by decide +kernel
theorem dX5_room_18 : decode cX5_room 18 = .ok (.goto 4, 3) := by decide +kernel
theorem dX5_room_21 : decode cX5_room 21 = .ok (.iconst 0, 1) := by decide +kernel
theorem dX5_room_22 : decode cX5_room 22 = .ok (.ireturn, 1) := by decide +kernel
theorem dX5_put_0 : decode cX5_put 0 = .ok (.aload_n 0, 1) := by decide +kernel
theorem dX5_put_1 : decode cX5_put 1 = .ok (.dup, 1) := by decide +kernel
theorem dX5_put_2 : decode cX5_put 2 = .ok (.getfield 51, 3) := by decide +kernel
theorem dX5_put_5 : decode cX5_put 5 = .ok (.iload_n 1, 1) := by decide +kernel
theorem dX5_put_6 : decode cX5_put 6 = .ok (.isub, 1) := by decide +kernel
theorem dX5_put_7 : decode cX5_put 7 = .ok (.putfield 51, 3) := by decide +kernel
theorem dX5_put_10 : decode cX5_put 10 = .ok (.aload_n 0, 1) := by decide +kernel
theorem dX5_put_11 : decode cX5_put 11 = .ok (.getfield 13, 3) := by decide +kernel
theorem dX5_put_14 : decode cX5_put 14 = .ok (.aload_n 0, 1) := by decide +kernel
theorem dX5_put_15 : decode cX5_put 15 = .ok (.getfield 51, 3) := by decide +kernel
theorem dX5_put_18 : decode cX5_put 18 = .ok (.lload_n 2, 1) := by decide +kernel
theorem dX5_put_19 : decode cX5_put 19 = .ok (.lastore, 1) := by decide +kernel
theorem dX5_put_20 : decode cX5_put 20 = .ok (.aload_n 0, 1) := by decide +kernel
theorem dX5_put_21 : decode cX5_put 21 = .ok (.getfield 17, 3) := by decide +kernel
theorem dX5_put_24 : decode cX5_put 24 = .ok (.aload_n 0, 1) := by decide +kernel
theorem dX5_put_25 : decode cX5_put 25 = .ok (.getfield 51, 3) := by decide +kernel
theorem dX5_put_28 : decode cX5_put 28 = .ok (.iload 4, 2) := by decide +kernel
theorem dX5_put_30 : decode cX5_put 30 = .ok (.iastore, 1) := by decide +kernel
theorem dX5_put_31 : decode cX5_put 31 = .ok (.aload_n 0, 1) := by decide +kernel
theorem dX5_put_32 : decode cX5_put 32 = .ok (.dup, 1) := by decide +kernel
theorem dX5_put_33 : decode cX5_put 33 = .ok (.getfield 51, 3) := by decide +kernel
theorem dX5_put_36 : decode cX5_put 36 = .ok (.iconst 1, 1) := by decide +kernel
theorem dX5_put_37 : decode cX5_put 37 = .ok (.iadd, 1) := by decide +kernel
theorem dX5_put_38 : decode cX5_put 38 = .ok (.putfield 51, 3) := by decide +kernel
theorem dX5_put_41 : decode cX5_put 41 = .ok (.return_, 1) := by decide +kernel
theorem dX5_register_0 : decode cX5_register 0 = .ok (.iload_n 0, 1) := by decide +kernel
theorem dX5_register_1 : decode cX5_register 1 = .ok (.bipush 97, 2) := by decide +kernel
theorem dX5_register_3 : decode cX5_register 3 = .ok (.isub, 1) := by decide +kernel
theorem dX5_register_4 : decode cX5_register 4 = .ok (.ireturn, 1) := by decide +kernel
theorem dX5_topOf_0 : decode cX5_topOf 0 = .ok (.bipush 40, 2) := by decide +kernel
theorem dX5_topOf_2 : decode cX5_topOf 2 = .ok (.bipush 10, 2) := by decide +kernel
theorem dX5_topOf_4 : decode cX5_topOf 4 = .ok (.iload_n 1, 1) := by decide +kernel
theorem dX5_topOf_5 : decode cX5_topOf 5 = .ok (.imul, 1) := by decide +kernel
theorem dX5_topOf_6 : decode cX5_topOf 6 = .ok (.iadd, 1) := by decide +kernel
theorem dX5_topOf_7 : decode cX5_topOf 7 = .ok (.aload_n 0, 1) := by decide +kernel
theorem dX5_topOf_8 : decode cX5_topOf 8 = .ok (.getfield 23, 3) := by decide +kernel
theorem dX5_topOf_11 : decode cX5_topOf 11 = .ok (.iload_n 1, 1) := by decide +kernel
theorem dX5_topOf_12 : decode cX5_topOf 12 = .ok (.iaload, 1) := by decide +kernel
theorem dX5_topOf_13 : decode cX5_topOf 13 = .ok (.iadd, 1) := by decide +kernel
theorem dX5_topOf_14 : decode cX5_topOf 14 = .ok (.iconst 1, 1) := by decide +kernel
theorem dX5_topOf_15 : decode cX5_topOf 15 = .ok (.isub, 1) := by decide +kernel
theorem dX5_topOf_16 : decode cX5_topOf 16 = .ok (.ireturn, 1) := by decide +kernel
theorem dX5_isBig_0 : decode cX5_isBig 0 = .ok (.lload_n 0, 1) := by decide +kernel
theorem dX5_isBig_1 : decode cX5_isBig 1 = .ok (.ldc2_w 61, 3) := by decide +kernel
theorem dX5_isBig_4 : decode cX5_isBig 4 = .ok (.lcmp, 1) := by decide +kernel
theorem dX5_isBig_5 : decode cX5_isBig 5 = .ok (.ifCond .gt 11, 3) := by decide +kernel
theorem dX5_isBig_8 : decode cX5_isBig 8 = .ok (.lload_n 0, 1) := by decide +kernel
theorem dX5_isBig_9 : decode cX5_isBig 9 = .ok (.ldc2_w 63, 3) := by decide +kernel
theorem dX5_isBig_12 : decode cX5_isBig 12 = .ok (.lcmp, 1) := by decide +kernel
theorem dX5_isBig_13 : decode cX5_isBig 13 = .ok (.ifCond .ge 7, 3) := by decide +kernel
theorem dX5_isBig_16 : decode cX5_isBig 16 = .ok (.iconst 1, 1) := by decide +kernel
theorem dX5_isBig_17 : decode cX5_isBig 17 = .ok (.goto 4, 3) := by decide +kernel
theorem dX5_isBig_20 : decode cX5_isBig 20 = .ok (.iconst 0, 1) := by decide +kernel
theorem dX5_isBig_21 : decode cX5_isBig 21 = .ok (.ireturn, 1) := by decide +kernel
theorem dX5_raised_0 : decode cX5_raised 0 = .ok (.lload_n 1, 1) := by decide +kernel
theorem dX5_raised_1 : decode cX5_raised 1 = .ok (.lstore 4, 2) := by decide +kernel
theorem dX5_raised_3 : decode cX5_raised 3 = .ok (.iconst 0, 1) := by decide +kernel
theorem dX5_raised_4 : decode cX5_raised 4 = .ok (.istore 6, 2) := by decide +kernel
theorem dX5_raised_6 : decode cX5_raised 6 = .ok (.iload 6, 2) := by decide +kernel
theorem dX5_raised_8 : decode cX5_raised 8 = .ok (.iload_n 3, 1) := by decide +kernel
theorem dX5_raised_9 : decode cX5_raised 9 = .ok (.if_icmp .ge 50, 3) := by decide +kernel
theorem dX5_raised_12 : decode cX5_raised 12 = .ok (.aload_n 0, 1) := by decide +kernel
theorem dX5_raised_13 : decode cX5_raised 13 = .ok (.getfield 48, 3) := by decide +kernel
theorem dX5_raised_16 : decode cX5_raised 16 = .ok (.ifCond .ne 43, 3) := by decide +kernel
theorem dX5_raised_19 : decode cX5_raised 19 = .ok (.lload 4, 2) := by decide +kernel
theorem dX5_raised_21 : decode cX5_raised 21 = .ok (.ldc2_w 65, 3) := by decide +kernel
theorem dX5_raised_24 : decode cX5_raised 24 = .ok (.lcmp, 1) := by decide +kernel
theorem dX5_raised_25 : decode cX5_raised 25 = .ok (.ifCond .gt 12, 3) := by decide +kernel
theorem dX5_raised_28 : decode cX5_raised 28 = .ok (.lload 4, 2) := by decide +kernel
theorem dX5_raised_30 : decode cX5_raised 30 = .ok (.ldc2_w 67, 3) := by decide +kernel
theorem dX5_raised_33 : decode cX5_raised 33 = .ok (.lcmp, 1) := by decide +kernel
theorem dX5_raised_34 : decode cX5_raised 34 = .ok (.ifCond .ge 11, 3) := by decide +kernel
theorem dX5_raised_37 : decode cX5_raised 37 = .ok (.aload_n 0, 1) := by decide +kernel
theorem dX5_raised_38 : decode cX5_raised 38 = .ok (.iconst 5, 1) := by decide +kernel
theorem dX5_raised_39 : decode cX5_raised 39 = .ok (.putfield 48, 3) := by decide +kernel
theorem dX5_raised_42 : decode cX5_raised 42 = .ok (.goto 11, 3) := by decide +kernel
theorem dX5_raised_45 : decode cX5_raised 45 = .ok (.lload 4, 2) := by decide +kernel
theorem dX5_raised_47 : decode cX5_raised 47 = .ok (.ldc2_w 69, 3) := by decide +kernel
theorem dX5_raised_50 : decode cX5_raised 50 = .ok (.lmul, 1) := by decide +kernel
theorem dX5_raised_51 : decode cX5_raised 51 = .ok (.lstore 4, 2) := by decide +kernel
theorem dX5_raised_53 : decode cX5_raised 53 = .ok (.iinc 6 1, 3) := by decide +kernel
theorem dX5_raised_56 : decode cX5_raised 56 = .ok (.goto (-50), 3) := by decide +kernel
theorem dX5_raised_59 : decode cX5_raised 59 = .ok (.lload 4, 2) := by decide +kernel
theorem dX5_raised_61 : decode cX5_raised 61 = .ok (.lreturn, 1) := by decide +kernel
theorem dX5_cut_0 : decode cX5_cut 0 = .ok (.lload_n 0, 1) := by decide +kernel
theorem dX5_cut_1 : decode cX5_cut 1 = .ok (.lstore_n 3, 1) := by decide +kernel
theorem dX5_cut_2 : decode cX5_cut 2 = .ok (.iconst 0, 1) := by decide +kernel
theorem dX5_cut_3 : decode cX5_cut 3 = .ok (.istore 5, 2) := by decide +kernel
theorem dX5_cut_5 : decode cX5_cut 5 = .ok (.iload 5, 2) := by decide +kernel
theorem dX5_cut_7 : decode cX5_cut 7 = .ok (.iload_n 2, 1) := by decide +kernel
theorem dX5_cut_8 : decode cX5_cut 8 = .ok (.if_icmp .ge 15, 3) := by decide +kernel
theorem dX5_cut_11 : decode cX5_cut 11 = .ok (.lload_n 3, 1) := by decide +kernel
theorem dX5_cut_12 : decode cX5_cut 12 = .ok (.ldc2_w 69, 3) := by decide +kernel
theorem dX5_cut_15 : decode cX5_cut 15 = .ok (.ldiv, 1) := by decide +kernel
theorem dX5_cut_16 : decode cX5_cut 16 = .ok (.lstore_n 3, 1) := by decide +kernel
