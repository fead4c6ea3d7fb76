theorem dX5_calculates_175 : decode cX5_calculates 175 = .ok (.lstore_n 3, 1) := by decide +kernel
theorem dX5_calculates_176 : decode cX5_calculates 176 = .ok (.aload_n 0, 1) := by decide +kernel
theorem dX5_calculates_177 : decode cX5_calculates 177 = .ok (.getfield 17, 3) := by decide +kernel
theorem dX5_calculates_180 : decode cX5_calculates 180 = .ok (.aload_n 0, 1) := by decide +kernel
theorem dX5_calculates_181 : decode cX5_calculates 181 = .ok (.getfield 51, 3) := by decide +kernel
theorem dX5_calculates_184 : decode cX5_calculates 184 = .ok (.iconst 1, 1) := by decide +kernel
theorem dX5_calculates_185 : decode cX5_calculates 185 = .ok (.isub, 1) := by decide +kernel
theorem dX5_calculates_186 : decode cX5_calculates 186 = .ok (.iaload, 1) := by decide +kernel
theorem dX5_calculates_187 : decode cX5_calculates 187 = .ok (.istore 5, 2) := by decide +kernel
theorem dX5_calculates_189 : decode cX5_calculates 189 = .ok (.lload_n 3, 1) := by decide +kernel
theorem dX5_calculates_190 : decode cX5_calculates 190 = .ok (.iload 5, 2) := by decide +kernel
theorem dX5_calculates_192 : decode cX5_calculates 192 = .ok (.invokestatic 100, 3) := by decide +kernel
theorem dX5_calculates_195 : decode cX5_calculates 195 = .ok (.lstore 6, 2) := by decide +kernel
theorem dX5_calculates_197 : decode cX5_calculates 197 = .ok (.aload_n 0, 1) := by decide +kernel
theorem dX5_calculates_198 : decode cX5_calculates 198 = .ok (.lload 6, 2) := by decide +kernel
theorem dX5_calculates_200 : decode cX5_calculates 200 = .ok (.iload 5, 2) := by decide +kernel
theorem dX5_calculates_202 : decode cX5_calculates 202 = .ok (.invokevirtual 81, 3) := by decide +kernel
theorem dX5_calculates_205 : decode cX5_calculates 205 = .ok (.lload_n 3, 1) := by decide +kernel
theorem dX5_calculates_206 : decode cX5_calculates 206 = .ok (.lcmp, 1) := by decide +kernel
theorem dX5_calculates_207 : decode cX5_calculates 207 = .ok (.ifCond .ne 15, 3) := by decide +kernel
theorem dX5_calculates_210 : decode cX5_calculates 210 = .ok (.lload 6, 2) := by decide +kernel
theorem dX5_calculates_212 : decode cX5_calculates 212 = .ok (.lconst 0, 1) := by decide +kernel
theorem dX5_calculates_213 : decode cX5_calculates 213 = .ok (.ldc2_w 151, 3) := by decide +kernel
theorem dX5_calculates_216 : decode cX5_calculates 216 = .ok (.invokestatic 127, 3) := by decide +kernel
theorem dX5_calculates_219 : decode cX5_calculates 219 = .ok (.ifCond .ne 9, 3) := by decide +kernel
theorem dX5_calculates_222 : decode cX5_calculates 222 = .ok (.aload_n 0, 1) := by decide +kernel
theorem dX5_calculates_223 : decode cX5_calculates 223 = .ok (.iconst 4, 1) := by decide +kernel
theorem dX5_calculates_224 : decode cX5_calculates 224 = .ok (.invokevirtual 54, 3) := by decide +kernel
theorem dX5_calculates_227 : decode cX5_calculates 227 = .ok (.ireturn, 1) := by decide +kernel
theorem dX5_calculates_228 : decode cX5_calculates 228 = .ok (.aload_n 0, 1) := by decide +kernel
theorem dX5_calculates_229 : decode cX5_calculates 229 = .ok (.lload 6, 2) := by decide +kernel
theorem dX5_calculates_231 : decode cX5_calculates 231 = .ok (.l2i, 1) := by decide +kernel
theorem dX5_calculates_232 : decode cX5_calculates 232 = .ok (.putfield 93, 3) := by decide +kernel
theorem dX5_calculates_235 : decode cX5_calculates 235 = .ok (.aload_n 0, 1) := by decide +kernel
theorem dX5_calculates_236 : decode cX5_calculates 236 = .ok (.dup, 1) := by decide +kernel
theorem dX5_calculates_237 : decode cX5_calculates 237 = .ok (.getfield 51, 3) := by decide +kernel
theorem dX5_calculates_240 : decode cX5_calculates 240 = .ok (.iconst 1, 1) := by decide +kernel
theorem dX5_calculates_241 : decode cX5_calculates 241 = .ok (.isub, 1) := by decide +kernel
theorem dX5_calculates_242 : decode cX5_calculates 242 = .ok (.putfield 51, 3) := by decide +kernel
theorem dX5_calculates_245 : decode cX5_calculates 245 = .ok (.goto 26, 3) := by decide +kernel
theorem dX5_calculates_248 : decode cX5_calculates 248 = .ok (.aload_n 0, 1) := by decide +kernel
theorem dX5_calculates_249 : decode cX5_calculates 249 = .ok (.iload_n 1, 1) := by decide +kernel
theorem dX5_calculates_250 : decode cX5_calculates 250 = .ok (.bipush 118, 2) := by decide +kernel
theorem dX5_calculates_252 : decode cX5_calculates 252 = .ok (.if_icmp .ne 7, 3) := by decide +kernel
theorem dX5_calculates_255 : decode cX5_calculates 255 = .ok (.iconst 1, 1) := by decide +kernel
theorem dX5_calculates_256 : decode cX5_calculates 256 = .ok (.goto 4, 3) := by decide +kernel
theorem dX5_calculates_259 : decode cX5_calculates 259 = .ok (.iconst 2, 1) := by decide +kernel
theorem dX5_calculates_260 : decode cX5_calculates 260 = .ok (.aload_n 0, 1) := by decide +kernel
theorem dX5_calculates_261 : decode cX5_calculates 261 = .ok (.getfield 85, 3) := by decide +kernel
theorem dX5_calculates_264 : decode cX5_calculates 264 = .ok (.aload_n 0, 1) := by decide +kernel
theorem dX5_calculates_265 : decode cX5_calculates 265 = .ok (.getfield 78, 3) := by decide +kernel
theorem dX5_calculates_268 : decode cX5_calculates 268 = .ok (.invokevirtual 134, 3) := by decide +kernel
theorem dX5_calculates_271 : decode cX5_calculates 271 = .ok (.iconst 1, 1) := by decide +kernel
theorem dX5_calculates_272 : decode cX5_calculates 272 = .ok (.ireturn, 1) := by decide +kernel
set_option maxRecDepth 20000 in
theorem ggX5_moves_X5_room : GoodIn wsX5_moves wsX5_room := goodIn_r _ [12, 1, 13, 14, 15, 11, 16, 17, 31, 32, 33, 34, 35, 36, 37, 38, 39, 40, 41, 42, 43, 44, 45, 46, 47, 48, 49, 50, 51] (by decide +kernel) (by decide +kernel)
set_option maxRecDepth 20000 in
theorem gX5_moves_X5_room : GoodIn wsX5_moves (wsV RX5 131 RX5 yX5_room wsX5_room) := goodIn_app (goodIn_of _ (by decide +kernel)) ggX5_moves_X5_room
set_option maxRecDepth 20000 in
theorem ggX5_moves_X5_put : GoodIn wsX5_moves wsX5_put := goodIn_r _ [21, 1, 5, 7, 31, 32, 33, 34, 35, 36, 37, 38, 39, 40, 41, 42, 43, 44, 45, 46, 47, 48, 49, 50, 51] (by decide +kernel) (by decide +kernel)
set_option maxRecDepth 20000 in
theorem gX5_moves_X5_put : GoodIn wsX5_moves (wsV RX5 134 RX5 yX5_put wsX5_put) := goodIn_app (goodIn_of _ (by decide +kernel)) ggX5_moves_X5_put
set_option maxRecDepth 20000 in
theorem ggX5_moves_X5_have : GoodIn wsX5_moves wsX5_have := goodIn_r _ [25, 1, 13, 14, 15, 11, 16, 17, 31, 32, 33, 34, 35, 36, 37, 38, 39, 40, 41, 42, 43, 44, 45, 46, 47, 48, 49, 50, 51] (by decide +kernel) (by decide +kernel)
set_option maxRecDepth 20000 in
theorem gX5_moves_X5_have : GoodIn wsX5_moves (wsV RX5 58 RX5 yX5_have wsX5_have) := goodIn_app (goodIn_of _ (by decide +kernel)) ggX5_moves_X5_have
set_option maxRecDepth 20000 in
theorem ggX5_moves_X5_copy : GoodIn wsX5_moves wsX5_copy := goodIn_r _ [29, 5, 7, 30, 31, 32, 33, 34, 35, 36, 37, 38, 39, 40, 41, 42, 43, 44, 45, 46, 47, 48, 49, 50, 51] (by decide +kernel) (by decide +kernel)
set_option maxRecDepth 20000 in
theorem gX5_moves_X5_copy : GoodIn wsX5_moves (wsV RX5 153 RX5 yX5_copy wsX5_copy) := goodIn_app (goodIn_of _ (by decide +kernel)) ggX5_moves_X5_copy
theorem dX5_moves_0 : decode cX5_moves 0 = .ok (.iload_n 1, 1) := by decide +kernel
theorem dX5_moves_1 : decode cX5_moves 1 = .ok (.bipush 99, 2) := by decide +kernel
theorem dX5_moves_3 : decode cX5_moves 3 = .ok (.if_icmp .ne 10, 3) := by decide +kernel
theorem dX5_moves_6 : decode cX5_moves 6 = .ok (.aload_n 0, 1) := by decide +kernel
theorem dX5_moves_7 : decode cX5_moves 7 = .ok (.iconst 0, 1) := by decide +kernel
theorem dX5_moves_8 : decode cX5_moves 8 = .ok (.putfield 51, 3) := by decide +kernel
theorem dX5_moves_11 : decode cX5_moves 11 = .ok (.iconst 1, 1) := by decide +kernel
theorem dX5_moves_12 : decode cX5_moves 12 = .ok (.ireturn, 1) := by decide +kernel
theorem dX5_moves_13 : decode cX5_moves 13 = .ok (.iload_n 1, 1) := by decide +kernel
theorem dX5_moves_14 : decode cX5_moves 14 = .ok (.bipush 122, 2) := by decide +kernel
theorem dX5_moves_16 : decode cX5_moves 16 = .ok (.if_icmp .eq 9, 3) := by decide +kernel
theorem dX5_moves_19 : decode cX5_moves 19 = .ok (.iload_n 1, 1) := by decide +kernel
theorem dX5_moves_20 : decode cX5_moves 20 = .ok (.bipush 75, 2) := by decide +kernel
theorem dX5_moves_22 : decode cX5_moves 22 = .ok (.if_icmp .ne 39, 3) := by decide +kernel
theorem dX5_moves_25 : decode cX5_moves 25 = .ok (.aload_n 0, 1) := by decide +kernel
theorem dX5_moves_26 : decode cX5_moves 26 = .ok (.invokevirtual 131, 3) := by decide +kernel
theorem dX5_moves_29 : decode cX5_moves 29 = .ok (.ifCond .ne 5, 3) := by decide +kernel
theorem dX5_moves_32 : decode cX5_moves 32 = .ok (.iconst 0, 1) := by decide +kernel
theorem dX5_moves_33 : decode cX5_moves 33 = .ok (.ireturn, 1) := by decide +kernel
theorem dX5_moves_34 : decode cX5_moves 34 = .ok (.aload_n 0, 1) := by decide +kernel
theorem dX5_moves_35 : decode cX5_moves 35 = .ok (.iconst 0, 1) := by decide +kernel
theorem dX5_moves_36 : decode cX5_moves 36 = .ok (.iload_n 1, 1) := by decide +kernel
theorem dX5_moves_37 : decode cX5_moves 37 = .ok (.bipush 122, 2) := by decide +kernel
theorem dX5_moves_39 : decode cX5_moves 39 = .ok (.if_icmp .ne 11, 3) := by decide +kernel
theorem dX5_moves_42 : decode cX5_moves 42 = .ok (.aload_n 0, 1) := by decide +kernel
theorem dX5_moves_43 : decode cX5_moves 43 = .ok (.getfield 51, 3) := by decide +kernel
theorem dX5_moves_46 : decode cX5_moves 46 = .ok (.i2l, 1) := by decide +kernel
theorem dX5_moves_47 : decode cX5_moves 47 = .ok (.goto 8, 3) := by decide +kernel
theorem dX5_moves_50 : decode cX5_moves 50 = .ok (.aload_n 0, 1) := by decide +kernel
theorem dX5_moves_51 : decode cX5_moves 51 = .ok (.getfield 93, 3) := by decide +kernel
theorem dX5_moves_54 : decode cX5_moves 54 = .ok (.i2l, 1) := by decide +kernel
theorem dX5_moves_55 : decode cX5_moves 55 = .ok (.iconst 0, 1) := by decide +kernel
theorem dX5_moves_56 : decode cX5_moves 56 = .ok (.invokevirtual 134, 3) := by decide +kernel
theorem dX5_moves_59 : decode cX5_moves 59 = .ok (.iconst 1, 1) := by decide +kernel
theorem dX5_moves_60 : decode cX5_moves 60 = .ok (.ireturn, 1) := by decide +kernel
theorem dX5_moves_61 : decode cX5_moves 61 = .ok (.aload_n 0, 1) := by decide +kernel
theorem dX5_moves_62 : decode cX5_moves 62 = .ok (.iload_n 1, 1) := by decide +kernel
theorem dX5_moves_63 : decode cX5_moves 63 = .ok (.bipush 114, 2) := by decide +kernel
theorem dX5_moves_65 : decode cX5_moves 65 = .ok (.if_icmp .ne 7, 3) := by decide +kernel
theorem dX5_moves_68 : decode cX5_moves 68 = .ok (.iconst 2, 1) := by decide +kernel
theorem dX5_moves_69 : decode cX5_moves 69 = .ok (.goto 4, 3) := by decide +kernel
theorem dX5_moves_72 : decode cX5_moves 72 = .ok (.iconst 1, 1) := by decide +kernel
theorem dX5_moves_73 : decode cX5_moves 73 = .ok (.invokevirtual 58, 3) := by decide +kernel
theorem dX5_moves_76 : decode cX5_moves 76 = .ok (.ifCond .ne 5, 3) := by decide +kernel
theorem dX5_moves_79 : decode cX5_moves 79 = .ok (.iconst 0, 1) := by decide +kernel
theorem dX5_moves_80 : decode cX5_moves 80 = .ok (.ireturn, 1) := by decide +kernel
theorem dX5_moves_81 : decode cX5_moves 81 = .ok (.iload_n 1, 1) := by decide +kernel
theorem dX5_moves_82 : decode cX5_moves 82 = .ok (.bipush 100, 2) := by decide +kernel
theorem dX5_moves_84 : decode cX5_moves 84 = .ok (.if_icmp .ne 39, 3) := by decide +kernel
theorem dX5_moves_87 : decode cX5_moves 87 = .ok (.aload_n 0, 1) := by decide +kernel
theorem dX5_moves_88 : decode cX5_moves 88 = .ok (.invokevirtual 131, 3) := by decide +kernel
theorem dX5_moves_91 : decode cX5_moves 91 = .ok (.ifCond .ne 5, 3) := by decide +kernel
theorem dX5_moves_94 : decode cX5_moves 94 = .ok (.iconst 0, 1) := by decide +kernel
theorem dX5_moves_95 : decode cX5_moves 95 = .ok (.ireturn, 1) := by decide +kernel
theorem dX5_moves_96 : decode cX5_moves 96 = .ok (.aload_n 0, 1) := by decide +kernel
theorem dX5_moves_97 : decode cX5_moves 97 = .ok (.aload_n 0, 1) := by decide +kernel
theorem dX5_moves_98 : decode cX5_moves 98 = .ok (.getfield 51, 3) := by decide +kernel
theorem dX5_moves_101 : decode cX5_moves 101 = .ok (.iconst 1, 1) := by decide +kernel
theorem dX5_moves_102 : decode cX5_moves 102 = .ok (.isub, 1) := by decide +kernel
theorem dX5_moves_103 : decode cX5_moves 103 = .ok (.aload_n 0, 1) := by decide +kernel
theorem dX5_moves_104 : decode cX5_moves 104 = .ok (.getfield 51, 3) := by decide +kernel
theorem dX5_moves_107 : decode cX5_moves 107 = .ok (.invokevirtual 153, 3) := by decide +kernel
theorem dX5_moves_110 : decode cX5_moves 110 = .ok (.aload_n 0, 1) := by decide +kernel
theorem dX5_moves_111 : decode cX5_moves 111 = .ok (.dup, 1) := by decide +kernel
theorem dX5_moves_112 : decode cX5_moves 112 = .ok (.getfield 51, 3) := by decide +kernel
theorem dX5_moves_115 : decode cX5_moves 115 = .ok (.iconst 1, 1) := by decide +kernel
theorem dX5_moves_116 : decode cX5_moves 116 = .ok (.iadd, 1) := by decide +kernel
theorem dX5_moves_117 : decode cX5_moves 117 = .ok (.putfield 51, 3) := by decide +kernel
theorem dX5_moves_120 : decode cX5_moves 120 = .ok (.goto 130, 3) := by decide +kernel
theorem dX5_moves_123 : decode cX5_moves 123 = .ok (.iload_n 1, 1) := by decide +kernel
theorem dX5_moves_124 : decode cX5_moves 124 = .ok (.bipush 114, 2) := by decide +kernel
theorem dX5_moves_126 : decode cX5_moves 126 = .ok (.if_icmp .ne 46, 3) := by decide +kernel
theorem dX5_moves_129 : decode cX5_moves 129 = .ok (.aload_n 0, 1) := by decide +kernel
theorem dX5_moves_130 : decode cX5_moves 130 = .ok (.aload_n 0, 1) := by decide +kernel
theorem dX5_moves_131 : decode cX5_moves 131 = .ok (.getfield 51, 3) := by decide +kernel
theorem dX5_moves_134 : decode cX5_moves 134 = .ok (.iconst 1, 1) := by decide +kernel
theorem dX5_moves_135 : decode cX5_moves 135 = .ok (.isub, 1) := by decide +kernel
theorem dX5_moves_136 : decode cX5_moves 136 = .ok (.bipush 80, 2) := by decide +kernel
theorem dX5_moves_138 : decode cX5_moves 138 = .ok (.invokevirtual 153, 3) := by decide +kernel
theorem dX5_moves_141 : decode cX5_moves 141 = .ok (.aload_n 0, 1) := by decide +kernel
theorem dX5_moves_142 : decode cX5_moves 142 = .ok (.aload_n 0, 1) := by decide +kernel
theorem dX5_moves_143 : decode cX5_moves 143 = .ok (.getfield 51, 3) := by decide +kernel
theorem dX5_moves_146 : decode cX5_moves 146 = .ok (.iconst 2, 1) := by decide +kernel
theorem dX5_moves_147 : decode cX5_moves 147 = .ok (.isub, 1) := by decide +kernel
theorem dX5_moves_148 : decode cX5_moves 148 = .ok (.aload_n 0, 1) := by decide +kernel
theorem dX5_moves_149 : decode cX5_moves 149 = .ok (.getfield 51, 3) := by decide +kernel
theorem dX5_moves_152 : decode cX5_moves 152 = .ok (.iconst 1, 1) := by decide +kernel
theorem dX5_moves_153 : decode cX5_moves 153 = .ok (.isub, 1) := by decide +kernel
theorem dX5_moves_154 : decode cX5_moves 154 = .ok (.invokevirtual 153, 3) := by decide +kernel
theorem dX5_moves_157 : decode cX5_moves 157 = .ok (.aload_n 0, 1) := by decide +kernel
theorem dX5_moves_158 : decode cX5_moves 158 = .ok (.bipush 80, 2) := by decide +kernel
theorem dX5_moves_160 : decode cX5_moves 160 = .ok (.aload_n 0, 1) := by decide +kernel
theorem dX5_moves_161 : decode cX5_moves 161 = .ok (.getfield 51, 3) := by decide +kernel
theorem dX5_moves_164 : decode cX5_moves 164 = .ok (.iconst 2, 1) := by decide +kernel
theorem dX5_moves_165 : decode cX5_moves 165 = .ok (.isub, 1) := by decide +kernel
theorem dX5_moves_166 : decode cX5_moves 166 = .ok (.invokevirtual 153, 3) := by decide +kernel
theorem dX5_moves_169 : decode cX5_moves 169 = .ok (.goto 81, 3) := by decide +kernel
theorem dX5_moves_172 : decode cX5_moves 172 = .ok (.iload_n 1, 1) := by decide +kernel
theorem dX5_moves_173 : decode cX5_moves 173 = .ok (.bipush 68, 2) := by decide +kernel
theorem dX5_moves_175 : decode cX5_moves 175 = .ok (.if_icmp .ne 16, 3) := by decide +kernel
theorem dX5_moves_178 : decode cX5_moves 178 = .ok (.aload_n 0, 1) := by decide +kernel
theorem dX5_moves_179 : decode cX5_moves 179 = .ok (.dup, 1) := by decide +kernel
theorem dX5_moves_180 : decode cX5_moves 180 = .ok (.getfield 51, 3) := by decide +kernel
theorem dX5_moves_183 : decode cX5_moves 183 = .ok (.iconst 1, 1) := by decide +kernel
theorem dX5_moves_184 : decode cX5_moves 184 = .ok (.isub, 1) := by decide +kernel
theorem dX5_moves_185 : decode cX5_moves 185 = .ok (.putfield 51, 3) := by decide +kernel
theorem dX5_moves_188 : decode cX5_moves 188 = .ok (.goto 62, 3) := by decide +kernel
theorem dX5_moves_191 : decode cX5_moves 191 = .ok (.aload_n 0, 1) := by decide +kernel
theorem dX5_moves_192 : decode cX5_moves 192 = .ok (.getfield 157, 3) := by decide +kernel
theorem dX5_moves_195 : decode cX5_moves 195 = .ok (.bipush 40, 2) := by decide +kernel
theorem dX5_moves_197 : decode cX5_moves 197 = .ok (.if_icmp .ge 53, 3) := by decide +kernel
theorem dX5_moves_200 : decode cX5_moves 200 = .ok (.aload_n 0, 1) := by decide +kernel
theorem dX5_moves_201 : decode cX5_moves 201 = .ok (.getfield 35, 3) := by decide +kernel
theorem dX5_moves_204 : decode cX5_moves 204 = .ok (.aload_n 0, 1) := by decide +kernel
theorem dX5_moves_205 : decode cX5_moves 205 = .ok (.getfield 157, 3) := by decide +kernel
theorem dX5_moves_208 : decode cX5_moves 208 = .ok (.aload_n 0, 1) := by decide +kernel
theorem dX5_moves_209 : decode cX5_moves 209 = .ok (.getfield 13, 3) := by decide +kernel
theorem dX5_moves_212 : decode cX5_moves 212 = .ok (.aload_n 0, 1) := by decide +kernel
theorem dX5_moves_213 : decode cX5_moves 213 = .ok (.getfield 51, 3) := by decide +kernel
theorem dX5_moves_216 : decode cX5_moves 216 = .ok (.iconst 1, 1) := by decide +kernel
theorem dX5_moves_217 : decode cX5_moves 217 = .ok (.isub, 1) := by decide +kernel
theorem dX5_moves_218 : decode cX5_moves 218 = .ok (.laload, 1) := by decide +kernel
theorem dX5_moves_219 : decode cX5_moves 219 = .ok (.lastore, 1) := by decide +kernel
theorem dX5_moves_220 : decode cX5_moves 220 = .ok (.aload_n 0, 1) := by decide +kernel
theorem dX5_moves_221 : decode cX5_moves 221 = .ok (.getfield 38, 3) := by decide +kernel
theorem dX5_moves_224 : decode cX5_moves 224 = .ok (.aload_n 0, 1) := by decide +kernel
theorem dX5_moves_225 : decode cX5_moves 225 = .ok (.getfield 157, 3) := by decide +kernel
theorem dX5_moves_228 : decode cX5_moves 228 = .ok (.aload_n 0, 1) := by decide +kernel
theorem dX5_moves_229 : decode cX5_moves 229 = .ok (.getfield 17, 3) := by decide +kernel
theorem dX5_moves_232 : decode cX5_moves 232 = .ok (.aload_n 0, 1) := by decide +kernel
theorem dX5_moves_233 : decode cX5_moves 233 = .ok (.getfield 51, 3) := by decide +kernel
theorem dX5_moves_236 : decode cX5_moves 236 = .ok (.iconst 1, 1) := by decide +kernel
theorem dX5_moves_237 : decode cX5_moves 237 = .ok (.isub, 1) := by decide +kernel
theorem dX5_moves_238 : decode cX5_moves 238 = .ok (.iaload, 1) := by decide +kernel
theorem dX5_moves_239 : decode cX5_moves 239 = .ok (.iastore, 1) := by decide +kernel
theorem dX5_moves_240 : decode cX5_moves 240 = .ok (.aload_n 0, 1) := by decide +kernel
theorem dX5_moves_241 : decode cX5_moves 241 = .ok (.dup, 1) := by decide +kernel
theorem dX5_moves_242 : decode cX5_moves 242 = .ok (.getfield 157, 3) := by decide +kernel
theorem dX5_moves_245 : decode cX5_moves 245 = .ok (.iconst 1, 1) := by decide +kernel
theorem dX5_moves_246 : decode cX5_moves 246 = .ok (.iadd, 1) := by decide +kernel
theorem dX5_moves_247 : decode cX5_moves 247 = .ok (.putfield 157, 3) := by decide +kernel
theorem dX5_moves_250 : decode cX5_moves 250 = .ok (.iconst 1, 1) := by decide +kernel
theorem dX5_moves_251 : decode cX5_moves 251 = .ok (.ireturn, 1) := by decide +kernel
set_option maxRecDepth 20000 in
theorem ggX5_stores_X5_have : GoodIn wsX5_stores wsX5_have := goodIn_r _ [7, 2, 8, 9, 10, 6, 11, 12, 28, 29, 30, 31, 32, 33, 34, 35, 36, 37, 38, 39, 40, 41, 42, 43, 44, 45, 46, 47, 48] (by decide +kernel) (by decide +kernel)
set_option maxRecDepth 20000 in
theorem gX5_stores_X5_have : GoodIn wsX5_stores (wsV RX5 58 RX5 yX5_have wsX5_have) := goodIn_app (goodIn_of _ (by decide +kernel)) ggX5_stores_X5_have
set_option maxRecDepth 20000 in
theorem ggX5_stores_X5_fail : GoodIn wsX5_stores wsX5_fail := goodIn_r _ [11, 12, 28, 29, 30, 31, 32, 33, 34, 35, 36, 37, 38, 39, 40, 41, 42, 43, 44, 45, 46, 47, 48] (by decide +kernel) (by decide +kernel)
set_option maxRecDepth 20000 in
theorem gX5_stores_X5_fail : GoodIn wsX5_stores (wsV RX5 54 RX5 yX5_fail wsX5_fail) := goodIn_app (goodIn_of _ (by decide +kernel)) ggX5_stores_X5_fail
set_option maxRecDepth 20000 in
theorem ggX5_stores_X5_topOf : GoodIn wsX5_stores wsX5_topOf := goodIn_r _ [16, 1, 28, 29, 30, 31, 32, 33, 34, 35, 36, 37, 38, 39, 40, 41, 42, 43, 44, 45, 46, 47, 48] (by decide +kernel) (by decide +kernel)
set_option maxRecDepth 20000 in
theorem gX5_stores_X5_topOf : GoodIn wsX5_stores (wsV RX5 160 RX5 yX5_topOf wsX5_topOf) := goodIn_app (goodIn_of _ (by decide +kernel)) ggX5_stores_X5_topOf
set_option maxRecDepth 20000 in
theorem ggX5_stores_X5_copy : GoodIn wsX5_stores wsX5_copy := goodIn_r _ [20, 21, 22, 23, 28, 29, 30, 31, 32, 33, 34, 35, 36, 37, 38, 39, 40, 41, 42, 43, 44, 45, 46, 47, 48] (by decide +kernel) (by decide +kernel)
set_option maxRecDepth 20000 in
theorem gX5_stores_X5_copy : GoodIn wsX5_stores (wsV RX5 153 RX5 yX5_copy wsX5_copy) := goodIn_app (goodIn_of _ (by decide +kernel)) ggX5_stores_X5_copy
set_option maxRecDepth 20000 in
theorem ggX5_stores_X5_room : GoodIn wsX5_stores wsX5_room := goodIn_r _ [27, 2, 8, 9, 10, 6, 11, 12, 28, 29, 30, 31, 32, 33, 34, 35, 36, 37, 38, 39, 40, 41, 42, 43, 44, 45, 46, 47, 48] (by decide +kernel) (by decide +kernel)
set_option maxRecDepth 20000 in
theorem gX5_stores_X5_room : GoodIn wsX5_stores (wsV RX5 131 RX5 yX5_room wsX5_room) := goodIn_app (goodIn_of _ (by decide +kernel)) ggX5_stores_X5_room
theorem dX5_stores_0 : decode cX5_stores 0 = .ok (.iload_n 1, 1) := by decide +kernel
theorem dX5_stores_1 : decode cX5_stores 1 = .ok (.bipush 115, 2) := by decide +kernel
theorem dX5_stores_3 : decode cX5_stores 3 = .ok (.if_icmp .eq 9, 3) := by decide +kernel
theorem dX5_stores_6 : decode cX5_stores 6 = .ok (.iload_n 1, 1) := by decide +kernel
theorem dX5_stores_7 : decode cX5_stores 7 = .ok (.bipush 83, 2) := by decide +kernel
theorem dX5_stores_9 : decode cX5_stores 9 = .ok (.if_icmp .ne 94, 3) := by decide +kernel
theorem dX5_stores_12 : decode cX5_stores 12 = .ok (.aload_n 0, 1) := by decide +kernel
theorem dX5_stores_13 : decode cX5_stores 13 = .ok (.iconst 1, 1) := by decide +kernel
theorem dX5_stores_14 : decode cX5_stores 14 = .ok (.invokevirtual 58, 3) := by decide +kernel
theorem dX5_stores_17 : decode cX5_stores 17 = .ok (.ifCond .ne 5, 3) := by decide +kernel
theorem dX5_stores_20 : decode cX5_stores 20 = .ok (.iconst 0, 1) := by decide +kernel
theorem dX5_stores_21 : decode cX5_stores 21 = .ok (.ireturn, 1) := by decide +kernel
theorem dX5_stores_22 : decode cX5_stores 22 = .ok (.iload_n 1, 1) := by decide +kernel
theorem dX5_stores_23 : decode cX5_stores 23 = .ok (.bipush 83, 2) := by decide +kernel
theorem dX5_stores_25 : decode cX5_stores 25 = .ok (.if_icmp .eq 12, 3) := by decide +kernel
theorem dX5_stores_28 : decode cX5_stores 28 = .ok (.aload_n 0, 1) := by decide +kernel
theorem dX5_stores_29 : decode cX5_stores 29 = .ok (.getfield 23, 3) := by decide +kernel
theorem dX5_stores_32 : decode cX5_stores 32 = .ok (.iload_n 2, 1) := by decide +kernel
theorem dX5_stores_33 : decode cX5_stores 33 = .ok (.iaload, 1) := by decide +kernel
theorem dX5_stores_34 : decode cX5_stores 34 = .ok (.ifCond .ne 7, 3) := by decide +kernel
theorem dX5_stores_37 : decode cX5_stores 37 = .ok (.iconst 1, 1) := by decide +kernel
theorem dX5_stores_38 : decode cX5_stores 38 = .ok (.goto 4, 3) := by decide +kernel
theorem dX5_stores_41 : decode cX5_stores 41 = .ok (.iconst 0, 1) := by decide +kernel
theorem dX5_stores_42 : decode cX5_stores 42 = .ok (.istore_n 3, 1) := by decide +kernel
theorem dX5_stores_43 : decode cX5_stores 43 = .ok (.iload_n 3, 1) := by decide +kernel
theorem dX5_stores_44 : decode cX5_stores 44 = .ok (.ifCond .eq 20, 3) := by decide +kernel
theorem dX5_stores_47 : decode cX5_stores 47 = .ok (.aload_n 0, 1) := by decide +kernel
theorem dX5_stores_48 : decode cX5_stores 48 = .ok (.getfield 23, 3) := by decide +kernel
theorem dX5_stores_51 : decode cX5_stores 51 = .ok (.iload_n 2, 1) := by decide +kernel
theorem dX5_stores_52 : decode cX5_stores 52 = .ok (.iaload, 1) := by decide +kernel
theorem dX5_stores_53 : decode cX5_stores 53 = .ok (.bipush 10, 2) := by decide +kernel
theorem dX5_stores_55 : decode cX5_stores 55 = .ok (.if_icmp .ne 9, 3) := by decide +kernel
theorem dX5_stores_58 : decode cX5_stores 58 = .ok (.aload_n 0, 1) := by decide +kernel
theorem dX5_stores_59 : decode cX5_stores 59 = .ok (.iconst 5, 1) := by decide +kernel
theorem dX5_stores_60 : decode cX5_stores 60 = .ok (.invokevirtual 54, 3) := by decide +kernel
theorem dX5_stores_63 : decode cX5_stores 63 = .ok (.ireturn, 1) := by decide +kernel
theorem dX5_stores_64 : decode cX5_stores 64 = .ok (.iload_n 3, 1) := by decide +kernel
theorem dX5_stores_65 : decode cX5_stores 65 = .ok (.ifCond .eq 13, 3) := by decide +kernel
theorem dX5_stores_68 : decode cX5_stores 68 = .ok (.aload_n 0, 1) := by decide +kernel
theorem dX5_stores_69 : decode cX5_stores 69 = .ok (.getfield 23, 3) := by decide +kernel
theorem dX5_stores_72 : decode cX5_stores 72 = .ok (.iload_n 2, 1) := by decide +kernel
theorem dX5_stores_73 : decode cX5_stores 73 = .ok (.dup2, 1) := by decide +kernel
theorem dX5_stores_74 : decode cX5_stores 74 = .ok (.iaload, 1) := by decide +kernel
theorem dX5_stores_75 : decode cX5_stores 75 = .ok (.iconst 1, 1) := by decide +kernel
theorem dX5_stores_76 : decode cX5_stores 76 = .ok (.iadd, 1) := by decide +kernel
theorem dX5_stores_77 : decode cX5_stores 77 = .ok (.iastore, 1) := by decide +kernel
theorem dX5_stores_78 : decode cX5_stores 78 = .ok (.aload_n 0, 1) := by decide +kernel
theorem dX5_stores_79 : decode cX5_stores 79 = .ok (.dup, 1) := by decide +kernel
theorem dX5_stores_80 : decode cX5_stores 80 = .ok (.getfield 51, 3) := by decide +kernel
theorem dX5_stores_83 : decode cX5_stores 83 = .ok (.iconst 1, 1) := by decide +kernel
theorem dX5_stores_84 : decode cX5_stores 84 = .ok (.isub, 1) := by decide +kernel
theorem dX5_stores_85 : decode cX5_stores 85 = .ok (.putfield 51, 3) := by decide +kernel
theorem dX5_stores_88 : decode cX5_stores 88 = .ok (.aload_n 0, 1) := by decide +kernel
theorem dX5_stores_89 : decode cX5_stores 89 = .ok (.aload_n 0, 1) := by decide +kernel
theorem dX5_stores_90 : decode cX5_stores 90 = .ok (.getfield 51, 3) := by decide +kernel
theorem dX5_stores_93 : decode cX5_stores 93 = .ok (.aload_n 0, 1) := by decide +kernel
theorem dX5_stores_94 : decode cX5_stores 94 = .ok (.iload_n 2, 1) := by decide +kernel
theorem dX5_stores_95 : decode cX5_stores 95 = .ok (.invokevirtual 160, 3) := by decide +kernel
theorem dX5_stores_98 : decode cX5_stores 98 = .ok (.invokevirtual 153, 3) := by decide +kernel
theorem dX5_stores_101 : decode cX5_stores 101 = .ok (.iconst 1, 1) := by decide +kernel
theorem dX5_stores_102 : decode cX5_stores 102 = .ok (.ireturn, 1) := by decide +kernel
theorem dX5_stores_103 : decode cX5_stores 103 = .ok (.aload_n 0, 1) := by decide +kernel
theorem dX5_stores_104 : decode cX5_stores 104 = .ok (.getfield 23, 3) := by decide +kernel
theorem dX5_stores_107 : decode cX5_stores 107 = .ok (.iload_n 2, 1) := by decide +kernel
theorem dX5_stores_108 : decode cX5_stores 108 = .ok (.iaload, 1) := by decide +kernel
theorem dX5_stores_109 : decode cX5_stores 109 = .ok (.ifCond .ne 9, 3) := by decide +kernel
theorem dX5_stores_112 : decode cX5_stores 112 = .ok (.aload_n 0, 1) := by decide +kernel
theorem dX5_stores_113 : decode cX5_stores 113 = .ok (.iconst 2, 1) := by decide +kernel
theorem dX5_stores_114 : decode cX5_stores 114 = .ok (.invokevirtual 54, 3) := by decide +kernel
theorem dX5_stores_117 : decode cX5_stores 117 = .ok (.ireturn, 1) := by decide +kernel
theorem dX5_stores_118 : decode cX5_stores 118 = .ok (.aload_n 0, 1) := by decide +kernel
theorem dX5_stores_119 : decode cX5_stores 119 = .ok (.invokevirtual 131, 3) := by decide +kernel
theorem dX5_stores_122 : decode cX5_stores 122 = .ok (.ifCond .ne 5, 3) := by decide +kernel
theorem dX5_stores_125 : decode cX5_stores 125 = .ok (.iconst 0, 1) := by decide +kernel
theorem dX5_stores_126 : decode cX5_stores 126 = .ok (.ireturn, 1) := by decide +kernel
theorem dX5_stores_127 : decode cX5_stores 127 = .ok (.aload_n 0, 1) := by decide +kernel
theorem dX5_stores_128 : decode cX5_stores 128 = .ok (.aload_n 0, 1) := by decide +kernel
theorem dX5_stores_129 : decode cX5_stores 129 = .ok (.iload_n 2, 1) := by decide +kernel
theorem dX5_stores_130 : decode cX5_stores 130 = .ok (.invokevirtual 160, 3) := by decide +kernel
theorem dX5_stores_133 : decode cX5_stores 133 = .ok (.aload_n 0, 1) := by decide +kernel
theorem dX5_stores_134 : decode cX5_stores 134 = .ok (.getfield 51, 3) := by decide +kernel
theorem dX5_stores_137 : decode cX5_stores 137 = .ok (.invokevirtual 153, 3) := by decide +kernel
theorem dX5_stores_140 : decode cX5_stores 140 = .ok (.aload_n 0, 1) := by decide +kernel
theorem dX5_stores_141 : decode cX5_stores 141 = .ok (.dup, 1) := by decide +kernel
theorem dX5_stores_142 : decode cX5_stores 142 = .ok (.getfield 51, 3) := by decide +kernel
theorem dX5_stores_145 : decode cX5_stores 145 = .ok (.iconst 1, 1) := by decide +kernel
theorem dX5_stores_146 : decode cX5_stores 146 = .ok (.iadd, 1) := by decide +kernel
theorem dX5_stores_147 : decode cX5_stores 147 = .ok (.putfield 51, 3) := by decide +kernel
theorem dX5_stores_150 : decode cX5_stores 150 = .ok (.iload_n 1, 1) := by decide +kernel
theorem dX5_stores_151 : decode cX5_stores 151 = .ok (.bipush 76, 2) := by decide +kernel
theorem dX5_stores_153 : decode cX5_stores 153 = .ok (.if_icmp .ne 13, 3) := by decide +kernel
theorem dX5_stores_156 : decode cX5_stores 156 = .ok (.aload_n 0, 1) := by decide +kernel
theorem dX5_stores_157 : decode cX5_stores 157 = .ok (.getfield 23, 3) := by decide +kernel
theorem dX5_stores_160 : decode cX5_stores 160 = .ok (.iload_n 2, 1) := by decide +kernel
theorem dX5_stores_161 : decode cX5_stores 161 = .ok (.dup2, 1) := by decide +kernel
theorem dX5_stores_162 : decode cX5_stores 162 = .ok (.iaload, 1) := by decide +kernel
theorem dX5_stores_163 : decode cX5_stores 163 = .ok (.iconst 1, 1) := by decide +kernel
theorem dX5_stores_164 : decode cX5_stores 164 = .ok (.isub, 1) := by decide +kernel
theorem dX5_stores_165 : decode cX5_stores 165 = .ok (.iastore, 1) := by decide +kernel
theorem dX5_stores_166 : decode cX5_stores 166 = .ok (.iconst 1, 1) := by decide +kernel
theorem dX5_stores_167 : decode cX5_stores 167 = .ok (.ireturn, 1) := by decide +kernel
set_option maxRecDepth 20000 in
theorem ggX5_tests_X5_numbers : GoodIn wsX5_tests wsX5_numbers := goodIn_r _ [9, 4, 2, 10, 11, 12, 8, 13, 14, 15, 16, 17, 18, 60, 61, 62, 63, 64, 65, 66, 67, 68, 69, 70, 71, 72, 73, 74, 75, 76, 77, 78, 79, 80] (by decide +kernel) (by decide +kernel)
set_option maxRecDepth 20000 in
theorem gX5_tests_X5_numbers : GoodIn wsX5_tests (wsV RX5 71 RX5 yX5_numbers wsX5_numbers) := goodIn_app (goodIn_of _ (by decide +kernel)) ggX5_tests_X5_numbers
set_option maxRecDepth 20000 in
theorem ggX5_tests_X5_compared : GoodIn wsX5_tests wsX5_compared := goodIn_r _ [22, 4, 2, 23, 24, 1, 18, 25, 26, 8, 27, 28, 29, 30, 31, 32, 33, 34, 60, 61, 62, 63, 64, 65, 66, 67, 68, 69, 70, 71, 72, 73, 74, 75, 76, 77, 78, 79, 80] (by decide +kernel) (by decide +kernel)
set_option maxRecDepth 20000 in
theorem gX5_tests_X5_compared : GoodIn wsX5_tests (wsV RX5 164 RX5 yX5_compared wsX5_compared) := goodIn_app (goodIn_of _ (by decide +kernel)) ggX5_tests_X5_compared
set_option maxRecDepth 20000 in
theorem ggX5_tests_X5_fail : GoodIn wsX5_tests wsX5_fail := goodIn_r _ [17, 18, 60, 61, 62, 63, 64, 65, 66, 67, 68, 69, 70, 71, 72, 73, 74, 75, 76, 77, 78, 79, 80] (by decide +kernel) (by decide +kernel)
set_option maxRecDepth 20000 in
theorem gX5_tests_X5_fail : GoodIn wsX5_tests (wsV RX5 54 RX5 yX5_fail wsX5_fail) := goodIn_app (goodIn_of _ (by decide +kernel)) ggX5_tests_X5_fail
set_option maxRecDepth 20000 in
theorem ggX5_tests_X5_topOf : GoodIn wsX5_tests wsX5_topOf := goodIn_r _ [38, 3, 60, 61, 62, 63, 64, 65, 66, 67, 68, 69, 70, 71, 72, 73, 74, 75, 76, 77, 78, 79, 80] (by decide +kernel) (by decide +kernel)
set_option maxRecDepth 20000 in
theorem gX5_tests_X5_topOf : GoodIn wsX5_tests (wsV RX5 160 RX5 yX5_topOf wsX5_topOf) := goodIn_app (goodIn_of _ (by decide +kernel)) ggX5_tests_X5_topOf
set_option maxRecDepth 20000 in
theorem ggX5_tests_X5_mayRun : GoodIn wsX5_tests wsX5_mayRun := goodIn_r _ [42, 43, 44, 45, 46, 8, 47, 48, 49, 50, 51, 52, 53, 14, 15, 16, 17, 18, 60, 61, 62, 63, 64, 65, 66, 67, 68, 69, 70, 71, 72, 73, 74, 75, 76, 77, 78, 79, 80] (by decide +kernel) (by decide +kernel)
set_option maxRecDepth 20000 in
theorem gX5_tests_X5_mayRun : GoodIn wsX5_tests (wsV RX5 167 RX5 yX5_mayRun wsX5_mayRun) := goodIn_app (goodIn_of _ (by decide +kernel)) ggX5_tests_X5_mayRun
set_option maxRecDepth 20000 in
theorem ggX5_tests_X5_begin : GoodIn wsX5_tests wsX5_begin := goodIn_r _ [57, 58, 43, 48, 23, 49, 59, 44, 45, 46, 8, 47, 50, 51, 52, 53, 60, 61, 62, 63, 64, 65, 66, 67, 68, 69, 70, 71, 72, 73, 74, 75, 76, 77, 78, 79, 80] (by decide +kernel) (by decide +kernel)
set_option maxRecDepth 20000 in
theorem gX5_tests_X5_begin : GoodIn wsX5_tests (wsV RX5 170 RX5 yX5_begin wsX5_begin) := goodIn_app (goodIn_of _ (by decide +kernel)) ggX5_tests_X5_begin
theorem dX5_tests_0 : decode cX5_tests 0 = .ok (.aload_n 0, 1) := by decide +kernel
theorem dX5_tests_1 : decode cX5_tests 1 = .ok (.iconst 2, 1) := by decide +kernel
theorem dX5_tests_2 : decode cX5_tests 2 = .ok (.invokevirtual 71, 3) := by decide +kernel
theorem dX5_tests_5 : decode cX5_tests 5 = .ok (.ifCond .eq 10, 3) := by decide +kernel
theorem dX5_tests_8 : decode cX5_tests 8 = .ok (.aload_n 0, 1) := by decide +kernel
theorem dX5_tests_9 : decode cX5_tests 9 = .ok (.invokevirtual 164, 3) := by decide +kernel
theorem dX5_tests_12 : decode cX5_tests 12 = .ok (.ifCond .ne 5, 3) := by decide +kernel
theorem dX5_tests_15 : decode cX5_tests 15 = .ok (.iconst 0, 1) := by decide +kernel
theorem dX5_tests_16 : decode cX5_tests 16 = .ok (.ireturn, 1) := by decide +kernel
theorem dX5_tests_17 : decode cX5_tests 17 = .ok (.iload_n 1, 1) := by decide +kernel
theorem dX5_tests_18 : decode cX5_tests 18 = .ok (.bipush 60, 2) := by decide +kernel
theorem dX5_tests_20 : decode cX5_tests 20 = .ok (.if_icmp .ne 20, 3) := by decide +kernel
theorem dX5_tests_23 : decode cX5_tests 23 = .ok (.aload_n 0, 1) := by decide +kernel
theorem dX5_tests_24 : decode cX5_tests 24 = .ok (.getfield 85, 3) := by decide +kernel
theorem dX5_tests_27 : decode cX5_tests 27 = .ok (.lconst 0, 1) := by decide +kernel
theorem dX5_tests_28 : decode cX5_tests 28 = .ok (.lcmp, 1) := by decide +kernel
theorem dX5_tests_29 : decode cX5_tests 29 = .ok (.ifCond .le 7, 3) := by decide +kernel
theorem dX5_tests_32 : decode cX5_tests 32 = .ok (.iconst 1, 1) := by decide +kernel
theorem dX5_tests_33 : decode cX5_tests 33 = .ok (.goto 44, 3) := by decide +kernel
theorem dX5_tests_36 : decode cX5_tests 36 = .ok (.iconst 0, 1) := by decide +kernel
theorem dX5_tests_37 : decode cX5_tests 37 = .ok (.goto 40, 3) := by decide +kernel
theorem dX5_tests_40 : decode cX5_tests 40 = .ok (.iload_n 1, 1) := by decide +kernel
theorem dX5_tests_41 : decode cX5_tests 41 = .ok (.bipush 62, 2) := by decide +kernel
theorem dX5_tests_43 : decode cX5_tests 43 = .ok (.if_icmp .ne 20, 3) := by decide +kernel
theorem dX5_tests_46 : decode cX5_tests 46 = .ok (.aload_n 0, 1) := by decide +kernel
theorem dX5_tests_47 : decode cX5_tests 47 = .ok (.getfield 85, 3) := by decide +kernel
theorem dX5_tests_50 : decode cX5_tests 50 = .ok (.lconst 0, 1) := by decide +kernel
theorem dX5_tests_51 : decode cX5_tests 51 = .ok (.lcmp, 1) := by decide +kernel
theorem dX5_tests_52 : decode cX5_tests 52 = .ok (.ifCond .ge 7, 3) := by decide +kernel
theorem dX5_tests_55 : decode cX5_tests 55 = .ok (.iconst 1, 1) := by decide +kernel
theorem dX5_tests_56 : decode cX5_tests 56 = .ok (.goto 21, 3) := by decide +kernel
theorem dX5_tests_59 : decode cX5_tests 59 = .ok (.iconst 0, 1) := by decide +kernel
theorem dX5_tests_60 : decode cX5_tests 60 = .ok (.goto 17, 3) := by decide +kernel
theorem dX5_tests_63 : decode cX5_tests 63 = .ok (.aload_n 0, 1) := by decide +kernel
theorem dX5_tests_64 : decode cX5_tests 64 = .ok (.getfield 85, 3) := by decide +kernel
theorem dX5_tests_67 : decode cX5_tests 67 = .ok (.lconst 0, 1) := by decide +kernel
theorem dX5_tests_68 : decode cX5_tests 68 = .ok (.lcmp, 1) := by decide +kernel
theorem dX5_tests_69 : decode cX5_tests 69 = .ok (.ifCond .ne 7, 3) := by decide +kernel
theorem dX5_tests_72 : decode cX5_tests 72 = .ok (.iconst 1, 1) := by decide +kernel
theorem dX5_tests_73 : decode cX5_tests 73 = .ok (.goto 4, 3) := by decide +kernel
theorem dX5_tests_76 : decode cX5_tests 76 = .ok (.iconst 0, 1) := by decide +kernel
theorem dX5_tests_77 : decode cX5_tests 77 = .ok (.istore 4, 2) := by decide +kernel
theorem dX5_tests_79 : decode cX5_tests 79 = .ok (.iload 4, 2) := by decide +kernel
theorem dX5_tests_81 : decode cX5_tests 81 = .ok (.ifCond .ne 15, 3) := by decide +kernel
theorem dX5_tests_84 : decode cX5_tests 84 = .ok (.aload_n 0, 1) := by decide +kernel
theorem dX5_tests_85 : decode cX5_tests 85 = .ok (.dup, 1) := by decide +kernel
theorem dX5_tests_86 : decode cX5_tests 86 = .ok (.getfield 51, 3) := by decide +kernel
theorem dX5_tests_89 : decode cX5_tests 89 = .ok (.iconst 2, 1) := by decide +kernel
theorem dX5_tests_90 : decode cX5_tests 90 = .ok (.isub, 1) := by decide +kernel
theorem dX5_tests_91 : decode cX5_tests 91 = .ok (.putfield 51, 3) := by decide +kernel
theorem dX5_tests_94 : decode cX5_tests 94 = .ok (.iconst 1, 1) := by decide +kernel
theorem dX5_tests_95 : decode cX5_tests 95 = .ok (.ireturn, 1) := by decide +kernel
theorem dX5_tests_96 : decode cX5_tests 96 = .ok (.aload_n 0, 1) := by decide +kernel
theorem dX5_tests_97 : decode cX5_tests 97 = .ok (.getfield 23, 3) := by decide +kernel
theorem dX5_tests_100 : decode cX5_tests 100 = .ok (.iload_n 2, 1) := by decide +kernel
theorem dX5_tests_101 : decode cX5_tests 101 = .ok (.iaload, 1) := by decide +kernel
theorem dX5_tests_102 : decode cX5_tests 102 = .ok (.ifCond .ne 9, 3) := by decide +kernel
theorem dX5_tests_105 : decode cX5_tests 105 = .ok (.aload_n 0, 1) := by decide +kernel
theorem dX5_tests_106 : decode cX5_tests 106 = .ok (.iconst 2, 1) := by decide +kernel
theorem dX5_tests_107 : decode cX5_tests 107 = .ok (.invokevirtual 54, 3) := by decide +kernel
theorem dX5_tests_110 : decode cX5_tests 110 = .ok (.ireturn, 1) := by decide +kernel
theorem dX5_tests_111 : decode cX5_tests 111 = .ok (.aload_n 0, 1) := by decide +kernel
theorem dX5_tests_112 : decode cX5_tests 112 = .ok (.getfield 17, 3) := by decide +kernel
theorem dX5_tests_115 : decode cX5_tests 115 = .ok (.aload_n 0, 1) := by decide +kernel
theorem dX5_tests_116 : decode cX5_tests 116 = .ok (.iload_n 2, 1) := by decide +kernel
theorem dX5_tests_117 : decode cX5_tests 117 = .ok (.invokevirtual 160, 3) := by decide +kernel
theorem dX5_tests_120 : decode cX5_tests 120 = .ok (.iaload, 1) := by decide +kernel
theorem dX5_tests_121 : decode cX5_tests 121 = .ok (.ifCond .lt 9, 3) := by decide +kernel
theorem dX5_tests_124 : decode cX5_tests 124 = .ok (.aload_n 0, 1) := by decide +kernel
theorem dX5_tests_125 : decode cX5_tests 125 = .ok (.iconst 3, 1) := by decide +kernel
theorem dX5_tests_126 : decode cX5_tests 126 = .ok (.invokevirtual 54, 3) := by decide +kernel
theorem dX5_tests_129 : decode cX5_tests 129 = .ok (.ireturn, 1) := by decide +kernel
theorem dX5_tests_130 : decode cX5_tests 130 = .ok (.aload_n 0, 1) := by decide +kernel
theorem dX5_tests_131 : decode cX5_tests 131 = .ok (.iload_n 3, 1) := by decide +kernel
theorem dX5_tests_132 : decode cX5_tests 132 = .ok (.invokevirtual 167, 3) := by decide +kernel
theorem dX5_tests_135 : decode cX5_tests 135 = .ok (.ifCond .ne 5, 3) := by decide +kernel
theorem dX5_tests_138 : decode cX5_tests 138 = .ok (.iconst 0, 1) := by decide +kernel
theorem dX5_tests_139 : decode cX5_tests 139 = .ok (.ireturn, 1) := by decide +kernel
theorem dX5_tests_140 : decode cX5_tests 140 = .ok (.aload_n 0, 1) := by decide +kernel
theorem dX5_tests_141 : decode cX5_tests 141 = .ok (.dup, 1) := by decide +kernel
theorem dX5_tests_142 : decode cX5_tests 142 = .ok (.getfield 51, 3) := by decide +kernel
theorem dX5_tests_145 : decode cX5_tests 145 = .ok (.iconst 2, 1) := by decide +kernel
theorem dX5_tests_146 : decode cX5_tests 146 = .ok (.isub, 1) := by decide +kernel
theorem dX5_tests_147 : decode cX5_tests 147 = .ok (.putfield 51, 3) := by decide +kernel
theorem dX5_tests_150 : decode cX5_tests 150 = .ok (.aload_n 0, 1) := by decide +kernel
theorem dX5_tests_151 : decode cX5_tests 151 = .ok (.aload_n 0, 1) := by decide +kernel
theorem dX5_tests_152 : decode cX5_tests 152 = .ok (.iload_n 2, 1) := by decide +kernel
theorem dX5_tests_153 : decode cX5_tests 153 = .ok (.invokevirtual 160, 3) := by decide +kernel
theorem dX5_tests_156 : decode cX5_tests 156 = .ok (.iload_n 3, 1) := by decide +kernel
theorem dX5_tests_157 : decode cX5_tests 157 = .ok (.invokevirtual 170, 3) := by decide +kernel
theorem dX5_tests_160 : decode cX5_tests 160 = .ok (.iconst 1, 1) := by decide +kernel
theorem dX5_tests_161 : decode cX5_tests 161 = .ok (.ireturn, 1) := by decide +kernel
set_option maxRecDepth 20000 in
theorem ggX5_compared_X5_greater : GoodIn wsX5_compared wsX5_greater := goodIn_r _ [10] (by decide +kernel) (by decide +kernel)
set_option maxRecDepth 20000 in
theorem gX5_compared_X5_greater : GoodIn wsX5_compared (va_wsS RX5 74 yX5_greater wsX5_greater) := goodIn_app (goodIn_of _ (by decide +kernel)) ggX5_compared_X5_greater
set_option maxRecDepth 20000 in
theorem ggX5_compared_X5_raised : GoodIn wsX5_compared wsX5_raised := goodIn_r _ [14, 6, 15, 16, 17, 18, 19, 20, 21, 22, 23, 24, 25, 26, 27, 28, 29, 30, 31, 32, 33, 34, 35, 36, 37, 38] (by decide +kernel) (by decide +kernel)
set_option maxRecDepth 20000 in
theorem gX5_compared_X5_raised : GoodIn wsX5_compared (wsV RX5 81 RX5 yX5_raised wsX5_raised) := goodIn_app (goodIn_of _ (by decide +kernel)) ggX5_compared_X5_raised
theorem dX5_compared_0 : decode cX5_compared 0 = .ok (.aload_n 0, 1) := by decide +kernel
theorem dX5_compared_1 : decode cX5_compared 1 = .ok (.getfield 17, 3) := by decide +kernel
theorem dX5_compared_4 : decode cX5_compared 4 = .ok (.aload_n 0, 1) := by decide +kernel
theorem dX5_compared_5 : decode cX5_compared 5 = .ok (.getfield 51, 3) := by decide +kernel
theorem dX5_compared_8 : decode cX5_compared 8 = .ok (.iconst 1, 1) := by decide +kernel
theorem dX5_compared_9 : decode cX5_compared 9 = .ok (.isub, 1) := by decide +kernel
theorem dX5_compared_10 : decode cX5_compared 10 = .ok (.iaload, 1) := by decide +kernel
theorem dX5_compared_11 : decode cX5_compared 11 = .ok (.aload_n 0, 1) := by decide +kernel
theorem dX5_compared_12 : decode cX5_compared 12 = .ok (.getfield 17, 3) := by decide +kernel
theorem dX5_compared_15 : decode cX5_compared 15 = .ok (.aload_n 0, 1) := by decide +kernel
theorem dX5_compared_16 : decode cX5_compared 16 = .ok (.getfield 51, 3) := by decide +kernel
theorem dX5_compared_19 : decode cX5_compared 19 = .ok (.iconst 2, 1) := by decide +kernel
theorem dX5_compared_20 : decode cX5_compared 20 = .ok (.isub, 1) := by decide +kernel
theorem dX5_compared_21 : decode cX5_compared 21 = .ok (.iaload, 1) := by decide +kernel
theorem dX5_compared_22 : decode cX5_compared 22 = .ok (.invokestatic 74, 3) := by decide +kernel
theorem dX5_compared_25 : decode cX5_compared 25 = .ok (.istore_n 1, 1) := by decide +kernel
theorem dX5_compared_26 : decode cX5_compared 26 = .ok (.aload_n 0, 1) := by decide +kernel
theorem dX5_compared_27 : decode cX5_compared 27 = .ok (.aload_n 0, 1) := by decide +kernel
theorem dX5_compared_28 : decode cX5_compared 28 = .ok (.getfield 13, 3) := by decide +kernel
theorem dX5_compared_31 : decode cX5_compared 31 = .ok (.aload_n 0, 1) := by decide +kernel
theorem dX5_compared_32 : decode cX5_compared 32 = .ok (.getfield 51, 3) := by decide +kernel
theorem dX5_compared_35 : decode cX5_compared 35 = .ok (.iconst 2, 1) := by decide +kernel
theorem dX5_compared_36 : decode cX5_compared 36 = .ok (.isub, 1) := by decide +kernel
theorem dX5_compared_37 : decode cX5_compared 37 = .ok (.laload, 1) := by decide +kernel
theorem dX5_compared_38 : decode cX5_compared 38 = .ok (.iload_n 1, 1) := by decide +kernel
theorem dX5_compared_39 : decode cX5_compared 39 = .ok (.aload_n 0, 1) := by decide +kernel
