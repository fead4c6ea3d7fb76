theorem dX5_command_116 : decode cX5_command 116 = .ok (.ldc2_w 187, 3) := by decide +kernel
theorem dX5_command_119 : decode cX5_command 119 = .ok (.invokestatic 127, 3) := by decide +kernel
theorem dX5_command_122 : decode cX5_command 122 = .ok (.ifCond .ne 9, 3) := by decide +kernel
theorem dX5_command_125 : decode cX5_command 125 = .ok (.aload_n 0, 1) := by decide +kernel
theorem dX5_command_126 : decode cX5_command 126 = .ok (.iconst 1, 1) := by decide +kernel
theorem dX5_command_127 : decode cX5_command 127 = .ok (.invokevirtual 54, 3) := by decide +kernel
theorem dX5_command_130 : decode cX5_command 130 = .ok (.ireturn, 1) := by decide +kernel
theorem dX5_command_131 : decode cX5_command 131 = .ok (.iload 5, 2) := by decide +kernel
theorem dX5_command_133 : decode cX5_command 133 = .ok (.ifCond .eq 9, 3) := by decide +kernel
theorem dX5_command_136 : decode cX5_command 136 = .ok (.iload_n 1, 1) := by decide +kernel
theorem dX5_command_137 : decode cX5_command 137 = .ok (.iconst 2, 1) := by decide +kernel
theorem dX5_command_138 : decode cX5_command 138 = .ok (.iadd, 1) := by decide +kernel
theorem dX5_command_139 : decode cX5_command 139 = .ok (.goto 6, 3) := by decide +kernel
theorem dX5_command_142 : decode cX5_command 142 = .ok (.iload_n 1, 1) := by decide +kernel
theorem dX5_command_143 : decode cX5_command 143 = .ok (.iconst 1, 1) := by decide +kernel
theorem dX5_command_144 : decode cX5_command 144 = .ok (.iadd, 1) := by decide +kernel
theorem dX5_command_145 : decode cX5_command 145 = .ok (.istore 6, 2) := by decide +kernel
theorem dX5_command_147 : decode cX5_command 147 = .ok (.aload_n 0, 1) := by decide +kernel
theorem dX5_command_148 : decode cX5_command 148 = .ok (.getfield 32, 3) := by decide +kernel
theorem dX5_command_151 : decode cX5_command 151 = .ok (.iload_n 2, 1) := by decide +kernel
theorem dX5_command_152 : decode cX5_command 152 = .ok (.iload 6, 2) := by decide +kernel
theorem dX5_command_154 : decode cX5_command 154 = .ok (.iastore, 1) := by decide +kernel
theorem dX5_command_155 : decode cX5_command 155 = .ok (.iload_n 3, 1) := by decide +kernel
theorem dX5_command_156 : decode cX5_command 156 = .ok (.bipush 115, 2) := by decide +kernel
theorem dX5_command_158 : decode cX5_command 158 = .ok (.bipush 108, 2) := by decide +kernel
theorem dX5_command_160 : decode cX5_command 160 = .ok (.bipush 83, 2) := by decide +kernel
theorem dX5_command_162 : decode cX5_command 162 = .ok (.bipush 76, 2) := by decide +kernel
theorem dX5_command_164 : decode cX5_command 164 = .ok (.invokestatic 181, 3) := by decide +kernel
theorem dX5_command_167 : decode cX5_command 167 = .ok (.ifCond .eq 14, 3) := by decide +kernel
theorem dX5_command_170 : decode cX5_command 170 = .ok (.aload_n 0, 1) := by decide +kernel
theorem dX5_command_171 : decode cX5_command 171 = .ok (.iload_n 3, 1) := by decide +kernel
theorem dX5_command_172 : decode cX5_command 172 = .ok (.iload 4, 2) := by decide +kernel
theorem dX5_command_174 : decode cX5_command 174 = .ok (.invokestatic 189, 3) := by decide +kernel
theorem dX5_command_177 : decode cX5_command 177 = .ok (.invokevirtual 192, 3) := by decide +kernel
theorem dX5_command_180 : decode cX5_command 180 = .ok (.ireturn, 1) := by decide +kernel
theorem dX5_command_181 : decode cX5_command 181 = .ok (.iload 5, 2) := by decide +kernel
theorem dX5_command_183 : decode cX5_command 183 = .ok (.ifCond .eq 16, 3) := by decide +kernel
theorem dX5_command_186 : decode cX5_command 186 = .ok (.aload_n 0, 1) := by decide +kernel
theorem dX5_command_187 : decode cX5_command 187 = .ok (.iload_n 3, 1) := by decide +kernel
theorem dX5_command_188 : decode cX5_command 188 = .ok (.iload 4, 2) := by decide +kernel
theorem dX5_command_190 : decode cX5_command 190 = .ok (.invokestatic 189, 3) := by decide +kernel
theorem dX5_command_193 : decode cX5_command 193 = .ok (.iload 6, 2) := by decide +kernel
theorem dX5_command_195 : decode cX5_command 195 = .ok (.invokevirtual 196, 3) := by decide +kernel
theorem dX5_command_198 : decode cX5_command 198 = .ok (.ireturn, 1) := by decide +kernel
theorem dX5_command_199 : decode cX5_command 199 = .ok (.iload_n 3, 1) := by decide +kernel
theorem dX5_command_200 : decode cX5_command 200 = .ok (.bipush 120, 2) := by decide +kernel
theorem dX5_command_202 : decode cX5_command 202 = .ok (.if_icmp .ne 10, 3) := by decide +kernel
theorem dX5_command_205 : decode cX5_command 205 = .ok (.aload_n 0, 1) := by decide +kernel
theorem dX5_command_206 : decode cX5_command 206 = .ok (.iload 6, 2) := by decide +kernel
theorem dX5_command_208 : decode cX5_command 208 = .ok (.invokevirtual 200, 3) := by decide +kernel
theorem dX5_command_211 : decode cX5_command 211 = .ok (.ireturn, 1) := by decide +kernel
theorem dX5_command_212 : decode cX5_command 212 = .ok (.iload_n 3, 1) := by decide +kernel
theorem dX5_command_213 : decode cX5_command 213 = .ok (.bipush 113, 2) := by decide +kernel
theorem dX5_command_215 : decode cX5_command 215 = .ok (.if_icmp .ne 10, 3) := by decide +kernel
theorem dX5_command_218 : decode cX5_command 218 = .ok (.aload_n 0, 1) := by decide +kernel
theorem dX5_command_219 : decode cX5_command 219 = .ok (.iconst 1, 1) := by decide +kernel
theorem dX5_command_220 : decode cX5_command 220 = .ok (.putfield 203, 3) := by decide +kernel
theorem dX5_command_223 : decode cX5_command 223 = .ok (.iconst 1, 1) := by decide +kernel
theorem dX5_command_224 : decode cX5_command 224 = .ok (.ireturn, 1) := by decide +kernel
theorem dX5_command_225 : decode cX5_command 225 = .ok (.iload_n 3, 1) := by decide +kernel
theorem dX5_command_226 : decode cX5_command 226 = .ok (.bipush 43, 2) := by decide +kernel
theorem dX5_command_228 : decode cX5_command 228 = .ok (.bipush 45, 2) := by decide +kernel
theorem dX5_command_230 : decode cX5_command 230 = .ok (.bipush 42, 2) := by decide +kernel
theorem dX5_command_232 : decode cX5_command 232 = .ok (.bipush 47, 2) := by decide +kernel
theorem dX5_command_234 : decode cX5_command 234 = .ok (.invokestatic 181, 3) := by decide +kernel
theorem dX5_command_237 : decode cX5_command 237 = .ok (.ifCond .ne 24, 3) := by decide +kernel
theorem dX5_command_240 : decode cX5_command 240 = .ok (.iload_n 3, 1) := by decide +kernel
theorem dX5_command_241 : decode cX5_command 241 = .ok (.bipush 37, 2) := by decide +kernel
theorem dX5_command_243 : decode cX5_command 243 = .ok (.bipush 118, 2) := by decide +kernel
theorem dX5_command_245 : decode cX5_command 245 = .ok (.bipush 126, 2) := by decide +kernel
theorem dX5_command_247 : decode cX5_command 247 = .ok (.bipush 107, 2) := by decide +kernel
theorem dX5_command_249 : decode cX5_command 249 = .ok (.invokestatic 181, 3) := by decide +kernel
theorem dX5_command_252 : decode cX5_command 252 = .ok (.ifCond .ne 9, 3) := by decide +kernel
theorem dX5_command_255 : decode cX5_command 255 = .ok (.iload_n 3, 1) := by decide +kernel
theorem dX5_command_256 : decode cX5_command 256 = .ok (.bipush 88, 2) := by decide +kernel
theorem dX5_command_258 : decode cX5_command 258 = .ok (.if_icmp .ne 9, 3) := by decide +kernel
theorem dX5_command_261 : decode cX5_command 261 = .ok (.aload_n 0, 1) := by decide +kernel
theorem dX5_command_262 : decode cX5_command 262 = .ok (.iload_n 3, 1) := by decide +kernel
theorem dX5_command_263 : decode cX5_command 263 = .ok (.invokevirtual 207, 3) := by decide +kernel
theorem dX5_command_266 : decode cX5_command 266 = .ok (.ireturn, 1) := by decide +kernel
theorem dX5_command_267 : decode cX5_command 267 = .ok (.iload_n 3, 1) := by decide +kernel
theorem dX5_command_268 : decode cX5_command 268 = .ok (.bipush 100, 2) := by decide +kernel
theorem dX5_command_270 : decode cX5_command 270 = .ok (.bipush 114, 2) := by decide +kernel
theorem dX5_command_272 : decode cX5_command 272 = .ok (.bipush 68, 2) := by decide +kernel
theorem dX5_command_274 : decode cX5_command 274 = .ok (.bipush 99, 2) := by decide +kernel
theorem dX5_command_276 : decode cX5_command 276 = .ok (.invokestatic 181, 3) := by decide +kernel
theorem dX5_command_279 : decode cX5_command 279 = .ok (.ifCond .ne 18, 3) := by decide +kernel
theorem dX5_command_282 : decode cX5_command 282 = .ok (.iload_n 3, 1) := by decide +kernel
theorem dX5_command_283 : decode cX5_command 283 = .ok (.bipush 122, 2) := by decide +kernel
theorem dX5_command_285 : decode cX5_command 285 = .ok (.bipush 75, 2) := by decide +kernel
theorem dX5_command_287 : decode cX5_command 287 = .ok (.bipush 112, 2) := by decide +kernel
theorem dX5_command_289 : decode cX5_command 289 = .ok (.bipush 112, 2) := by decide +kernel
theorem dX5_command_291 : decode cX5_command 291 = .ok (.invokestatic 181, 3) := by decide +kernel
theorem dX5_command_294 : decode cX5_command 294 = .ok (.ifCond .eq 9, 3) := by decide +kernel
theorem dX5_command_297 : decode cX5_command 297 = .ok (.aload_n 0, 1) := by decide +kernel
theorem dX5_command_298 : decode cX5_command 298 = .ok (.iload_n 3, 1) := by decide +kernel
theorem dX5_command_299 : decode cX5_command 299 = .ok (.invokevirtual 210, 3) := by decide +kernel
theorem dX5_command_302 : decode cX5_command 302 = .ok (.ireturn, 1) := by decide +kernel
theorem dX5_command_303 : decode cX5_command 303 = .ok (.aload_n 0, 1) := by decide +kernel
theorem dX5_command_304 : decode cX5_command 304 = .ok (.iconst 1, 1) := by decide +kernel
theorem dX5_command_305 : decode cX5_command 305 = .ok (.invokevirtual 54, 3) := by decide +kernel
theorem dX5_command_308 : decode cX5_command 308 = .ok (.ireturn, 1) := by decide +kernel
set_option maxRecDepth 20000 in
theorem ggX5_run_X5_within : GoodIn wsX5_run wsX5_within := goodIn_r _ [17] (by decide +kernel) (by decide +kernel)
set_option maxRecDepth 20000 in
theorem gX5_run_X5_within : GoodIn wsX5_run (va_wsS RX5 127 yX5_within wsX5_within) := goodIn_app (goodIn_of _ (by decide +kernel)) ggX5_run_X5_within
set_option maxRecDepth 20000 in
theorem ggX5_run_X5_isNothing : GoodIn wsX5_run wsX5_isNothing := goodIn_r _ [21] (by decide +kernel) (by decide +kernel)
set_option maxRecDepth 20000 in
theorem gX5_run_X5_isNothing : GoodIn wsX5_run (wsV RX5 114 RX5 yX5_isNothing wsX5_isNothing) := goodIn_app (goodIn_of _ (by decide +kernel)) ggX5_run_X5_isNothing
set_option maxRecDepth 20000 in
theorem ggX5_run_X5_command : GoodIn wsX5_run wsX5_command := goodIn_r _ [25, 7, 26, 27, 28, 29, 10, 6, 30, 31, 32, 16, 33, 8, 11, 14, 15, 17, 34, 35, 36, 37, 38, 39, 40, 41, 42, 5, 43, 44, 45, 46, 47, 48, 49, 50, 51, 52, 53, 54, 55, 56, 57, 58, 59, 60, 61, 62, 63, 64, 65, 66, 67, 68, 69, 70, 71, 72, 73, 74, 75, 76, 77, 78, 79, 80, 81, 82, 83, 84, 85, 86, 87, 88, 89, 90, 91, 92, 93, 94, 95, 96, 97, 98, 99, 100, 101, 102, 103, 104, 105, 106, 107, 108, 109, 110, 111, 112, 18, 19, 20, 21, 113, 114, 115, 116, 117, 118, 119, 120, 121, 122, 123, 124, 125, 126, 127, 128, 129, 130, 131, 132, 133, 134, 135, 136, 137, 138, 139, 140, 141, 142, 143, 144, 145, 146, 147, 148, 149, 150, 151, 152, 153, 154, 155, 156, 157, 158, 159, 160, 161, 162, 163, 164, 165, 3, 166, 167, 168, 169, 170, 171, 172, 173, 174, 175, 176, 177, 178, 179, 180, 181, 182, 183, 184, 185, 186, 187, 188] (by decide +kernel) (by decide +kernel)
set_option maxRecDepth 20000 in
theorem gX5_run_X5_command : GoodIn wsX5_run (wsV RX5 219 RX5 yX5_command wsX5_command) := goodIn_app (goodIn_of _ (by decide +kernel)) ggX5_run_X5_command
theorem dX5_run_0 : decode cX5_run 0 = .ok (.aload_n 0, 1) := by decide +kernel
theorem dX5_run_1 : decode cX5_run 1 = .ok (.iconst 1, 1) := by decide +kernel
theorem dX5_run_2 : decode cX5_run 2 = .ok (.putfield 41, 3) := by decide +kernel
theorem dX5_run_5 : decode cX5_run 5 = .ok (.iload_n 1, 1) := by decide +kernel
theorem dX5_run_6 : decode cX5_run 6 = .ok (.i2l, 1) := by decide +kernel
theorem dX5_run_7 : decode cX5_run 7 = .ok (.lconst 0, 1) := by decide +kernel
theorem dX5_run_8 : decode cX5_run 8 = .ok (.ldc2_w 213, 3) := by decide +kernel
theorem dX5_run_11 : decode cX5_run 11 = .ok (.invokestatic 127, 3) := by decide +kernel
theorem dX5_run_14 : decode cX5_run 14 = .ok (.ifCond .ne 5, 3) := by decide +kernel
theorem dX5_run_17 : decode cX5_run 17 = .ok (.iconst 0, 1) := by decide +kernel
theorem dX5_run_18 : decode cX5_run 18 = .ok (.ireturn, 1) := by decide +kernel
theorem dX5_run_19 : decode cX5_run 19 = .ok (.aload_n 0, 1) := by decide +kernel
theorem dX5_run_20 : decode cX5_run 20 = .ok (.iconst 0, 1) := by decide +kernel
theorem dX5_run_21 : decode cX5_run 21 = .ok (.putfield 157, 3) := by decide +kernel
theorem dX5_run_24 : decode cX5_run 24 = .ok (.aload_n 0, 1) := by decide +kernel
theorem dX5_run_25 : decode cX5_run 25 = .ok (.iconst 0, 1) := by decide +kernel
theorem dX5_run_26 : decode cX5_run 26 = .ok (.putfield 215, 3) := by decide +kernel
theorem dX5_run_29 : decode cX5_run 29 = .ok (.aload_n 0, 1) := by decide +kernel
theorem dX5_run_30 : decode cX5_run 30 = .ok (.iconst 0, 1) := by decide +kernel
theorem dX5_run_31 : decode cX5_run 31 = .ok (.putfield 48, 3) := by decide +kernel
theorem dX5_run_34 : decode cX5_run 34 = .ok (.aload_n 0, 1) := by decide +kernel
theorem dX5_run_35 : decode cX5_run 35 = .ok (.iconst 0, 1) := by decide +kernel
theorem dX5_run_36 : decode cX5_run 36 = .ok (.putfield 203, 3) := by decide +kernel
theorem dX5_run_39 : decode cX5_run 39 = .ok (.aload_n 0, 1) := by decide +kernel
theorem dX5_run_40 : decode cX5_run 40 = .ok (.iconst 1, 1) := by decide +kernel
theorem dX5_run_41 : decode cX5_run 41 = .ok (.putfield 111, 3) := by decide +kernel
theorem dX5_run_44 : decode cX5_run 44 = .ok (.aload_n 0, 1) := by decide +kernel
theorem dX5_run_45 : decode cX5_run 45 = .ok (.getfield 29, 3) := by decide +kernel
theorem dX5_run_48 : decode cX5_run 48 = .ok (.iconst 0, 1) := by decide +kernel
theorem dX5_run_49 : decode cX5_run 49 = .ok (.aload_n 0, 1) := by decide +kernel
theorem dX5_run_50 : decode cX5_run 50 = .ok (.getfield 45, 3) := by decide +kernel
theorem dX5_run_53 : decode cX5_run 53 = .ok (.iastore, 1) := by decide +kernel
theorem dX5_run_54 : decode cX5_run 54 = .ok (.aload_n 0, 1) := by decide +kernel
theorem dX5_run_55 : decode cX5_run 55 = .ok (.getfield 32, 3) := by decide +kernel
theorem dX5_run_58 : decode cX5_run 58 = .ok (.iconst 0, 1) := by decide +kernel
theorem dX5_run_59 : decode cX5_run 59 = .ok (.iconst 0, 1) := by decide +kernel
theorem dX5_run_60 : decode cX5_run 60 = .ok (.iastore, 1) := by decide +kernel
theorem dX5_run_61 : decode cX5_run 61 = .ok (.iconst 0, 1) := by decide +kernel
theorem dX5_run_62 : decode cX5_run 62 = .ok (.istore_n 2, 1) := by decide +kernel
theorem dX5_run_63 : decode cX5_run 63 = .ok (.iload_n 2, 1) := by decide +kernel
theorem dX5_run_64 : decode cX5_run 64 = .ok (.aload_n 0, 1) := by decide +kernel
theorem dX5_run_65 : decode cX5_run 65 = .ok (.getfield 45, 3) := by decide +kernel
theorem dX5_run_68 : decode cX5_run 68 = .ok (.if_icmp .ge 21, 3) := by decide +kernel
theorem dX5_run_71 : decode cX5_run 71 = .ok (.aload_n 0, 1) := by decide +kernel
theorem dX5_run_72 : decode cX5_run 72 = .ok (.getfield 26, 3) := by decide +kernel
theorem dX5_run_75 : decode cX5_run 75 = .ok (.iload_n 2, 1) := by decide +kernel
theorem dX5_run_76 : decode cX5_run 76 = .ok (.aload_n 0, 1) := by decide +kernel
theorem dX5_run_77 : decode cX5_run 77 = .ok (.getfield 7, 3) := by decide +kernel
theorem dX5_run_80 : decode cX5_run 80 = .ok (.iload_n 2, 1) := by decide +kernel
theorem dX5_run_81 : decode cX5_run 81 = .ok (.iaload, 1) := by decide +kernel
theorem dX5_run_82 : decode cX5_run 82 = .ok (.iastore, 1) := by decide +kernel
theorem dX5_run_83 : decode cX5_run 83 = .ok (.iinc 2 1, 3) := by decide +kernel
theorem dX5_run_86 : decode cX5_run 86 = .ok (.goto (-23), 3) := by decide +kernel
theorem dX5_run_89 : decode cX5_run 89 = .ok (.iconst 0, 1) := by decide +kernel
theorem dX5_run_90 : decode cX5_run 90 = .ok (.istore_n 2, 1) := by decide +kernel
theorem dX5_run_91 : decode cX5_run 91 = .ok (.iload_n 2, 1) := by decide +kernel
theorem dX5_run_92 : decode cX5_run 92 = .ok (.ldc 218, 2) := by decide +kernel
theorem dX5_run_94 : decode cX5_run 94 = .ok (.if_icmp .ge 137, 3) := by decide +kernel
theorem dX5_run_97 : decode cX5_run 97 = .ok (.aload_n 0, 1) := by decide +kernel
theorem dX5_run_98 : decode cX5_run 98 = .ok (.getfield 111, 3) := by decide +kernel
theorem dX5_run_101 : decode cX5_run 101 = .ok (.ifCond .le 130, 3) := by decide +kernel
theorem dX5_run_104 : decode cX5_run 104 = .ok (.aload_n 0, 1) := by decide +kernel
theorem dX5_run_105 : decode cX5_run 105 = .ok (.getfield 203, 3) := by decide +kernel
theorem dX5_run_108 : decode cX5_run 108 = .ok (.ifCond .ne 123, 3) := by decide +kernel
theorem dX5_run_111 : decode cX5_run 111 = .ok (.aload_n 0, 1) := by decide +kernel
theorem dX5_run_112 : decode cX5_run 112 = .ok (.getfield 48, 3) := by decide +kernel
theorem dX5_run_115 : decode cX5_run 115 = .ok (.ifCond .ne 116, 3) := by decide +kernel
theorem dX5_run_118 : decode cX5_run 118 = .ok (.aload_n 0, 1) := by decide +kernel
theorem dX5_run_119 : decode cX5_run 119 = .ok (.getfield 111, 3) := by decide +kernel
theorem dX5_run_122 : decode cX5_run 122 = .ok (.iconst 1, 1) := by decide +kernel
theorem dX5_run_123 : decode cX5_run 123 = .ok (.isub, 1) := by decide +kernel
theorem dX5_run_124 : decode cX5_run 124 = .ok (.istore_n 3, 1) := by decide +kernel
theorem dX5_run_125 : decode cX5_run 125 = .ok (.aload_n 0, 1) := by decide +kernel
theorem dX5_run_126 : decode cX5_run 126 = .ok (.getfield 32, 3) := by decide +kernel
theorem dX5_run_129 : decode cX5_run 129 = .ok (.iload_n 3, 1) := by decide +kernel
theorem dX5_run_130 : decode cX5_run 130 = .ok (.iaload, 1) := by decide +kernel
theorem dX5_run_131 : decode cX5_run 131 = .ok (.istore 4, 2) := by decide +kernel
theorem dX5_run_133 : decode cX5_run 133 = .ok (.iload 4, 2) := by decide +kernel
theorem dX5_run_135 : decode cX5_run 135 = .ok (.aload_n 0, 1) := by decide +kernel
theorem dX5_run_136 : decode cX5_run 136 = .ok (.getfield 29, 3) := by decide +kernel
theorem dX5_run_139 : decode cX5_run 139 = .ok (.iload_n 3, 1) := by decide +kernel
theorem dX5_run_140 : decode cX5_run 140 = .ok (.iaload, 1) := by decide +kernel
theorem dX5_run_141 : decode cX5_run 141 = .ok (.if_icmp .lt 16, 3) := by decide +kernel
theorem dX5_run_144 : decode cX5_run 144 = .ok (.aload_n 0, 1) := by decide +kernel
theorem dX5_run_145 : decode cX5_run 145 = .ok (.dup, 1) := by decide +kernel
theorem dX5_run_146 : decode cX5_run 146 = .ok (.getfield 111, 3) := by decide +kernel
theorem dX5_run_149 : decode cX5_run 149 = .ok (.iconst 1, 1) := by decide +kernel
theorem dX5_run_150 : decode cX5_run 150 = .ok (.isub, 1) := by decide +kernel
theorem dX5_run_151 : decode cX5_run 151 = .ok (.putfield 111, 3) := by decide +kernel
theorem dX5_run_154 : decode cX5_run 154 = .ok (.goto 71, 3) := by decide +kernel
theorem dX5_run_157 : decode cX5_run 157 = .ok (.aload_n 0, 1) := by decide +kernel
theorem dX5_run_158 : decode cX5_run 158 = .ok (.aload_n 0, 1) := by decide +kernel
theorem dX5_run_159 : decode cX5_run 159 = .ok (.getfield 26, 3) := by decide +kernel
theorem dX5_run_162 : decode cX5_run 162 = .ok (.sipush 160, 3) := by decide +kernel
theorem dX5_run_165 : decode cX5_run 165 = .ok (.iload_n 3, 1) := by decide +kernel
theorem dX5_run_166 : decode cX5_run 166 = .ok (.imul, 1) := by decide +kernel
theorem dX5_run_167 : decode cX5_run 167 = .ok (.iload 4, 2) := by decide +kernel
theorem dX5_run_169 : decode cX5_run 169 = .ok (.iadd, 1) := by decide +kernel
theorem dX5_run_170 : decode cX5_run 170 = .ok (.iaload, 1) := by decide +kernel
theorem dX5_run_171 : decode cX5_run 171 = .ok (.invokevirtual 114, 3) := by decide +kernel
theorem dX5_run_174 : decode cX5_run 174 = .ok (.ifCond .eq 16, 3) := by decide +kernel
theorem dX5_run_177 : decode cX5_run 177 = .ok (.aload_n 0, 1) := by decide +kernel
theorem dX5_run_178 : decode cX5_run 178 = .ok (.getfield 32, 3) := by decide +kernel
theorem dX5_run_181 : decode cX5_run 181 = .ok (.iload_n 3, 1) := by decide +kernel
theorem dX5_run_182 : decode cX5_run 182 = .ok (.iload 4, 2) := by decide +kernel
theorem dX5_run_184 : decode cX5_run 184 = .ok (.iconst 1, 1) := by decide +kernel
theorem dX5_run_185 : decode cX5_run 185 = .ok (.iadd, 1) := by decide +kernel
theorem dX5_run_186 : decode cX5_run 186 = .ok (.iastore, 1) := by decide +kernel
theorem dX5_run_187 : decode cX5_run 187 = .ok (.goto 38, 3) := by decide +kernel
theorem dX5_run_190 : decode cX5_run 190 = .ok (.aload_n 0, 1) := by decide +kernel
theorem dX5_run_191 : decode cX5_run 191 = .ok (.getfield 215, 3) := by decide +kernel
theorem dX5_run_194 : decode cX5_run 194 = .ok (.iload_n 1, 1) := by decide +kernel
theorem dX5_run_195 : decode cX5_run 195 = .ok (.if_icmp .ne 11, 3) := by decide +kernel
theorem dX5_run_198 : decode cX5_run 198 = .ok (.aload_n 0, 1) := by decide +kernel
theorem dX5_run_199 : decode cX5_run 199 = .ok (.iconst 5, 1) := by decide +kernel
theorem dX5_run_200 : decode cX5_run 200 = .ok (.putfield 48, 3) := by decide +kernel
theorem dX5_run_203 : decode cX5_run 203 = .ok (.goto 22, 3) := by decide +kernel
theorem dX5_run_206 : decode cX5_run 206 = .ok (.aload_n 0, 1) := by decide +kernel
theorem dX5_run_207 : decode cX5_run 207 = .ok (.iload 4, 2) := by decide +kernel
theorem dX5_run_209 : decode cX5_run 209 = .ok (.invokevirtual 219, 3) := by decide +kernel
theorem dX5_run_212 : decode cX5_run 212 = .ok (.ifCond .eq 13, 3) := by decide +kernel
theorem dX5_run_215 : decode cX5_run 215 = .ok (.aload_n 0, 1) := by decide +kernel
theorem dX5_run_216 : decode cX5_run 216 = .ok (.dup, 1) := by decide +kernel
theorem dX5_run_217 : decode cX5_run 217 = .ok (.getfield 215, 3) := by decide +kernel
theorem dX5_run_220 : decode cX5_run 220 = .ok (.iconst 1, 1) := by decide +kernel
theorem dX5_run_221 : decode cX5_run 221 = .ok (.iadd, 1) := by decide +kernel
theorem dX5_run_222 : decode cX5_run 222 = .ok (.putfield 215, 3) := by decide +kernel
theorem dX5_run_225 : decode cX5_run 225 = .ok (.iinc 2 1, 3) := by decide +kernel
theorem dX5_run_228 : decode cX5_run 228 = .ok (.goto (-137), 3) := by decide +kernel
theorem dX5_run_231 : decode cX5_run 231 = .ok (.aload_n 0, 1) := by decide +kernel
theorem dX5_run_232 : decode cX5_run 232 = .ok (.aload_n 0, 1) := by decide +kernel
theorem dX5_run_233 : decode cX5_run 233 = .ok (.getfield 48, 3) := by decide +kernel
theorem dX5_run_236 : decode cX5_run 236 = .ok (.putfield 41, 3) := by decide +kernel
theorem dX5_run_239 : decode cX5_run 239 = .ok (.aload_n 0, 1) := by decide +kernel
theorem dX5_run_240 : decode cX5_run 240 = .ok (.getfield 48, 3) := by decide +kernel
theorem dX5_run_243 : decode cX5_run 243 = .ok (.ifCond .le 7, 3) := by decide +kernel
theorem dX5_run_246 : decode cX5_run 246 = .ok (.iconst 0, 1) := by decide +kernel
theorem dX5_run_247 : decode cX5_run 247 = .ok (.goto 7, 3) := by decide +kernel
theorem dX5_run_250 : decode cX5_run 250 = .ok (.aload_n 0, 1) := by decide +kernel
theorem dX5_run_251 : decode cX5_run 251 = .ok (.getfield 215, 3) := by decide +kernel
theorem dX5_run_254 : decode cX5_run 254 = .ok (.ireturn, 1) := by decide +kernel
theorem dX5_cost_0 : decode cX5_cost 0 = .ok (.aload_n 0, 1) := by decide +kernel
theorem dX5_cost_1 : decode cX5_cost 1 = .ok (.iconst 0, 1) := by decide +kernel
theorem dX5_cost_2 : decode cX5_cost 2 = .ok (.putfield 41, 3) := by decide +kernel
theorem dX5_cost_5 : decode cX5_cost 5 = .ok (.aload_n 0, 1) := by decide +kernel
theorem dX5_cost_6 : decode cX5_cost 6 = .ok (.getfield 215, 3) := by decide +kernel
theorem dX5_cost_9 : decode cX5_cost 9 = .ok (.ireturn, 1) := by decide +kernel
theorem dX5_prints_0 : decode cX5_prints 0 = .ok (.aload_n 0, 1) := by decide +kernel
theorem dX5_prints_1 : decode cX5_prints 1 = .ok (.iconst 0, 1) := by decide +kernel
theorem dX5_prints_2 : decode cX5_prints 2 = .ok (.putfield 41, 3) := by decide +kernel
theorem dX5_prints_5 : decode cX5_prints 5 = .ok (.aload_n 0, 1) := by decide +kernel
theorem dX5_prints_6 : decode cX5_prints 6 = .ok (.getfield 157, 3) := by decide +kernel
theorem dX5_prints_9 : decode cX5_prints 9 = .ok (.ireturn, 1) := by decide +kernel
set_option maxRecDepth 20000 in
theorem ggX5_printed_X5_within : GoodIn wsX5_printed wsX5_within := goodIn_r _ [7] (by decide +kernel) (by decide +kernel)
set_option maxRecDepth 20000 in
theorem gX5_printed_X5_within : GoodIn wsX5_printed (va_wsS RX5 127 yX5_within wsX5_within) := goodIn_app (goodIn_of _ (by decide +kernel)) ggX5_printed_X5_within
theorem dX5_printed_0 : decode cX5_printed 0 = .ok (.aload_n 0, 1) := by decide +kernel
theorem dX5_printed_1 : decode cX5_printed 1 = .ok (.iconst 0, 1) := by decide +kernel
theorem dX5_printed_2 : decode cX5_printed 2 = .ok (.putfield 41, 3) := by decide +kernel
theorem dX5_printed_5 : decode cX5_printed 5 = .ok (.iload_n 1, 1) := by decide +kernel
theorem dX5_printed_6 : decode cX5_printed 6 = .ok (.i2l, 1) := by decide +kernel
theorem dX5_printed_7 : decode cX5_printed 7 = .ok (.lconst 0, 1) := by decide +kernel
theorem dX5_printed_8 : decode cX5_printed 8 = .ok (.aload_n 0, 1) := by decide +kernel
theorem dX5_printed_9 : decode cX5_printed 9 = .ok (.getfield 157, 3) := by decide +kernel
theorem dX5_printed_12 : decode cX5_printed 12 = .ok (.iconst 1, 1) := by decide +kernel
theorem dX5_printed_13 : decode cX5_printed 13 = .ok (.isub, 1) := by decide +kernel
theorem dX5_printed_14 : decode cX5_printed 14 = .ok (.i2l, 1) := by decide +kernel
theorem dX5_printed_15 : decode cX5_printed 15 = .ok (.invokestatic 127, 3) := by decide +kernel
theorem dX5_printed_18 : decode cX5_printed 18 = .ok (.ifCond .eq 12, 3) := by decide +kernel
theorem dX5_printed_21 : decode cX5_printed 21 = .ok (.aload_n 0, 1) := by decide +kernel
theorem dX5_printed_22 : decode cX5_printed 22 = .ok (.getfield 35, 3) := by decide +kernel
theorem dX5_printed_25 : decode cX5_printed 25 = .ok (.iload_n 1, 1) := by decide +kernel
theorem dX5_printed_26 : decode cX5_printed 26 = .ok (.laload, 1) := by decide +kernel
theorem dX5_printed_27 : decode cX5_printed 27 = .ok (.goto 4, 3) := by decide +kernel
theorem dX5_printed_30 : decode cX5_printed 30 = .ok (.lconst 0, 1) := by decide +kernel
theorem dX5_printed_31 : decode cX5_printed 31 = .ok (.lreturn, 1) := by decide +kernel
set_option maxRecDepth 20000 in
theorem ggX5_places_X5_within : GoodIn wsX5_places wsX5_within := goodIn_r _ [7] (by decide +kernel) (by decide +kernel)
set_option maxRecDepth 20000 in
theorem gX5_places_X5_within : GoodIn wsX5_places (va_wsS RX5 127 yX5_within wsX5_within) := goodIn_app (goodIn_of _ (by decide +kernel)) ggX5_places_X5_within
theorem dX5_places_0 : decode cX5_places 0 = .ok (.aload_n 0, 1) := by decide +kernel
theorem dX5_places_1 : decode cX5_places 1 = .ok (.iconst 0, 1) := by decide +kernel
theorem dX5_places_2 : decode cX5_places 2 = .ok (.putfield 41, 3) := by decide +kernel
theorem dX5_places_5 : decode cX5_places 5 = .ok (.iload_n 1, 1) := by decide +kernel
theorem dX5_places_6 : decode cX5_places 6 = .ok (.i2l, 1) := by decide +kernel
theorem dX5_places_7 : decode cX5_places 7 = .ok (.lconst 0, 1) := by decide +kernel
theorem dX5_places_8 : decode cX5_places 8 = .ok (.aload_n 0, 1) := by decide +kernel
theorem dX5_places_9 : decode cX5_places 9 = .ok (.getfield 157, 3) := by decide +kernel
theorem dX5_places_12 : decode cX5_places 12 = .ok (.iconst 1, 1) := by decide +kernel
theorem dX5_places_13 : decode cX5_places 13 = .ok (.isub, 1) := by decide +kernel
theorem dX5_places_14 : decode cX5_places 14 = .ok (.i2l, 1) := by decide +kernel
theorem dX5_places_15 : decode cX5_places 15 = .ok (.invokestatic 127, 3) := by decide +kernel
theorem dX5_places_18 : decode cX5_places 18 = .ok (.ifCond .eq 12, 3) := by decide +kernel
theorem dX5_places_21 : decode cX5_places 21 = .ok (.aload_n 0, 1) := by decide +kernel
theorem dX5_places_22 : decode cX5_places 22 = .ok (.getfield 38, 3) := by decide +kernel
theorem dX5_places_25 : decode cX5_places 25 = .ok (.iload_n 1, 1) := by decide +kernel
theorem dX5_places_26 : decode cX5_places 26 = .ok (.iaload, 1) := by decide +kernel
theorem dX5_places_27 : decode cX5_places 27 = .ok (.goto 5, 3) := by decide +kernel
theorem dX5_places_30 : decode cX5_places 30 = .ok (.bipush (-2), 2) := by decide +kernel
theorem dX5_places_32 : decode cX5_places 32 = .ok (.ireturn, 1) := by decide +kernel
theorem dX5_depth_0 : decode cX5_depth 0 = .ok (.aload_n 0, 1) := by decide +kernel
theorem dX5_depth_1 : decode cX5_depth 1 = .ok (.iconst 0, 1) := by decide +kernel
theorem dX5_depth_2 : decode cX5_depth 2 = .ok (.putfield 41, 3) := by decide +kernel
theorem dX5_depth_5 : decode cX5_depth 5 = .ok (.aload_n 0, 1) := by decide +kernel
theorem dX5_depth_6 : decode cX5_depth 6 = .ok (.getfield 51, 3) := by decide +kernel
theorem dX5_depth_9 : decode cX5_depth 9 = .ok (.ireturn, 1) := by decide +kernel
set_option maxRecDepth 20000 in
theorem ggX5_item_X5_within : GoodIn wsX5_item wsX5_within := goodIn_r _ [7] (by decide +kernel) (by decide +kernel)
set_option maxRecDepth 20000 in
theorem gX5_item_X5_within : GoodIn wsX5_item (va_wsS RX5 127 yX5_within wsX5_within) := goodIn_app (goodIn_of _ (by decide +kernel)) ggX5_item_X5_within
theorem dX5_item_0 : decode cX5_item 0 = .ok (.aload_n 0, 1) := by decide +kernel
theorem dX5_item_1 : decode cX5_item 1 = .ok (.iconst 0, 1) := by decide +kernel
theorem dX5_item_2 : decode cX5_item 2 = .ok (.putfield 41, 3) := by decide +kernel
theorem dX5_item_5 : decode cX5_item 5 = .ok (.iload_n 1, 1) := by decide +kernel
theorem dX5_item_6 : decode cX5_item 6 = .ok (.i2l, 1) := by decide +kernel
theorem dX5_item_7 : decode cX5_item 7 = .ok (.lconst 0, 1) := by decide +kernel
theorem dX5_item_8 : decode cX5_item 8 = .ok (.aload_n 0, 1) := by decide +kernel
theorem dX5_item_9 : decode cX5_item 9 = .ok (.getfield 51, 3) := by decide +kernel
theorem dX5_item_12 : decode cX5_item 12 = .ok (.iconst 1, 1) := by decide +kernel
theorem dX5_item_13 : decode cX5_item 13 = .ok (.isub, 1) := by decide +kernel
theorem dX5_item_14 : decode cX5_item 14 = .ok (.i2l, 1) := by decide +kernel
theorem dX5_item_15 : decode cX5_item 15 = .ok (.invokestatic 127, 3) := by decide +kernel
theorem dX5_item_18 : decode cX5_item 18 = .ok (.ifCond .eq 19, 3) := by decide +kernel
theorem dX5_item_21 : decode cX5_item 21 = .ok (.aload_n 0, 1) := by decide +kernel
theorem dX5_item_22 : decode cX5_item 22 = .ok (.getfield 13, 3) := by decide +kernel
theorem dX5_item_25 : decode cX5_item 25 = .ok (.aload_n 0, 1) := by decide +kernel
theorem dX5_item_26 : decode cX5_item 26 = .ok (.getfield 51, 3) := by decide +kernel
theorem dX5_item_29 : decode cX5_item 29 = .ok (.iconst 1, 1) := by decide +kernel
theorem dX5_item_30 : decode cX5_item 30 = .ok (.isub, 1) := by decide +kernel
theorem dX5_item_31 : decode cX5_item 31 = .ok (.iload_n 1, 1) := by decide +kernel
theorem dX5_item_32 : decode cX5_item 32 = .ok (.isub, 1) := by decide +kernel
theorem dX5_item_33 : decode cX5_item 33 = .ok (.laload, 1) := by decide +kernel
theorem dX5_item_34 : decode cX5_item 34 = .ok (.goto 4, 3) := by decide +kernel
theorem dX5_item_37 : decode cX5_item 37 = .ok (.lconst 0, 1) := by decide +kernel
theorem dX5_item_38 : decode cX5_item 38 = .ok (.lreturn, 1) := by decide +kernel
set_option maxRecDepth 20000 in
theorem ggX5_scale_X5_within : GoodIn wsX5_scale wsX5_within := goodIn_r _ [7] (by decide +kernel) (by decide +kernel)
set_option maxRecDepth 20000 in
theorem gX5_scale_X5_within : GoodIn wsX5_scale (va_wsS RX5 127 yX5_within wsX5_within) := goodIn_app (goodIn_of _ (by decide +kernel)) ggX5_scale_X5_within
theorem dX5_scale_0 : decode cX5_scale 0 = .ok (.aload_n 0, 1) := by decide +kernel
theorem dX5_scale_1 : decode cX5_scale 1 = .ok (.iconst 0, 1) := by decide +kernel
theorem dX5_scale_2 : decode cX5_scale 2 = .ok (.putfield 41, 3) := by decide +kernel
theorem dX5_scale_5 : decode cX5_scale 5 = .ok (.iload_n 1, 1) := by decide +kernel
theorem dX5_scale_6 : decode cX5_scale 6 = .ok (.i2l, 1) := by decide +kernel
theorem dX5_scale_7 : decode cX5_scale 7 = .ok (.lconst 0, 1) := by decide +kernel
theorem dX5_scale_8 : decode cX5_scale 8 = .ok (.aload_n 0, 1) := by decide +kernel
theorem dX5_scale_9 : decode cX5_scale 9 = .ok (.getfield 51, 3) := by decide +kernel
theorem dX5_scale_12 : decode cX5_scale 12 = .ok (.iconst 1, 1) := by decide +kernel
theorem dX5_scale_13 : decode cX5_scale 13 = .ok (.isub, 1) := by decide +kernel
theorem dX5_scale_14 : decode cX5_scale 14 = .ok (.i2l, 1) := by decide +kernel
theorem dX5_scale_15 : decode cX5_scale 15 = .ok (.invokestatic 127, 3) := by decide +kernel
theorem dX5_scale_18 : decode cX5_scale 18 = .ok (.ifCond .eq 19, 3) := by decide +kernel
theorem dX5_scale_21 : decode cX5_scale 21 = .ok (.aload_n 0, 1) := by decide +kernel
theorem dX5_scale_22 : decode cX5_scale 22 = .ok (.getfield 17, 3) := by decide +kernel
theorem dX5_scale_25 : decode cX5_scale 25 = .ok (.aload_n 0, 1) := by decide +kernel
theorem dX5_scale_26 : decode cX5_scale 26 = .ok (.getfield 51, 3) := by decide +kernel
theorem dX5_scale_29 : decode cX5_scale 29 = .ok (.iconst 1, 1) := by decide +kernel
theorem dX5_scale_30 : decode cX5_scale 30 = .ok (.isub, 1) := by decide +kernel
theorem dX5_scale_31 : decode cX5_scale 31 = .ok (.iload_n 1, 1) := by decide +kernel
theorem dX5_scale_32 : decode cX5_scale 32 = .ok (.isub, 1) := by decide +kernel
theorem dX5_scale_33 : decode cX5_scale 33 = .ok (.iaload, 1) := by decide +kernel
theorem dX5_scale_34 : decode cX5_scale 34 = .ok (.goto 5, 3) := by decide +kernel
theorem dX5_scale_37 : decode cX5_scale 37 = .ok (.bipush (-2), 2) := by decide +kernel
theorem dX5_scale_39 : decode cX5_scale 39 = .ok (.ireturn, 1) := by decide +kernel
set_option maxRecDepth 20000 in
theorem ggX5_held_X5_within : GoodIn wsX5_held wsX5_within := goodIn_r _ [7] (by decide +kernel) (by decide +kernel)
set_option maxRecDepth 20000 in
theorem gX5_held_X5_within : GoodIn wsX5_held (va_wsS RX5 127 yX5_within wsX5_within) := goodIn_app (goodIn_of _ (by decide +kernel)) ggX5_held_X5_within
theorem dX5_held_0 : decode cX5_held 0 = .ok (.aload_n 0, 1) := by decide +kernel
theorem dX5_held_1 : decode cX5_held 1 = .ok (.iconst 0, 1) := by decide +kernel
theorem dX5_held_2 : decode cX5_held 2 = .ok (.putfield 41, 3) := by decide +kernel
theorem dX5_held_5 : decode cX5_held 5 = .ok (.iload_n 1, 1) := by decide +kernel
theorem dX5_held_6 : decode cX5_held 6 = .ok (.i2l, 1) := by decide +kernel
theorem dX5_held_7 : decode cX5_held 7 = .ok (.lconst 0, 1) := by decide +kernel
theorem dX5_held_8 : decode cX5_held 8 = .ok (.ldc2_w 222, 3) := by decide +kernel
theorem dX5_held_11 : decode cX5_held 11 = .ok (.invokestatic 127, 3) := by decide +kernel
theorem dX5_held_14 : decode cX5_held 14 = .ok (.ifCond .eq 12, 3) := by decide +kernel
theorem dX5_held_17 : decode cX5_held 17 = .ok (.aload_n 0, 1) := by decide +kernel
theorem dX5_held_18 : decode cX5_held 18 = .ok (.getfield 23, 3) := by decide +kernel
theorem dX5_held_21 : decode cX5_held 21 = .ok (.iload_n 1, 1) := by decide +kernel
theorem dX5_held_22 : decode cX5_held 22 = .ok (.iaload, 1) := by decide +kernel
theorem dX5_held_23 : decode cX5_held 23 = .ok (.goto 4, 3) := by decide +kernel
theorem dX5_held_26 : decode cX5_held 26 = .ok (.iconst (-1), 1) := by decide +kernel
theorem dX5_held_27 : decode cX5_held 27 = .ok (.ireturn, 1) := by decide +kernel
theorem dX5_precision_0 : decode cX5_precision 0 = .ok (.aload_n 0, 1) := by decide +kernel
theorem dX5_precision_1 : decode cX5_precision 1 = .ok (.iconst 0, 1) := by decide +kernel
theorem dX5_precision_2 : decode cX5_precision 2 = .ok (.putfield 41, 3) := by decide +kernel
theorem dX5_precision_5 : decode cX5_precision 5 = .ok (.aload_n 0, 1) := by decide +kernel
theorem dX5_precision_6 : decode cX5_precision 6 = .ok (.getfield 93, 3) := by decide +kernel
theorem dX5_precision_9 : decode cX5_precision 9 = .ok (.ireturn, 1) := by decide +kernel
theorem dX5_reset_0 : decode cX5_reset 0 = .ok (.aload_n 0, 1) := by decide +kernel
theorem dX5_reset_1 : decode cX5_reset 1 = .ok (.iconst 0, 1) := by decide +kernel
theorem dX5_reset_2 : decode cX5_reset 2 = .ok (.putfield 41, 3) := by decide +kernel
theorem dX5_reset_5 : decode cX5_reset 5 = .ok (.aload_n 0, 1) := by decide +kernel
theorem dX5_reset_6 : decode cX5_reset 6 = .ok (.iconst 0, 1) := by decide +kernel
theorem dX5_reset_7 : decode cX5_reset 7 = .ok (.putfield 51, 3) := by decide +kernel
theorem dX5_reset_10 : decode cX5_reset 10 = .ok (.aload_n 0, 1) := by decide +kernel
theorem dX5_reset_11 : decode cX5_reset 11 = .ok (.iconst 0, 1) := by decide +kernel
theorem dX5_reset_12 : decode cX5_reset 12 = .ok (.putfield 93, 3) := by decide +kernel
theorem dX5_reset_15 : decode cX5_reset 15 = .ok (.aload_n 0, 1) := by decide +kernel
theorem dX5_reset_16 : decode cX5_reset 16 = .ok (.iconst 0, 1) := by decide +kernel
theorem dX5_reset_17 : decode cX5_reset 17 = .ok (.putfield 157, 3) := by decide +kernel
theorem dX5_reset_20 : decode cX5_reset 20 = .ok (.iconst 0, 1) := by decide +kernel
theorem dX5_reset_21 : decode cX5_reset 21 = .ok (.istore_n 1, 1) := by decide +kernel
theorem dX5_reset_22 : decode cX5_reset 22 = .ok (.iload_n 1, 1) := by decide +kernel
theorem dX5_reset_23 : decode cX5_reset 23 = .ok (.iconst 4, 1) := by decide +kernel
theorem dX5_reset_24 : decode cX5_reset 24 = .ok (.if_icmp .ge 16, 3) := by decide +kernel
theorem dX5_reset_27 : decode cX5_reset 27 = .ok (.aload_n 0, 1) := by decide +kernel
theorem dX5_reset_28 : decode cX5_reset 28 = .ok (.getfield 23, 3) := by decide +kernel
theorem dX5_reset_31 : decode cX5_reset 31 = .ok (.iload_n 1, 1) := by decide +kernel
theorem dX5_reset_32 : decode cX5_reset 32 = .ok (.iconst 0, 1) := by decide +kernel
theorem dX5_reset_33 : decode cX5_reset 33 = .ok (.iastore, 1) := by decide +kernel
theorem dX5_reset_34 : decode cX5_reset 34 = .ok (.iinc 1 1, 3) := by decide +kernel
theorem dX5_reset_37 : decode cX5_reset 37 = .ok (.goto (-15), 3) := by decide +kernel
theorem dX5_reset_40 : decode cX5_reset 40 = .ok (.return_, 1) := by decide +kernel
theorem dJ13_compare_74951_0 : decode cJ13_compare_74951 0 = .ok (.lload_n 0, 1) := by decide +kernel
theorem dJ13_compare_74951_1 : decode cJ13_compare_74951 1 = .ok (.lload_n 2, 1) := by decide +kernel
theorem dJ13_compare_74951_2 : decode cJ13_compare_74951 2 = .ok (.lcmp, 1) := by decide +kernel
theorem dJ13_compare_74951_3 : decode cJ13_compare_74951 3 = .ok (.ifCond .ge 7, 3) := by decide +kernel
theorem dJ13_compare_74951_6 : decode cJ13_compare_74951 6 = .ok (.iconst (-1), 1) := by decide +kernel
theorem dJ13_compare_74951_7 : decode cJ13_compare_74951 7 = .ok (.goto 14, 3) := by decide +kernel
theorem dJ13_compare_74951_10 : decode cJ13_compare_74951 10 = .ok (.lload_n 0, 1) := by decide +kernel
theorem dJ13_compare_74951_11 : decode cJ13_compare_74951 11 = .ok (.lload_n 2, 1) := by decide +kernel
theorem dJ13_compare_74951_12 : decode cJ13_compare_74951 12 = .ok (.lcmp, 1) := by decide +kernel
theorem dJ13_compare_74951_13 : decode cJ13_compare_74951 13 = .ok (.ifCond .ne 7, 3) := by decide +kernel
theorem dJ13_compare_74951_16 : decode cJ13_compare_74951 16 = .ok (.iconst 0, 1) := by decide +kernel
theorem dJ13_compare_74951_17 : decode cJ13_compare_74951 17 = .ok (.goto 4, 3) := by decide +kernel
theorem dJ13_compare_74951_20 : decode cJ13_compare_74951 20 = .ok (.iconst 1, 1) := by decide +kernel
theorem dJ13_compare_74951_21 : decode cJ13_compare_74951 21 = .ok (.ireturn, 1) := by decide +kernel
theorem dJ9_abs_067f4_0 : decode cJ9_abs_067f4 0 = .ok (.lload_n 0, 1) := by decide +kernel
theorem dJ9_abs_067f4_1 : decode cJ9_abs_067f4 1 = .ok (.lconst 0, 1) := by decide +kernel
theorem dJ9_abs_067f4_2 : decode cJ9_abs_067f4 2 = .ok (.lcmp, 1) := by decide +kernel
theorem dJ9_abs_067f4_3 : decode cJ9_abs_067f4 3 = .ok (.ifCond .ge 8, 3) := by decide +kernel
theorem dJ9_abs_067f4_6 : decode cJ9_abs_067f4 6 = .ok (.lload_n 0, 1) := by decide +kernel
theorem dJ9_abs_067f4_7 : decode cJ9_abs_067f4 7 = .ok (.lneg, 1) := by decide +kernel
theorem dJ9_abs_067f4_8 : decode cJ9_abs_067f4 8 = .ok (.goto 4, 3) := by decide +kernel
theorem dJ9_abs_067f4_11 : decode cJ9_abs_067f4 11 = .ok (.lload_n 0, 1) := by decide +kernel
theorem dJ9_abs_067f4_12 : decode cJ9_abs_067f4 12 = .ok (.lreturn, 1) := by decide +kernel
theorem dJ9_max_7cf53_0 : decode cJ9_max_7cf53 0 = .ok (.iload_n 0, 1) := by decide +kernel
theorem dJ9_max_7cf53_1 : decode cJ9_max_7cf53 1 = .ok (.iload_n 1, 1) := by decide +kernel
theorem dJ9_max_7cf53_2 : decode cJ9_max_7cf53 2 = .ok (.if_icmp .lt 7, 3) := by decide +kernel
theorem dJ9_max_7cf53_5 : decode cJ9_max_7cf53 5 = .ok (.iload_n 0, 1) := by decide +kernel
theorem dJ9_max_7cf53_6 : decode cJ9_max_7cf53 6 = .ok (.goto 4, 3) := by decide +kernel
theorem dJ9_max_7cf53_9 : decode cJ9_max_7cf53 9 = .ok (.iload_n 1, 1) := by decide +kernel
theorem dJ9_max_7cf53_10 : decode cJ9_max_7cf53 10 = .ok (.ireturn, 1) := by decide +kernel
theorem dJ9_min_7cf53_0 : decode cJ9_min_7cf53 0 = .ok (.iload_n 0, 1) := by decide +kernel
theorem dJ9_min_7cf53_1 : decode cJ9_min_7cf53 1 = .ok (.iload_n 1, 1) := by decide +kernel
theorem dJ9_min_7cf53_2 : decode cJ9_min_7cf53 2 = .ok (.if_icmp .gt 7, 3) := by decide +kernel
theorem dJ9_min_7cf53_5 : decode cJ9_min_7cf53 5 = .ok (.iload_n 0, 1) := by decide +kernel
theorem dJ9_min_7cf53_6 : decode cJ9_min_7cf53 6 = .ok (.goto 4, 3) := by decide +kernel
theorem dJ9_min_7cf53_9 : decode cJ9_min_7cf53 9 = .ok (.iload_n 1, 1) := by decide +kernel
theorem dJ9_min_7cf53_10 : decode cJ9_min_7cf53 10 = .ok (.ireturn, 1) := by decide +kernel
set_option maxRecDepth 20000 in
theorem ggL_run_X4_run : GoodIn wsL_run wsX4_run := goodIn_ca (goodIn_ca (goodIn_ca (goodIn_ca (goodIn_ca (goodIn_ca (goodIn_ca (goodIn_ca (goodIn_r _ [10, 11, 12, 13, 14, 15, 16, 17, 18, 19, 20, 21, 22, 23, 24, 25, 26, 27, 28, 29, 30, 31, 32, 33, 34, 35, 36, 37, 38, 39, 40, 41, 42, 43, 44, 45, 46, 47, 48, 49, 50, 51, 52, 53, 54, 55, 56, 57, 58, 59, 60, 61, 62, 63, 64, 65, 66, 67, 68, 69, 70, 71, 72, 73, 74, 75, 76, 9, 77, 78, 79, 80, 81, 82, 83, 84, 85, 86, 87, 88, 89, 90, 91, 92, 93, 94, 95, 96, 97, 98, 99, 100, 101, 102, 103, 104, 105, 106, 107, 108, 109, 110, 111, 112, 113, 114, 115, 116, 117, 118, 119, 120, 121, 122, 123, 124, 125, 126, 127, 128, 129, 130, 131, 132, 133, 134, 135, 136, 137, 138, 139, 140, 141, 142, 143, 144, 145, 146, 147, 148, 149, 150, 151, 152, 153, 154, 155, 156, 157, 158, 159, 160, 161, 162, 163, 164, 165, 166, 167, 168, 169, 170, 171, 172, 173, 174, 175, 176, 177, 178, 179, 180, 181, 182, 183, 184, 185, 186, 187, 188, 189, 190, 191, 192, 193, 194, 195, 196, 197, 198, 199, 200, 201, 202, 203, 204, 205, 206, 207, 208, 209, 210, 211, 212, 213, 214, 215, 216, 217, 218, 219, 220, 221, 222, 223, 224, 225, 226, 227, 228, 229, 230, 231, 232, 233, 234, 235, 236, 237, 238, 239, 240, 241, 242, 243, 244, 245, 246, 247, 248, 249, 250, 251, 252, 253, 254, 255, 256, 257, 258, 259, 260, 261, 262, 263, 264, 265, 266, 267, 268, 269, 270, 271, 272, 273, 274, 275, 276, 277, 278, 279, 280, 281, 282, 283, 284, 285, 286, 287, 288, 289, 290, 291, 292, 293, 294, 295, 296, 297, 298, 299, 300, 301, 302, 303, 304, 305, 306] (by decide +kernel) (by decide +kernel)) (goodIn_sub (fun _ h => List.mem_cons_of_mem _ (List.mem_append_left _ (List.mem_append_left _ (List.mem_append_left _ (List.mem_append_left _ (List.mem_append_left _ (List.mem_append_left _ (List.mem_append_left _ (List.mem_append_right _ h))))))))) (by decide +kernel))) (goodIn_sub (fun _ h => List.mem_cons_of_mem _ (List.mem_append_left _ (List.mem_append_left _ (List.mem_append_left _ (List.mem_append_left _ (List.mem_append_left _ (List.mem_append_left _ (List.mem_append_right _ h)))))))) (by decide +kernel))) (goodIn_sub (fun _ h => List.mem_cons_of_mem _ (List.mem_append_left _ (List.mem_append_left _ (List.mem_append_left _ (List.mem_append_left _ (List.mem_append_left _ (List.mem_append_right _ h))))))) (by decide +kernel))) (goodIn_sub (fun _ h => List.mem_cons_of_mem _ (List.mem_append_left _ (List.mem_append_left _ (List.mem_append_left _ (List.mem_append_left _ (List.mem_append_right _ h)))))) (by decide +kernel))) (goodIn_sub (fun _ h => List.mem_cons_of_mem _ (List.mem_append_left _ (List.mem_append_left _ (List.mem_append_left _ (List.mem_append_right _ h))))) (by decide +kernel))) (goodIn_sub (fun _ h => List.mem_cons_of_mem _ (List.mem_append_left _ (List.mem_append_left _ (List.mem_append_right _ h)))) (by decide +kernel))) (goodIn_sub (fun _ h => List.mem_cons_of_mem _ (List.mem_append_left _ (List.mem_append_right _ h))) (by decide +kernel))) (goodIn_sub (fun _ h => List.mem_cons_of_mem _ (List.mem_append_right _ h)) (by decide +kernel))
set_option maxRecDepth 20000 in
theorem gL_run_X4_run : GoodIn wsL_run (wsV RL 7 RX4 yX4_run wsX4_run) := goodIn_app (goodIn_of _ (by decide +kernel)) ggL_run_X4_run
theorem dL_run_0 : decode cL_run 0 = .ok (.aload_n 2, 1) := by decide +kernel
theorem dL_run_1 : decode cL_run 1 = .ok (.iconst 0, 1) := by decide +kernel
theorem dL_run_2 : decode cL_run 2 = .ok (.aload_n 0, 1) := by decide +kernel
theorem dL_run_3 : decode cL_run 3 = .ok (.iload_n 1, 1) := by decide +kernel
theorem dL_run_4 : decode cL_run 4 = .ok (.invokevirtual 7, 3) := by decide +kernel
theorem dL_run_7 : decode cL_run 7 = .ok (.i2l, 1) := by decide +kernel
theorem dL_run_8 : decode cL_run 8 = .ok (.lastore, 1) := by decide +kernel
theorem dL_run_9 : decode cL_run 9 = .ok (.goto 18, 3) := by decide +kernel
theorem dL_run_12 : decode cL_run 12 = .ok (.astore_n 3, 1) := by decide +kernel
theorem dL_run_13 : decode cL_run 13 = .ok (.iconst 1, 1) := by decide +kernel
theorem dL_run_14 : decode cL_run 14 = .ok (.ireturn, 1) := by decide +kernel
theorem dL_run_15 : decode cL_run 15 = .ok (.astore_n 3, 1) := by decide +kernel
theorem dL_run_16 : decode cL_run 16 = .ok (.iconst 2, 1) := by decide +kernel
theorem dL_run_17 : decode cL_run 17 = .ok (.ireturn, 1) := by decide +kernel
theorem dL_run_18 : decode cL_run 18 = .ok (.astore_n 3, 1) := by decide +kernel
theorem dL_run_19 : decode cL_run 19 = .ok (.iconst 3, 1) := by decide +kernel
theorem dL_run_20 : decode cL_run 20 = .ok (.ireturn, 1) := by decide +kernel
theorem dL_run_21 : decode cL_run 21 = .ok (.astore_n 3, 1) := by decide +kernel
theorem dL_run_22 : decode cL_run 22 = .ok (.iconst 4, 1) := by decide +kernel
theorem dL_run_23 : decode cL_run 23 = .ok (.ireturn, 1) := by decide +kernel
theorem dL_run_24 : decode cL_run 24 = .ok (.astore_n 3, 1) := by decide +kernel
theorem dL_run_25 : decode cL_run 25 = .ok (.iconst 5, 1) := by decide +kernel
theorem dL_run_26 : decode cL_run 26 = .ok (.ireturn, 1) := by decide +kernel
theorem dL_run_27 : decode cL_run 27 = .ok (.iconst 0, 1) := by decide +kernel
theorem dL_run_28 : decode cL_run 28 = .ok (.ireturn, 1) := by decide +kernel
