set_option maxRecDepth 20000 in
theorem ggL_isWell_X4_place : GoodIn wsL_isWell wsX4_place := goodIn_r _ [5, 6, 7, 8, 9, 10, 11, 12, 13, 14, 15, 16, 17, 18, 19, 20, 21, 22, 23, 24, 25, 26, 4, 27, 28, 29, 30, 31, 136, 137, 138, 139, 140, 141, 142, 143, 144, 145, 146, 147, 148, 149, 150, 151, 152, 153, 154, 155, 156, 157, 158] (by decide +kernel) (by decide +kernel)
set_option maxRecDepth 20000 in
theorem gL_isWell_X4_place : GoodIn wsL_isWell (wsV RL 57 RX4 yX4_place wsX4_place) := goodIn_app (goodIn_of _ (by decide +kernel)) ggL_isWell_X4_place
set_option maxRecDepth 20000 in
theorem ggL_isWell_X4_breaksIn : GoodIn wsL_isWell wsX4_breaksIn := goodIn_r _ [35, 6, 36, 37, 13, 38, 39, 40, 41, 42, 43, 44, 16, 45, 46, 47, 48, 49, 50, 51, 52, 53, 54, 55, 56, 57, 8, 58, 59, 11, 60, 61, 62, 63, 64, 65, 66, 67, 68, 69, 70, 71, 72, 73, 74, 75, 76, 77, 7, 9, 10, 78, 79, 80, 81, 82, 83, 84, 85, 86, 87, 88, 89, 90, 91, 92, 93, 94, 95, 96, 97, 98, 99, 100, 101, 102, 103, 104, 105, 106, 107, 26, 4, 27, 136, 137, 138, 139, 140, 141, 142, 143, 144, 145, 146, 147, 148, 149, 150, 151, 152, 153, 154, 155, 156, 157, 158] (by decide +kernel) (by decide +kernel)
set_option maxRecDepth 20000 in
theorem gL_isWell_X4_breaksIn : GoodIn wsL_isWell (wsV RL 54 RX4 yX4_breaksIn wsX4_breaksIn) := goodIn_app (goodIn_of _ (by decide +kernel)) ggL_isWell_X4_breaksIn
set_option maxRecDepth 20000 in
theorem ggL_isWell_X4_count : GoodIn wsL_isWell wsX4_count := goodIn_r _ [111, 6, 112, 113, 75, 8, 76, 77, 63, 114, 115, 116, 25, 26, 4, 27, 37, 13, 38, 39, 40, 68, 69, 70, 62, 117, 118, 119, 11, 120, 102, 83, 103, 121, 122, 123, 124, 17, 18, 19, 20, 21, 22, 23, 24, 7, 9, 10, 125, 126, 127, 16, 94, 95, 96, 49, 136, 137, 138, 139, 140, 141, 142, 143, 144, 145, 146, 147, 148, 149, 150, 151, 152, 153, 154, 155, 156, 157, 158, 159, 160, 161, 162, 163, 164, 165, 166, 167, 168] (by decide +kernel) (by decide +kernel)
set_option maxRecDepth 20000 in
theorem gL_isWell_X4_count : GoodIn wsL_isWell (wsV RL 9 RX4 yX4_count wsX4_count) := goodIn_app (goodIn_of _ (by decide +kernel)) ggL_isWell_X4_count
set_option maxRecDepth 20000 in
theorem ggL_isWell_X4_wrong : GoodIn wsL_isWell wsX4_wrong := goodIn_r _ [131, 6, 37, 13, 38, 39, 40, 132, 133, 134, 135, 28, 29, 30, 31, 12, 14, 15, 16, 121, 8, 122, 123, 124, 17, 18, 19, 20, 21, 22, 23, 24, 7, 9, 10, 11, 26, 4, 27, 117, 118, 119, 62, 120, 102, 83, 103, 136, 137, 138, 139, 140, 141, 142, 143, 144, 145, 146, 147, 148, 149, 150, 151, 152, 153, 154, 155, 156, 157, 158] (by decide +kernel) (by decide +kernel)
set_option maxRecDepth 20000 in
theorem gL_isWell_X4_wrong : GoodIn wsL_isWell (wsV RL 51 RX4 yX4_wrong wsX4_wrong) := goodIn_app (goodIn_of _ (by decide +kernel)) ggL_isWell_X4_wrong
theorem dL_isWell_0 : decode cL_isWell 0 = .ok (.iconst 0, 1) := by decide +kernel
theorem dL_isWell_1 : decode cL_isWell 1 = .ok (.istore_n 1, 1) := by decide +kernel
theorem dL_isWell_2 : decode cL_isWell 2 = .ok (.iconst 0, 1) := by decide +kernel
theorem dL_isWell_3 : decode cL_isWell 3 = .ok (.istore_n 2, 1) := by decide +kernel
theorem dL_isWell_4 : decode cL_isWell 4 = .ok (.iconst 0, 1) := by decide +kernel
theorem dL_isWell_5 : decode cL_isWell 5 = .ok (.istore_n 3, 1) := by decide +kernel
theorem dL_isWell_6 : decode cL_isWell 6 = .ok (.iconst 0, 1) := by decide +kernel
theorem dL_isWell_7 : decode cL_isWell 7 = .ok (.istore 4, 2) := by decide +kernel
theorem dL_isWell_9 : decode cL_isWell 9 = .ok (.sipush 200, 3) := by decide +kernel
theorem dL_isWell_12 : decode cL_isWell 12 = .ok (.istore 5, 2) := by decide +kernel
theorem dL_isWell_14 : decode cL_isWell 14 = .ok (.iconst 0, 1) := by decide +kernel
theorem dL_isWell_15 : decode cL_isWell 15 = .ok (.istore 6, 2) := by decide +kernel
theorem dL_isWell_17 : decode cL_isWell 17 = .ok (.iconst 1, 1) := by decide +kernel
theorem dL_isWell_18 : decode cL_isWell 18 = .ok (.istore 7, 2) := by decide +kernel
theorem dL_isWell_20 : decode cL_isWell 20 = .ok (.iconst 0, 1) := by decide +kernel
theorem dL_isWell_21 : decode cL_isWell 21 = .ok (.istore 8, 2) := by decide +kernel
theorem dL_isWell_23 : decode cL_isWell 23 = .ok (.iload 8, 2) := by decide +kernel
theorem dL_isWell_25 : decode cL_isWell 25 = .ok (.bipush 12, 2) := by decide +kernel
theorem dL_isWell_27 : decode cL_isWell 27 = .ok (.if_icmp .ge 265, 3) := by decide +kernel
theorem dL_isWell_30 : decode cL_isWell 30 = .ok (.iload 7, 2) := by decide +kernel
theorem dL_isWell_32 : decode cL_isWell 32 = .ok (.ifCond .eq 260, 3) := by decide +kernel
theorem dL_isWell_35 : decode cL_isWell 35 = .ok (.aload_n 0, 1) := by decide +kernel
theorem dL_isWell_36 : decode cL_isWell 36 = .ok (.iload 8, 2) := by decide +kernel
theorem dL_isWell_38 : decode cL_isWell 38 = .ok (.iconst 0, 1) := by decide +kernel
theorem dL_isWell_39 : decode cL_isWell 39 = .ok (.invokevirtual 57, 3) := by decide +kernel
theorem dL_isWell_42 : decode cL_isWell 42 = .ok (.istore 9, 2) := by decide +kernel
theorem dL_isWell_44 : decode cL_isWell 44 = .ok (.iload 8, 2) := by decide +kernel
theorem dL_isWell_46 : decode cL_isWell 46 = .ok (.ifCond .eq 19, 3) := by decide +kernel
theorem dL_isWell_49 : decode cL_isWell 49 = .ok (.iload 9, 2) := by decide +kernel
theorem dL_isWell_51 : decode cL_isWell 51 = .ok (.aload_n 0, 1) := by decide +kernel
theorem dL_isWell_52 : decode cL_isWell 52 = .ok (.iload 8, 2) := by decide +kernel
theorem dL_isWell_54 : decode cL_isWell 54 = .ok (.iconst 1, 1) := by decide +kernel
theorem dL_isWell_55 : decode cL_isWell 55 = .ok (.isub, 1) := by decide +kernel
theorem dL_isWell_56 : decode cL_isWell 56 = .ok (.iconst 0, 1) := by decide +kernel
theorem dL_isWell_57 : decode cL_isWell 57 = .ok (.invokevirtual 57, 3) := by decide +kernel
theorem dL_isWell_60 : decode cL_isWell 60 = .ok (.isub, 1) := by decide +kernel
theorem dL_isWell_61 : decode cL_isWell 61 = .ok (.iconst 5, 1) := by decide +kernel
theorem dL_isWell_62 : decode cL_isWell 62 = .ok (.if_icmp .le 7, 3) := by decide +kernel
theorem dL_isWell_65 : decode cL_isWell 65 = .ok (.iconst 1, 1) := by decide +kernel
theorem dL_isWell_66 : decode cL_isWell 66 = .ok (.goto 4, 3) := by decide +kernel
theorem dL_isWell_69 : decode cL_isWell 69 = .ok (.iconst 0, 1) := by decide +kernel
theorem dL_isWell_70 : decode cL_isWell 70 = .ok (.istore 10, 2) := by decide +kernel
theorem dL_isWell_72 : decode cL_isWell 72 = .ok (.iload 8, 2) := by decide +kernel
theorem dL_isWell_74 : decode cL_isWell 74 = .ok (.bipush 11, 2) := by decide +kernel
theorem dL_isWell_76 : decode cL_isWell 76 = .ok (.if_icmp .eq 19, 3) := by decide +kernel
theorem dL_isWell_79 : decode cL_isWell 79 = .ok (.iload 9, 2) := by decide +kernel
theorem dL_isWell_81 : decode cL_isWell 81 = .ok (.aload_n 0, 1) := by decide +kernel
theorem dL_isWell_82 : decode cL_isWell 82 = .ok (.iload 8, 2) := by decide +kernel
theorem dL_isWell_84 : decode cL_isWell 84 = .ok (.iconst 1, 1) := by decide +kernel
theorem dL_isWell_85 : decode cL_isWell 85 = .ok (.iadd, 1) := by decide +kernel
theorem dL_isWell_86 : decode cL_isWell 86 = .ok (.iconst 0, 1) := by decide +kernel
theorem dL_isWell_87 : decode cL_isWell 87 = .ok (.invokevirtual 57, 3) := by decide +kernel
theorem dL_isWell_90 : decode cL_isWell 90 = .ok (.isub, 1) := by decide +kernel
theorem dL_isWell_91 : decode cL_isWell 91 = .ok (.iconst 5, 1) := by decide +kernel
theorem dL_isWell_92 : decode cL_isWell 92 = .ok (.if_icmp .le 7, 3) := by decide +kernel
theorem dL_isWell_95 : decode cL_isWell 95 = .ok (.iconst 1, 1) := by decide +kernel
theorem dL_isWell_96 : decode cL_isWell 96 = .ok (.goto 4, 3) := by decide +kernel
theorem dL_isWell_99 : decode cL_isWell 99 = .ok (.iconst 0, 1) := by decide +kernel
theorem dL_isWell_100 : decode cL_isWell 100 = .ok (.istore 11, 2) := by decide +kernel
theorem dL_isWell_102 : decode cL_isWell 102 = .ok (.iload 9, 2) := by decide +kernel
theorem dL_isWell_104 : decode cL_isWell 104 = .ok (.ifCond .lt 99, 3) := by decide +kernel
theorem dL_isWell_107 : decode cL_isWell 107 = .ok (.iload 9, 2) := by decide +kernel
theorem dL_isWell_109 : decode cL_isWell 109 = .ok (.sipush 200, 3) := by decide +kernel
theorem dL_isWell_112 : decode cL_isWell 112 = .ok (.if_icmp .gt 91, 3) := by decide +kernel
theorem dL_isWell_115 : decode cL_isWell 115 = .ok (.aload_n 0, 1) := by decide +kernel
theorem dL_isWell_116 : decode cL_isWell 116 = .ok (.iload 8, 2) := by decide +kernel
theorem dL_isWell_118 : decode cL_isWell 118 = .ok (.iconst 2, 1) := by decide +kernel
theorem dL_isWell_119 : decode cL_isWell 119 = .ok (.invokevirtual 57, 3) := by decide +kernel
theorem dL_isWell_122 : decode cL_isWell 122 = .ok (.iconst 1, 1) := by decide +kernel
theorem dL_isWell_123 : decode cL_isWell 123 = .ok (.if_icmp .ne 7, 3) := by decide +kernel
theorem dL_isWell_126 : decode cL_isWell 126 = .ok (.iconst 1, 1) := by decide +kernel
theorem dL_isWell_127 : decode cL_isWell 127 = .ok (.goto 4, 3) := by decide +kernel
theorem dL_isWell_130 : decode cL_isWell 130 = .ok (.iconst 0, 1) := by decide +kernel
theorem dL_isWell_131 : decode cL_isWell 131 = .ok (.iload 10, 2) := by decide +kernel
theorem dL_isWell_133 : decode cL_isWell 133 = .ok (.ifCond .eq 12, 3) := by decide +kernel
theorem dL_isWell_136 : decode cL_isWell 136 = .ok (.iload 11, 2) := by decide +kernel
theorem dL_isWell_138 : decode cL_isWell 138 = .ok (.ifCond .eq 7, 3) := by decide +kernel
theorem dL_isWell_141 : decode cL_isWell 141 = .ok (.iconst 1, 1) := by decide +kernel
theorem dL_isWell_142 : decode cL_isWell 142 = .ok (.goto 4, 3) := by decide +kernel
theorem dL_isWell_145 : decode cL_isWell 145 = .ok (.iconst 0, 1) := by decide +kernel
theorem dL_isWell_146 : decode cL_isWell 146 = .ok (.if_icmp .ne 57, 3) := by decide +kernel
theorem dL_isWell_149 : decode cL_isWell 149 = .ok (.aload_n 0, 1) := by decide +kernel
theorem dL_isWell_150 : decode cL_isWell 150 = .ok (.iload 8, 2) := by decide +kernel
theorem dL_isWell_152 : decode cL_isWell 152 = .ok (.iconst 3, 1) := by decide +kernel
theorem dL_isWell_153 : decode cL_isWell 153 = .ok (.invokevirtual 57, 3) := by decide +kernel
theorem dL_isWell_156 : decode cL_isWell 156 = .ok (.iconst 1, 1) := by decide +kernel
theorem dL_isWell_157 : decode cL_isWell 157 = .ok (.if_icmp .ne 7, 3) := by decide +kernel
theorem dL_isWell_160 : decode cL_isWell 160 = .ok (.iconst 1, 1) := by decide +kernel
theorem dL_isWell_161 : decode cL_isWell 161 = .ok (.goto 4, 3) := by decide +kernel
theorem dL_isWell_164 : decode cL_isWell 164 = .ok (.iconst 0, 1) := by decide +kernel
theorem dL_isWell_165 : decode cL_isWell 165 = .ok (.aload_n 0, 1) := by decide +kernel
theorem dL_isWell_166 : decode cL_isWell 166 = .ok (.iload 8, 2) := by decide +kernel
theorem dL_isWell_168 : decode cL_isWell 168 = .ok (.iconst 1, 1) := by decide +kernel
theorem dL_isWell_169 : decode cL_isWell 169 = .ok (.invokevirtual 57, 3) := by decide +kernel
theorem dL_isWell_172 : decode cL_isWell 172 = .ok (.iconst 2, 1) := by decide +kernel
theorem dL_isWell_173 : decode cL_isWell 173 = .ok (.if_icmp .le 7, 3) := by decide +kernel
theorem dL_isWell_176 : decode cL_isWell 176 = .ok (.iconst 1, 1) := by decide +kernel
theorem dL_isWell_177 : decode cL_isWell 177 = .ok (.goto 4, 3) := by decide +kernel
theorem dL_isWell_180 : decode cL_isWell 180 = .ok (.iconst 0, 1) := by decide +kernel
theorem dL_isWell_181 : decode cL_isWell 181 = .ok (.if_icmp .ne 22, 3) := by decide +kernel
theorem dL_isWell_184 : decode cL_isWell 184 = .ok (.aload_n 0, 1) := by decide +kernel
theorem dL_isWell_185 : decode cL_isWell 185 = .ok (.iload 8, 2) := by decide +kernel
theorem dL_isWell_187 : decode cL_isWell 187 = .ok (.iconst 1, 1) := by decide +kernel
theorem dL_isWell_188 : decode cL_isWell 188 = .ok (.invokevirtual 57, 3) := by decide +kernel
theorem dL_isWell_191 : decode cL_isWell 191 = .ok (.ifCond .eq 8, 3) := by decide +kernel
theorem dL_isWell_194 : decode cL_isWell 194 = .ok (.iload 9, 2) := by decide +kernel
theorem dL_isWell_196 : decode cL_isWell 196 = .ok (.ifCond .le 7, 3) := by decide +kernel
theorem dL_isWell_199 : decode cL_isWell 199 = .ok (.iconst 1, 1) := by decide +kernel
theorem dL_isWell_200 : decode cL_isWell 200 = .ok (.goto 4, 3) := by decide +kernel
theorem dL_isWell_203 : decode cL_isWell 203 = .ok (.iconst 0, 1) := by decide +kernel
theorem dL_isWell_204 : decode cL_isWell 204 = .ok (.istore 7, 2) := by decide +kernel
theorem dL_isWell_206 : decode cL_isWell 206 = .ok (.iload_n 1, 1) := by decide +kernel
theorem dL_isWell_207 : decode cL_isWell 207 = .ok (.iload 9, 2) := by decide +kernel
theorem dL_isWell_209 : decode cL_isWell 209 = .ok (.iadd, 1) := by decide +kernel
theorem dL_isWell_210 : decode cL_isWell 210 = .ok (.istore_n 1, 1) := by decide +kernel
theorem dL_isWell_211 : decode cL_isWell 211 = .ok (.iload_n 2, 1) := by decide +kernel
theorem dL_isWell_212 : decode cL_isWell 212 = .ok (.aload_n 0, 1) := by decide +kernel
theorem dL_isWell_213 : decode cL_isWell 213 = .ok (.iload 8, 2) := by decide +kernel
theorem dL_isWell_215 : decode cL_isWell 215 = .ok (.iconst 1, 1) := by decide +kernel
theorem dL_isWell_216 : decode cL_isWell 216 = .ok (.invokevirtual 57, 3) := by decide +kernel
theorem dL_isWell_219 : decode cL_isWell 219 = .ok (.iadd, 1) := by decide +kernel
theorem dL_isWell_220 : decode cL_isWell 220 = .ok (.istore_n 2, 1) := by decide +kernel
theorem dL_isWell_221 : decode cL_isWell 221 = .ok (.iload_n 3, 1) := by decide +kernel
theorem dL_isWell_222 : decode cL_isWell 222 = .ok (.aload_n 0, 1) := by decide +kernel
theorem dL_isWell_223 : decode cL_isWell 223 = .ok (.iload 8, 2) := by decide +kernel
theorem dL_isWell_225 : decode cL_isWell 225 = .ok (.iconst 2, 1) := by decide +kernel
theorem dL_isWell_226 : decode cL_isWell 226 = .ok (.invokevirtual 57, 3) := by decide +kernel
theorem dL_isWell_229 : decode cL_isWell 229 = .ok (.iadd, 1) := by decide +kernel
theorem dL_isWell_230 : decode cL_isWell 230 = .ok (.istore_n 3, 1) := by decide +kernel
theorem dL_isWell_231 : decode cL_isWell 231 = .ok (.iload 6, 2) := by decide +kernel
theorem dL_isWell_233 : decode cL_isWell 233 = .ok (.ifCond .ne 14, 3) := by decide +kernel
theorem dL_isWell_236 : decode cL_isWell 236 = .ok (.aload_n 0, 1) := by decide +kernel
theorem dL_isWell_237 : decode cL_isWell 237 = .ok (.iload 8, 2) := by decide +kernel
theorem dL_isWell_239 : decode cL_isWell 239 = .ok (.iconst 3, 1) := by decide +kernel
theorem dL_isWell_240 : decode cL_isWell 240 = .ok (.invokevirtual 57, 3) := by decide +kernel
theorem dL_isWell_243 : decode cL_isWell 243 = .ok (.iconst 1, 1) := by decide +kernel
theorem dL_isWell_244 : decode cL_isWell 244 = .ok (.if_icmp .ne 7, 3) := by decide +kernel
theorem dL_isWell_247 : decode cL_isWell 247 = .ok (.iconst 1, 1) := by decide +kernel
theorem dL_isWell_248 : decode cL_isWell 248 = .ok (.goto 4, 3) := by decide +kernel
theorem dL_isWell_251 : decode cL_isWell 251 = .ok (.iconst 0, 1) := by decide +kernel
theorem dL_isWell_252 : decode cL_isWell 252 = .ok (.istore 6, 2) := by decide +kernel
theorem dL_isWell_254 : decode cL_isWell 254 = .ok (.iload 9, 2) := by decide +kernel
theorem dL_isWell_256 : decode cL_isWell 256 = .ok (.iload 4, 2) := by decide +kernel
theorem dL_isWell_258 : decode cL_isWell 258 = .ok (.if_icmp .le 8, 3) := by decide +kernel
theorem dL_isWell_261 : decode cL_isWell 261 = .ok (.iload 9, 2) := by decide +kernel
theorem dL_isWell_263 : decode cL_isWell 263 = .ok (.goto 5, 3) := by decide +kernel
theorem dL_isWell_266 : decode cL_isWell 266 = .ok (.iload 4, 2) := by decide +kernel
theorem dL_isWell_268 : decode cL_isWell 268 = .ok (.istore 4, 2) := by decide +kernel
theorem dL_isWell_270 : decode cL_isWell 270 = .ok (.iload 9, 2) := by decide +kernel
theorem dL_isWell_272 : decode cL_isWell 272 = .ok (.iload 5, 2) := by decide +kernel
theorem dL_isWell_274 : decode cL_isWell 274 = .ok (.if_icmp .ge 8, 3) := by decide +kernel
theorem dL_isWell_277 : decode cL_isWell 277 = .ok (.iload 9, 2) := by decide +kernel
theorem dL_isWell_279 : decode cL_isWell 279 = .ok (.goto 5, 3) := by decide +kernel
theorem dL_isWell_282 : decode cL_isWell 282 = .ok (.iload 5, 2) := by decide +kernel
theorem dL_isWell_284 : decode cL_isWell 284 = .ok (.istore 5, 2) := by decide +kernel
theorem dL_isWell_286 : decode cL_isWell 286 = .ok (.iinc 8 1, 3) := by decide +kernel
theorem dL_isWell_289 : decode cL_isWell 289 = .ok (.goto (-266), 3) := by decide +kernel
theorem dL_isWell_292 : decode cL_isWell 292 = .ok (.aload_n 0, 1) := by decide +kernel
theorem dL_isWell_293 : decode cL_isWell 293 = .ok (.invokevirtual 54, 3) := by decide +kernel
theorem dL_isWell_296 : decode cL_isWell 296 = .ok (.istore 8, 2) := by decide +kernel
theorem dL_isWell_298 : decode cL_isWell 298 = .ok (.aload_n 0, 1) := by decide +kernel
theorem dL_isWell_299 : decode cL_isWell 299 = .ok (.bipush 6, 2) := by decide +kernel
theorem dL_isWell_301 : decode cL_isWell 301 = .ok (.invokevirtual 9, 3) := by decide +kernel
theorem dL_isWell_304 : decode cL_isWell 304 = .ok (.iconst 1, 1) := by decide +kernel
theorem dL_isWell_305 : decode cL_isWell 305 = .ok (.if_icmp .ne 7, 3) := by decide +kernel
theorem dL_isWell_308 : decode cL_isWell 308 = .ok (.iconst 1, 1) := by decide +kernel
theorem dL_isWell_309 : decode cL_isWell 309 = .ok (.goto 4, 3) := by decide +kernel
theorem dL_isWell_312 : decode cL_isWell 312 = .ok (.iconst 0, 1) := by decide +kernel
theorem dL_isWell_313 : decode cL_isWell 313 = .ok (.istore 9, 2) := by decide +kernel
theorem dL_isWell_315 : decode cL_isWell 315 = .ok (.aload_n 0, 1) := by decide +kernel
theorem dL_isWell_316 : decode cL_isWell 316 = .ok (.bipush 7, 2) := by decide +kernel
theorem dL_isWell_318 : decode cL_isWell 318 = .ok (.invokevirtual 9, 3) := by decide +kernel
theorem dL_isWell_321 : decode cL_isWell 321 = .ok (.iconst 1, 1) := by decide +kernel
theorem dL_isWell_322 : decode cL_isWell 322 = .ok (.if_icmp .ne 7, 3) := by decide +kernel
theorem dL_isWell_325 : decode cL_isWell 325 = .ok (.iconst 1, 1) := by decide +kernel
theorem dL_isWell_326 : decode cL_isWell 326 = .ok (.goto 4, 3) := by decide +kernel
theorem dL_isWell_329 : decode cL_isWell 329 = .ok (.iconst 0, 1) := by decide +kernel
theorem dL_isWell_330 : decode cL_isWell 330 = .ok (.istore 10, 2) := by decide +kernel
theorem dL_isWell_332 : decode cL_isWell 332 = .ok (.iload 7, 2) := by decide +kernel
theorem dL_isWell_334 : decode cL_isWell 334 = .ok (.ifCond .eq 171, 3) := by decide +kernel
theorem dL_isWell_337 : decode cL_isWell 337 = .ok (.iload_n 1, 1) := by decide +kernel
theorem dL_isWell_338 : decode cL_isWell 338 = .ok (.aload_n 0, 1) := by decide +kernel
theorem dL_isWell_339 : decode cL_isWell 339 = .ok (.iconst 0, 1) := by decide +kernel
theorem dL_isWell_340 : decode cL_isWell 340 = .ok (.invokevirtual 9, 3) := by decide +kernel
theorem dL_isWell_343 : decode cL_isWell 343 = .ok (.if_icmp .ne 162, 3) := by decide +kernel
theorem dL_isWell_346 : decode cL_isWell 346 = .ok (.iload_n 2, 1) := by decide +kernel
theorem dL_isWell_347 : decode cL_isWell 347 = .ok (.aload_n 0, 1) := by decide +kernel
theorem dL_isWell_348 : decode cL_isWell 348 = .ok (.bipush 11, 2) := by decide +kernel
theorem dL_isWell_350 : decode cL_isWell 350 = .ok (.invokevirtual 9, 3) := by decide +kernel
theorem dL_isWell_353 : decode cL_isWell 353 = .ok (.if_icmp .ne 152, 3) := by decide +kernel
theorem dL_isWell_356 : decode cL_isWell 356 = .ok (.iload_n 3, 1) := by decide +kernel
theorem dL_isWell_357 : decode cL_isWell 357 = .ok (.aload_n 0, 1) := by decide +kernel
theorem dL_isWell_358 : decode cL_isWell 358 = .ok (.bipush 10, 2) := by decide +kernel
theorem dL_isWell_360 : decode cL_isWell 360 = .ok (.invokevirtual 9, 3) := by decide +kernel
theorem dL_isWell_363 : decode cL_isWell 363 = .ok (.if_icmp .ne 142, 3) := by decide +kernel
theorem dL_isWell_366 : decode cL_isWell 366 = .ok (.iload 4, 2) := by decide +kernel
theorem dL_isWell_368 : decode cL_isWell 368 = .ok (.iload 5, 2) := by decide +kernel
theorem dL_isWell_370 : decode cL_isWell 370 = .ok (.isub, 1) := by decide +kernel
theorem dL_isWell_371 : decode cL_isWell 371 = .ok (.aload_n 0, 1) := by decide +kernel
theorem dL_isWell_372 : decode cL_isWell 372 = .ok (.bipush 9, 2) := by decide +kernel
theorem dL_isWell_374 : decode cL_isWell 374 = .ok (.invokevirtual 9, 3) := by decide +kernel
theorem dL_isWell_377 : decode cL_isWell 377 = .ok (.if_icmp .ne 128, 3) := by decide +kernel
theorem dL_isWell_380 : decode cL_isWell 380 = .ok (.aload_n 0, 1) := by decide +kernel
theorem dL_isWell_381 : decode cL_isWell 381 = .ok (.bipush 8, 2) := by decide +kernel
theorem dL_isWell_383 : decode cL_isWell 383 = .ok (.invokevirtual 9, 3) := by decide +kernel
theorem dL_isWell_386 : decode cL_isWell 386 = .ok (.iconst 1, 1) := by decide +kernel
theorem dL_isWell_387 : decode cL_isWell 387 = .ok (.if_icmp .ne 7, 3) := by decide +kernel
theorem dL_isWell_390 : decode cL_isWell 390 = .ok (.iconst 1, 1) := by decide +kernel
theorem dL_isWell_391 : decode cL_isWell 391 = .ok (.goto 4, 3) := by decide +kernel
theorem dL_isWell_394 : decode cL_isWell 394 = .ok (.iconst 0, 1) := by decide +kernel
theorem dL_isWell_395 : decode cL_isWell 395 = .ok (.iload 4, 2) := by decide +kernel
theorem dL_isWell_397 : decode cL_isWell 397 = .ok (.sipush 200, 3) := by decide +kernel
theorem dL_isWell_400 : decode cL_isWell 400 = .ok (.if_icmp .ne 7, 3) := by decide +kernel
theorem dL_isWell_403 : decode cL_isWell 403 = .ok (.iconst 1, 1) := by decide +kernel
theorem dL_isWell_404 : decode cL_isWell 404 = .ok (.goto 4, 3) := by decide +kernel
theorem dL_isWell_407 : decode cL_isWell 407 = .ok (.iconst 0, 1) := by decide +kernel
theorem dL_isWell_408 : decode cL_isWell 408 = .ok (.if_icmp .ne 97, 3) := by decide +kernel
theorem dL_isWell_411 : decode cL_isWell 411 = .ok (.iload 10, 2) := by decide +kernel
theorem dL_isWell_413 : decode cL_isWell 413 = .ok (.aload_n 0, 1) := by decide +kernel
theorem dL_isWell_414 : decode cL_isWell 414 = .ok (.iconst 1, 1) := by decide +kernel
theorem dL_isWell_415 : decode cL_isWell 415 = .ok (.invokevirtual 9, 3) := by decide +kernel
theorem dL_isWell_418 : decode cL_isWell 418 = .ok (.ifCond .ne 7, 3) := by decide +kernel
theorem dL_isWell_421 : decode cL_isWell 421 = .ok (.iconst 1, 1) := by decide +kernel
theorem dL_isWell_422 : decode cL_isWell 422 = .ok (.goto 4, 3) := by decide +kernel
theorem dL_isWell_425 : decode cL_isWell 425 = .ok (.iconst 0, 1) := by decide +kernel
theorem dL_isWell_426 : decode cL_isWell 426 = .ok (.if_icmp .ne 79, 3) := by decide +kernel
theorem dL_isWell_429 : decode cL_isWell 429 = .ok (.aload_n 0, 1) := by decide +kernel
theorem dL_isWell_430 : decode cL_isWell 430 = .ok (.iconst 4, 1) := by decide +kernel
theorem dL_isWell_431 : decode cL_isWell 431 = .ok (.invokevirtual 9, 3) := by decide +kernel
theorem dL_isWell_434 : decode cL_isWell 434 = .ok (.ifCond .lt 71, 3) := by decide +kernel
theorem dL_isWell_437 : decode cL_isWell 437 = .ok (.aload_n 0, 1) := by decide +kernel
theorem dL_isWell_438 : decode cL_isWell 438 = .ok (.iconst 4, 1) := by decide +kernel
theorem dL_isWell_439 : decode cL_isWell 439 = .ok (.invokevirtual 9, 3) := by decide +kernel
theorem dL_isWell_442 : decode cL_isWell 442 = .ok (.sipush 300, 3) := by decide +kernel
theorem dL_isWell_445 : decode cL_isWell 445 = .ok (.if_icmp .gt 60, 3) := by decide +kernel
theorem dL_isWell_448 : decode cL_isWell 448 = .ok (.aload_n 0, 1) := by decide +kernel
theorem dL_isWell_449 : decode cL_isWell 449 = .ok (.iconst 2, 1) := by decide +kernel
theorem dL_isWell_450 : decode cL_isWell 450 = .ok (.invokevirtual 9, 3) := by decide +kernel
theorem dL_isWell_453 : decode cL_isWell 453 = .ok (.ifCond .lt 52, 3) := by decide +kernel
theorem dL_isWell_456 : decode cL_isWell 456 = .ok (.aload_n 0, 1) := by decide +kernel
theorem dL_isWell_457 : decode cL_isWell 457 = .ok (.iconst 2, 1) := by decide +kernel
theorem dL_isWell_458 : decode cL_isWell 458 = .ok (.invokevirtual 9, 3) := by decide +kernel
theorem dL_isWell_461 : decode cL_isWell 461 = .ok (.bipush 11, 2) := by decide +kernel
theorem dL_isWell_463 : decode cL_isWell 463 = .ok (.if_icmp .gt 42, 3) := by decide +kernel
theorem dL_isWell_466 : decode cL_isWell 466 = .ok (.aload_n 0, 1) := by decide +kernel
theorem dL_isWell_467 : decode cL_isWell 467 = .ok (.iconst 2, 1) := by decide +kernel
theorem dL_isWell_468 : decode cL_isWell 468 = .ok (.invokevirtual 9, 3) := by decide +kernel
theorem dL_isWell_471 : decode cL_isWell 471 = .ok (.ifCond .gt 11, 3) := by decide +kernel
theorem dL_isWell_474 : decode cL_isWell 474 = .ok (.aload_n 0, 1) := by decide +kernel
theorem dL_isWell_475 : decode cL_isWell 475 = .ok (.iconst 3, 1) := by decide +kernel
theorem dL_isWell_476 : decode cL_isWell 476 = .ok (.invokevirtual 9, 3) := by decide +kernel
theorem dL_isWell_479 : decode cL_isWell 479 = .ok (.ifCond .ne 26, 3) := by decide +kernel
theorem dL_isWell_482 : decode cL_isWell 482 = .ok (.aload_n 0, 1) := by decide +kernel
theorem dL_isWell_483 : decode cL_isWell 483 = .ok (.iconst 2, 1) := by decide +kernel
theorem dL_isWell_484 : decode cL_isWell 484 = .ok (.invokevirtual 9, 3) := by decide +kernel
theorem dL_isWell_487 : decode cL_isWell 487 = .ok (.bipush 11, 2) := by decide +kernel
theorem dL_isWell_489 : decode cL_isWell 489 = .ok (.if_icmp .lt 12, 3) := by decide +kernel
theorem dL_isWell_492 : decode cL_isWell 492 = .ok (.aload_n 0, 1) := by decide +kernel
theorem dL_isWell_493 : decode cL_isWell 493 = .ok (.iconst 3, 1) := by decide +kernel
theorem dL_isWell_494 : decode cL_isWell 494 = .ok (.invokevirtual 9, 3) := by decide +kernel
theorem dL_isWell_497 : decode cL_isWell 497 = .ok (.iconst 1, 1) := by decide +kernel
theorem dL_isWell_498 : decode cL_isWell 498 = .ok (.if_icmp .ne 7, 3) := by decide +kernel
theorem dL_isWell_501 : decode cL_isWell 501 = .ok (.iconst 1, 1) := by decide +kernel
theorem dL_isWell_502 : decode cL_isWell 502 = .ok (.goto 4, 3) := by decide +kernel
theorem dL_isWell_505 : decode cL_isWell 505 = .ok (.iconst 0, 1) := by decide +kernel
theorem dL_isWell_506 : decode cL_isWell 506 = .ok (.istore 7, 2) := by decide +kernel
theorem dL_isWell_508 : decode cL_isWell 508 = .ok (.iload 7, 2) := by decide +kernel
theorem dL_isWell_510 : decode cL_isWell 510 = .ok (.ifCond .eq 60, 3) := by decide +kernel
theorem dL_isWell_513 : decode cL_isWell 513 = .ok (.iload 9, 2) := by decide +kernel
theorem dL_isWell_515 : decode cL_isWell 515 = .ok (.ifCond .ne 8, 3) := by decide +kernel
theorem dL_isWell_518 : decode cL_isWell 518 = .ok (.iload 10, 2) := by decide +kernel
theorem dL_isWell_520 : decode cL_isWell 520 = .ok (.ifCond .eq 13, 3) := by decide +kernel
theorem dL_isWell_523 : decode cL_isWell 523 = .ok (.iload 8, 2) := by decide +kernel
theorem dL_isWell_525 : decode cL_isWell 525 = .ok (.bipush (-4), 2) := by decide +kernel
theorem dL_isWell_527 : decode cL_isWell 527 = .ok (.if_icmp .ne 43, 3) := by decide +kernel
theorem dL_isWell_530 : decode cL_isWell 530 = .ok (.goto 24, 3) := by decide +kernel
theorem dL_isWell_533 : decode cL_isWell 533 = .ok (.iload 8, 2) := by decide +kernel
theorem dL_isWell_535 : decode cL_isWell 535 = .ok (.bipush (-5), 2) := by decide +kernel
theorem dL_isWell_537 : decode cL_isWell 537 = .ok (.if_icmp .eq 17, 3) := by decide +kernel
theorem dL_isWell_540 : decode cL_isWell 540 = .ok (.iload 8, 2) := by decide +kernel
theorem dL_isWell_542 : decode cL_isWell 542 = .ok (.iconst 1, 1) := by decide +kernel
theorem dL_isWell_543 : decode cL_isWell 543 = .ok (.if_icmp .lt 27, 3) := by decide +kernel
theorem dL_isWell_546 : decode cL_isWell 546 = .ok (.iload 8, 2) := by decide +kernel
theorem dL_isWell_548 : decode cL_isWell 548 = .ok (.sipush 1000, 3) := by decide +kernel
theorem dL_isWell_551 : decode cL_isWell 551 = .ok (.if_icmp .gt 19, 3) := by decide +kernel
theorem dL_isWell_554 : decode cL_isWell 554 = .ok (.iload_n 1, 1) := by decide +kernel
theorem dL_isWell_555 : decode cL_isWell 555 = .ok (.ifCond .gt 11, 3) := by decide +kernel
theorem dL_isWell_558 : decode cL_isWell 558 = .ok (.aload_n 0, 1) := by decide +kernel
theorem dL_isWell_559 : decode cL_isWell 559 = .ok (.iconst 5, 1) := by decide +kernel
theorem dL_isWell_560 : decode cL_isWell 560 = .ok (.invokevirtual 9, 3) := by decide +kernel
theorem dL_isWell_563 : decode cL_isWell 563 = .ok (.ifCond .ne 7, 3) := by decide +kernel
theorem dL_isWell_566 : decode cL_isWell 566 = .ok (.iconst 1, 1) := by decide +kernel
theorem dL_isWell_567 : decode cL_isWell 567 = .ok (.goto 4, 3) := by decide +kernel
theorem dL_isWell_570 : decode cL_isWell 570 = .ok (.iconst 0, 1) := by decide +kernel
theorem dL_isWell_571 : decode cL_isWell 571 = .ok (.istore 7, 2) := by decide +kernel
theorem dL_isWell_573 : decode cL_isWell 573 = .ok (.iload 7, 2) := by decide +kernel
theorem dL_isWell_575 : decode cL_isWell 575 = .ok (.ifCond .eq 64, 3) := by decide +kernel
theorem dL_isWell_578 : decode cL_isWell 578 = .ok (.aload_n 0, 1) := by decide +kernel
theorem dL_isWell_579 : decode cL_isWell 579 = .ok (.invokevirtual 51, 3) := by decide +kernel
theorem dL_isWell_582 : decode cL_isWell 582 = .ok (.iload 9, 2) := by decide +kernel
theorem dL_isWell_584 : decode cL_isWell 584 = .ok (.ifCond .eq 7, 3) := by decide +kernel
theorem dL_isWell_587 : decode cL_isWell 587 = .ok (.iconst 1, 1) := by decide +kernel
theorem dL_isWell_588 : decode cL_isWell 588 = .ok (.goto 44, 3) := by decide +kernel
theorem dL_isWell_591 : decode cL_isWell 591 = .ok (.iload 10, 2) := by decide +kernel
theorem dL_isWell_593 : decode cL_isWell 593 = .ok (.ifCond .eq 7, 3) := by decide +kernel
theorem dL_isWell_596 : decode cL_isWell 596 = .ok (.iconst 2, 1) := by decide +kernel
theorem dL_isWell_597 : decode cL_isWell 597 = .ok (.goto 35, 3) := by decide +kernel
theorem dL_isWell_600 : decode cL_isWell 600 = .ok (.iload 6, 2) := by decide +kernel
theorem dL_isWell_602 : decode cL_isWell 602 = .ok (.ifCond .eq 7, 3) := by decide +kernel
theorem dL_isWell_605 : decode cL_isWell 605 = .ok (.iconst 3, 1) := by decide +kernel
theorem dL_isWell_606 : decode cL_isWell 606 = .ok (.goto 26, 3) := by decide +kernel
theorem dL_isWell_609 : decode cL_isWell 609 = .ok (.iload_n 3, 1) := by decide +kernel
theorem dL_isWell_610 : decode cL_isWell 610 = .ok (.ifCond .le 7, 3) := by decide +kernel
theorem dL_isWell_613 : decode cL_isWell 613 = .ok (.iconst 4, 1) := by decide +kernel
theorem dL_isWell_614 : decode cL_isWell 614 = .ok (.goto 18, 3) := by decide +kernel
theorem dL_isWell_617 : decode cL_isWell 617 = .ok (.iload 4, 2) := by decide +kernel
theorem dL_isWell_619 : decode cL_isWell 619 = .ok (.iload 5, 2) := by decide +kernel
theorem dL_isWell_621 : decode cL_isWell 621 = .ok (.isub, 1) := by decide +kernel
theorem dL_isWell_622 : decode cL_isWell 622 = .ok (.bipush 9, 2) := by decide +kernel
theorem dL_isWell_624 : decode cL_isWell 624 = .ok (.if_icmp .le 7, 3) := by decide +kernel
theorem dL_isWell_627 : decode cL_isWell 627 = .ok (.iconst 5, 1) := by decide +kernel
theorem dL_isWell_628 : decode cL_isWell 628 = .ok (.goto 4, 3) := by decide +kernel
theorem dL_isWell_631 : decode cL_isWell 631 = .ok (.iconst 0, 1) := by decide +kernel
theorem dL_isWell_632 : decode cL_isWell 632 = .ok (.if_icmp .ne 7, 3) := by decide +kernel
theorem dL_isWell_635 : decode cL_isWell 635 = .ok (.iconst 1, 1) := by decide +kernel
theorem dL_isWell_636 : decode cL_isWell 636 = .ok (.goto 4, 3) := by decide +kernel
theorem dL_isWell_639 : decode cL_isWell 639 = .ok (.iconst 0, 1) := by decide +kernel
theorem dL_isWell_640 : decode cL_isWell 640 = .ok (.ireturn, 1) := by decide +kernel
