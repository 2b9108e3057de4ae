set_option maxRecDepth 20000 in
theorem ggL_isStep_X4_count : GoodIn wsL_isStep wsX4_count := goodIn_r _ [5, 6, 7, 8, 9, 10, 11, 12, 13, 14, 15, 16, 17, 18, 4, 19, 20, 21, 22, 23, 24, 25, 26, 27, 28, 29, 30, 31, 32, 33, 34, 35, 36, 37, 38, 39, 40, 41, 42, 43, 44, 45, 46, 47, 48, 49, 50, 51, 52, 53, 54, 55, 56, 57, 58, 59, 212, 213, 214, 215, 216, 217, 218, 219, 220, 221, 222, 223, 224, 225, 226, 227, 228, 229, 230, 231, 232, 233, 234, 235, 236, 237, 238, 239, 240, 241, 242, 243, 244] (by decide +kernel) (by decide +kernel)
set_option maxRecDepth 20000 in
theorem gL_isStep_X4_count : GoodIn wsL_isStep (wsV RL 9 RX4 yX4_count wsX4_count) := goodIn_app (goodIn_of _ (by decide +kernel)) ggL_isStep_X4_count
set_option maxRecDepth 20000 in
theorem ggL_isStep_L_up : GoodIn wsL_isStep wsL_up := goodIn_r _ [63, 64] (by decide +kernel) (by decide +kernel)
set_option maxRecDepth 20000 in
theorem gL_isStep_L_up : GoodIn wsL_isStep (va_wsS RL 15 yL_up wsL_up) := goodIn_app (goodIn_of _ (by decide +kernel)) ggL_isStep_L_up
set_option maxRecDepth 20000 in
theorem ggL_isStep_X4_wind : GoodIn wsL_isStep wsX4_wind := goodIn_r _ [68, 69, 6, 70, 21, 71, 72, 73, 55, 74, 75, 76, 77, 59, 24, 78, 79, 80, 81, 82, 83, 84, 85, 10, 86, 87, 32, 88, 89, 28, 13, 90, 91, 92, 93, 4, 94, 95, 96, 97, 98, 99, 100, 101, 102, 103, 104, 105, 106, 107, 20, 22, 23, 25, 26, 27, 108, 109, 110, 111, 9, 11, 12, 49, 50, 51, 112, 113, 114, 115, 116, 35, 117, 118, 119, 120, 121, 122, 123, 124, 125, 126, 56, 57, 58, 127, 128, 129, 130, 131, 34, 36, 132, 133, 134, 135, 18, 19, 136, 137, 138, 139, 7, 140, 141, 142, 143, 144, 145, 146, 147, 148, 149, 150, 151, 212, 213, 214, 215, 216, 217, 218, 219, 220, 221, 222, 223, 224, 225, 226, 227, 228, 229, 230, 231, 232, 233, 234, 235, 236, 237] (by decide +kernel) (by decide +kernel)
set_option maxRecDepth 20000 in
theorem gL_isStep_X4_wind : GoodIn wsL_isStep (wsV RL 21 RX4 yX4_wind wsX4_wind) := goodIn_app (goodIn_of _ (by decide +kernel)) ggL_isStep_X4_wind
set_option maxRecDepth 20000 in
theorem ggL_isStep_X4_set : GoodIn wsL_isStep wsX4_set := goodIn_r _ [155, 69, 6, 70, 21, 71, 72, 73, 55, 74, 75, 76, 77, 59, 24, 78, 79, 80, 81, 82, 83, 84, 85, 10, 86, 87, 32, 88, 89, 28, 13, 156, 157, 158, 93, 4, 94, 95, 96, 97, 98, 99, 100, 101, 102, 136, 137, 138, 139, 7, 140, 141, 142, 143, 144, 145, 146, 34, 35, 36, 147, 148, 149, 150, 151, 212, 213, 214, 215, 216, 217, 218, 219, 220, 221, 222, 223, 224, 225, 226, 227, 228, 229, 230, 231, 232, 233, 234, 235, 236, 237] (by decide +kernel) (by decide +kernel)
set_option maxRecDepth 20000 in
theorem gL_isStep_X4_set : GoodIn wsL_isStep (wsV RL 24 RX4 yX4_set wsX4_set) := goodIn_app (goodIn_of _ (by decide +kernel)) ggL_isStep_X4_set
set_option maxRecDepth 20000 in
theorem ggL_isStep_X4_knot : GoodIn wsL_isStep wsX4_knot := goodIn_r _ [162, 69, 6, 70, 21, 71, 72, 73, 55, 74, 75, 76, 77, 59, 24, 78, 79, 80, 81, 82, 83, 84, 85, 10, 86, 87, 32, 88, 89, 28, 13, 163, 164, 165, 126, 56, 57, 58, 136, 137, 138, 4, 139, 7, 140, 141, 142, 143, 144, 145, 146, 34, 35, 36, 147, 148, 149, 150, 151, 212, 213, 214, 215, 216, 217, 218, 219, 220, 221, 222, 223, 224, 225, 226, 227, 228, 229, 230, 231, 232, 233, 234, 235, 236, 237] (by decide +kernel) (by decide +kernel)
set_option maxRecDepth 20000 in
theorem gL_isStep_X4_knot : GoodIn wsL_isStep (wsV RL 27 RX4 yX4_knot wsX4_knot) := goodIn_app (goodIn_of _ (by decide +kernel)) ggL_isStep_X4_knot
set_option maxRecDepth 20000 in
theorem ggL_isStep_X4_cone : GoodIn wsL_isStep wsX4_cone := goodIn_r _ [169, 69, 6, 70, 21, 71, 72, 73, 55, 74, 75, 76, 77, 59, 24, 78, 79, 80, 81, 82, 83, 84, 85, 10, 86, 87, 32, 88, 89, 28, 13, 170, 171, 172, 93, 4, 94, 95, 96, 97, 98, 99, 100, 101, 102, 136, 137, 138, 139, 7, 140, 141, 142, 143, 144, 145, 146, 34, 35, 36, 147, 148, 149, 150, 151, 212, 213, 214, 215, 216, 217, 218, 219, 220, 221, 222, 223, 224, 225, 226, 227, 228, 229, 230, 231, 232, 233, 234, 235, 236, 237] (by decide +kernel) (by decide +kernel)
set_option maxRecDepth 20000 in
theorem gL_isStep_X4_cone : GoodIn wsL_isStep (wsV RL 31 RX4 yX4_cone wsX4_cone) := goodIn_app (goodIn_of _ (by decide +kernel)) ggL_isStep_X4_cone
set_option maxRecDepth 20000 in
theorem ggL_isStep_X4_doff : GoodIn wsL_isStep wsX4_doff := goodIn_r _ [176, 69, 6, 70, 21, 71, 72, 73, 55, 74, 75, 76, 77, 59, 24, 78, 79, 80, 81, 82, 83, 84, 85, 10, 86, 87, 32, 88, 89, 28, 13, 177, 178, 179, 180, 181, 182, 183, 184, 185, 186, 187, 136, 137, 138, 4, 139, 7, 140, 141, 142, 143, 144, 145, 146, 34, 35, 36, 147, 148, 149, 150, 151, 212, 213, 214, 215, 216, 217, 218, 219, 220, 221, 222, 223, 224, 225, 226, 227, 228, 229, 230, 231, 232, 233, 234, 235, 236, 237] (by decide +kernel) (by decide +kernel)
set_option maxRecDepth 20000 in
theorem gL_isStep_X4_doff : GoodIn wsL_isStep (wsV RL 34 RX4 yX4_doff wsX4_doff) := goodIn_app (goodIn_of _ (by decide +kernel)) ggL_isStep_X4_doff
set_option maxRecDepth 20000 in
theorem ggL_isStep_X4_ifTraverse : GoodIn wsL_isStep wsX4_ifTraverse := goodIn_r _ [191, 192, 193, 93, 4, 94, 95, 96, 97, 98, 99, 100, 101, 102, 194, 195, 196, 197, 6, 180, 10, 181, 182, 32, 89, 28, 13, 183, 184, 185, 186, 25, 26, 27, 112, 113, 114, 115, 116, 35, 117, 118, 9, 11, 12, 56, 21, 57, 58, 59, 133, 134, 135, 18, 19, 29, 30, 31, 33, 34, 36, 37, 38, 39, 40, 41, 42, 43, 44, 45, 46, 47, 48, 49, 50, 51, 198, 199, 200, 212, 213, 214, 215, 216, 217, 218, 219, 231, 232, 233, 234, 220, 221, 222, 223, 224, 225, 226, 227, 228, 229, 230] (by decide +kernel) (by decide +kernel)
set_option maxRecDepth 20000 in
theorem gL_isStep_X4_ifTraverse : GoodIn wsL_isStep (wsV RL 37 RX4 yX4_ifTraverse wsX4_ifTraverse) := goodIn_app (goodIn_of _ (by decide +kernel)) ggL_isStep_X4_ifTraverse
set_option maxRecDepth 20000 in
theorem ggL_isStep_L_isRound : GoodIn wsL_isStep wsL_isRound := goodIn_r _ [203, 204, 205, 206, 4, 207, 193, 93, 94, 95, 96, 97, 98, 99, 100, 101, 102, 1, 2, 3, 5, 6, 7, 8, 9, 10, 11, 12, 13, 14, 15, 16, 17, 18, 19, 20, 21, 22, 23, 24, 25, 26, 27, 28, 29, 30, 31, 32, 33, 34, 35, 36, 37, 38, 39, 40, 41, 42, 43, 44, 45, 46, 47, 48, 49, 50, 51, 52, 53, 54, 55, 56, 57, 58, 59, 188, 189, 190, 191, 192, 194, 195, 196, 197, 180, 181, 182, 89, 183, 184, 185, 186, 112, 113, 114, 115, 116, 117, 118, 133, 134, 135, 198, 199, 200, 208, 209, 210, 211, 212, 213, 214, 215, 216, 217, 218, 219, 220, 221, 222, 223, 224, 225, 226, 227, 228, 229, 230, 231, 232, 233, 234, 235, 236, 237, 238, 239, 240, 241, 242, 243, 244] (by decide +kernel) (by decide +kernel)
set_option maxRecDepth 20000 in
theorem gL_isStep_L_isRound : GoodIn wsL_isStep (va_wsS RL 41 yL_isRound wsL_isRound) := goodIn_app (goodIn_of _ (by decide +kernel)) ggL_isStep_L_isRound
theorem dL_isStep_0 : decode cL_isStep 0 = .ok (.iload_n 2, 1) := by decide +kernel
theorem dL_isStep_1 : decode cL_isStep 1 = .ok (.iconst 4, 1) := by decide +kernel
theorem dL_isStep_2 : decode cL_isStep 2 = .ok (.ishr, 1) := by decide +kernel
theorem dL_isStep_3 : decode cL_isStep 3 = .ok (.istore_n 3, 1) := by decide +kernel
theorem dL_isStep_4 : decode cL_isStep 4 = .ok (.aload_n 0, 1) := by decide +kernel
theorem dL_isStep_5 : decode cL_isStep 5 = .ok (.iconst 0, 1) := by decide +kernel
theorem dL_isStep_6 : decode cL_isStep 6 = .ok (.invokevirtual 9, 3) := by decide +kernel
theorem dL_isStep_9 : decode cL_isStep 9 = .ok (.istore 4, 2) := by decide +kernel
theorem dL_isStep_11 : decode cL_isStep 11 = .ok (.aload_n 0, 1) := by decide +kernel
theorem dL_isStep_12 : decode cL_isStep 12 = .ok (.iconst 1, 1) := by decide +kernel
theorem dL_isStep_13 : decode cL_isStep 13 = .ok (.invokevirtual 9, 3) := by decide +kernel
theorem dL_isStep_16 : decode cL_isStep 16 = .ok (.istore 5, 2) := by decide +kernel
theorem dL_isStep_18 : decode cL_isStep 18 = .ok (.aload_n 0, 1) := by decide +kernel
theorem dL_isStep_19 : decode cL_isStep 19 = .ok (.bipush 12, 2) := by decide +kernel
theorem dL_isStep_21 : decode cL_isStep 21 = .ok (.invokevirtual 9, 3) := by decide +kernel
theorem dL_isStep_24 : decode cL_isStep 24 = .ok (.istore 6, 2) := by decide +kernel
theorem dL_isStep_26 : decode cL_isStep 26 = .ok (.aload_n 0, 1) := by decide +kernel
theorem dL_isStep_27 : decode cL_isStep 27 = .ok (.bipush 13, 2) := by decide +kernel
theorem dL_isStep_29 : decode cL_isStep 29 = .ok (.invokevirtual 9, 3) := by decide +kernel
theorem dL_isStep_32 : decode cL_isStep 32 = .ok (.istore 7, 2) := by decide +kernel
theorem dL_isStep_34 : decode cL_isStep 34 = .ok (.iload_n 2, 1) := by decide +kernel
theorem dL_isStep_35 : decode cL_isStep 35 = .ok (.bipush 14, 2) := by decide +kernel
theorem dL_isStep_37 : decode cL_isStep 37 = .ok (.invokestatic 15, 3) := by decide +kernel
theorem dL_isStep_40 : decode cL_isStep 40 = .ok (.tableswitch 851 0 12 #[68, 68, 68, 68, 68, 378, 378, 378, 508, 508, 508, 645, 730], 68) := by decide +kernel
theorem dL_isStep_108 : decode cL_isStep 108 = .ok (.iconst 1, 1) := by decide +kernel
theorem dL_isStep_109 : decode cL_isStep 109 = .ok (.iload_n 3, 1) := by decide +kernel
theorem dL_isStep_110 : decode cL_isStep 110 = .ok (.iload_n 3, 1) := by decide +kernel
theorem dL_isStep_111 : decode cL_isStep 111 = .ok (.bipush 6, 2) := by decide +kernel
theorem dL_isStep_113 : decode cL_isStep 113 = .ok (.ishr, 1) := by decide +kernel
theorem dL_isStep_114 : decode cL_isStep 114 = .ok (.iconst 3, 1) := by decide +kernel
theorem dL_isStep_115 : decode cL_isStep 115 = .ok (.invokestatic 15, 3) := by decide +kernel
theorem dL_isStep_118 : decode cL_isStep 118 = .ok (.ifCond .ne 8, 3) := by decide +kernel
theorem dL_isStep_121 : decode cL_isStep 121 = .ok (.bipush 70, 2) := by decide +kernel
theorem dL_isStep_123 : decode cL_isStep 123 = .ok (.goto 5, 3) := by decide +kernel
theorem dL_isStep_126 : decode cL_isStep 126 = .ok (.bipush 15, 2) := by decide +kernel
theorem dL_isStep_128 : decode cL_isStep 128 = .ok (.invokestatic 15, 3) := by decide +kernel
theorem dL_isStep_131 : decode cL_isStep 131 = .ok (.iadd, 1) := by decide +kernel
theorem dL_isStep_132 : decode cL_isStep 132 = .ok (.istore 8, 2) := by decide +kernel
theorem dL_isStep_134 : decode cL_isStep 134 = .ok (.aload_n 0, 1) := by decide +kernel
theorem dL_isStep_135 : decode cL_isStep 135 = .ok (.bipush 6, 2) := by decide +kernel
theorem dL_isStep_137 : decode cL_isStep 137 = .ok (.invokevirtual 9, 3) := by decide +kernel
theorem dL_isStep_140 : decode cL_isStep 140 = .ok (.iconst 1, 1) := by decide +kernel
theorem dL_isStep_141 : decode cL_isStep 141 = .ok (.if_icmp .eq 23, 3) := by decide +kernel
theorem dL_isStep_144 : decode cL_isStep 144 = .ok (.aload_n 0, 1) := by decide +kernel
theorem dL_isStep_145 : decode cL_isStep 145 = .ok (.bipush 7, 2) := by decide +kernel
theorem dL_isStep_147 : decode cL_isStep 147 = .ok (.invokevirtual 9, 3) := by decide +kernel
theorem dL_isStep_150 : decode cL_isStep 150 = .ok (.iconst 1, 1) := by decide +kernel
theorem dL_isStep_151 : decode cL_isStep 151 = .ok (.if_icmp .eq 13, 3) := by decide +kernel
theorem dL_isStep_154 : decode cL_isStep 154 = .ok (.aload_n 0, 1) := by decide +kernel
theorem dL_isStep_155 : decode cL_isStep 155 = .ok (.bipush 8, 2) := by decide +kernel
theorem dL_isStep_157 : decode cL_isStep 157 = .ok (.invokevirtual 9, 3) := by decide +kernel
theorem dL_isStep_160 : decode cL_isStep 160 = .ok (.iconst 1, 1) := by decide +kernel
theorem dL_isStep_161 : decode cL_isStep 161 = .ok (.if_icmp .ne 7, 3) := by decide +kernel
theorem dL_isStep_164 : decode cL_isStep 164 = .ok (.iconst 1, 1) := by decide +kernel
theorem dL_isStep_165 : decode cL_isStep 165 = .ok (.goto 4, 3) := by decide +kernel
theorem dL_isStep_168 : decode cL_isStep 168 = .ok (.iconst 0, 1) := by decide +kernel
theorem dL_isStep_169 : decode cL_isStep 169 = .ok (.istore 9, 2) := by decide +kernel
theorem dL_isStep_171 : decode cL_isStep 171 = .ok (.aload_n 0, 1) := by decide +kernel
theorem dL_isStep_172 : decode cL_isStep 172 = .ok (.iload 8, 2) := by decide +kernel
theorem dL_isStep_174 : decode cL_isStep 174 = .ok (.invokevirtual 21, 3) := by decide +kernel
theorem dL_isStep_177 : decode cL_isStep 177 = .ok (.istore 10, 2) := by decide +kernel
theorem dL_isStep_179 : decode cL_isStep 179 = .ok (.iconst 0, 1) := by decide +kernel
theorem dL_isStep_180 : decode cL_isStep 180 = .ok (.istore 11, 2) := by decide +kernel
theorem dL_isStep_182 : decode cL_isStep 182 = .ok (.iconst 1, 1) := by decide +kernel
theorem dL_isStep_183 : decode cL_isStep 183 = .ok (.istore 12, 2) := by decide +kernel
theorem dL_isStep_185 : decode cL_isStep 185 = .ok (.iconst 0, 1) := by decide +kernel
theorem dL_isStep_186 : decode cL_isStep 186 = .ok (.istore 13, 2) := by decide +kernel
theorem dL_isStep_188 : decode cL_isStep 188 = .ok (.iload 13, 2) := by decide +kernel
theorem dL_isStep_190 : decode cL_isStep 190 = .ok (.iload 8, 2) := by decide +kernel
theorem dL_isStep_192 : decode cL_isStep 192 = .ok (.if_icmp .ge 121, 3) := by decide +kernel
theorem dL_isStep_195 : decode cL_isStep 195 = .ok (.iload 12, 2) := by decide +kernel
theorem dL_isStep_197 : decode cL_isStep 197 = .ok (.ifCond .eq 116, 3) := by decide +kernel
theorem dL_isStep_200 : decode cL_isStep 200 = .ok (.aload_n 1, 1) := by decide +kernel
theorem dL_isStep_201 : decode cL_isStep 201 = .ok (.bipush 24, 2) := by decide +kernel
theorem dL_isStep_203 : decode cL_isStep 203 = .ok (.invokevirtual 9, 3) := by decide +kernel
theorem dL_isStep_206 : decode cL_isStep 206 = .ok (.istore 14, 2) := by decide +kernel
theorem dL_isStep_208 : decode cL_isStep 208 = .ok (.iload 13, 2) := by decide +kernel
theorem dL_isStep_210 : decode cL_isStep 210 = .ok (.iconst 5, 1) := by decide +kernel
theorem dL_isStep_211 : decode cL_isStep 211 = .ok (.irem, 1) := by decide +kernel
theorem dL_isStep_212 : decode cL_isStep 212 = .ok (.iconst 2, 1) := by decide +kernel
theorem dL_isStep_213 : decode cL_isStep 213 = .ok (.if_icmp .ne 46, 3) := by decide +kernel
theorem dL_isStep_216 : decode cL_isStep 216 = .ok (.aload_n 1, 1) := by decide +kernel
theorem dL_isStep_217 : decode cL_isStep 217 = .ok (.iconst 4, 1) := by decide +kernel
theorem dL_isStep_218 : decode cL_isStep 218 = .ok (.iload 14, 2) := by decide +kernel
theorem dL_isStep_220 : decode cL_isStep 220 = .ok (.bipush 99, 2) := by decide +kernel
theorem dL_isStep_222 : decode cL_isStep 222 = .ok (.if_icmp .ne 8, 3) := by decide +kernel
theorem dL_isStep_225 : decode cL_isStep 225 = .ok (.bipush 98, 2) := by decide +kernel
theorem dL_isStep_227 : decode cL_isStep 227 = .ok (.goto 5, 3) := by decide +kernel
theorem dL_isStep_230 : decode cL_isStep 230 = .ok (.bipush 99, 2) := by decide +kernel
theorem dL_isStep_232 : decode cL_isStep 232 = .ok (.invokevirtual 24, 3) := by decide +kernel
theorem dL_isStep_235 : decode cL_isStep 235 = .ok (.iload 14, 2) := by decide +kernel
theorem dL_isStep_237 : decode cL_isStep 237 = .ok (.if_icmp .ne 19, 3) := by decide +kernel
theorem dL_isStep_240 : decode cL_isStep 240 = .ok (.aload_n 1, 1) := by decide +kernel
theorem dL_isStep_241 : decode cL_isStep 241 = .ok (.iconst 4, 1) := by decide +kernel
theorem dL_isStep_242 : decode cL_isStep 242 = .ok (.iload 14, 2) := by decide +kernel
theorem dL_isStep_244 : decode cL_isStep 244 = .ok (.invokevirtual 24, 3) := by decide +kernel
theorem dL_isStep_247 : decode cL_isStep 247 = .ok (.bipush 98, 2) := by decide +kernel
theorem dL_isStep_249 : decode cL_isStep 249 = .ok (.if_icmp .lt 7, 3) := by decide +kernel
theorem dL_isStep_252 : decode cL_isStep 252 = .ok (.iconst 1, 1) := by decide +kernel
theorem dL_isStep_253 : decode cL_isStep 253 = .ok (.goto 4, 3) := by decide +kernel
theorem dL_isStep_256 : decode cL_isStep 256 = .ok (.iconst 0, 1) := by decide +kernel
theorem dL_isStep_257 : decode cL_isStep 257 = .ok (.istore 12, 2) := by decide +kernel
theorem dL_isStep_259 : decode cL_isStep 259 = .ok (.aload_n 1, 1) := by decide +kernel
theorem dL_isStep_260 : decode cL_isStep 260 = .ok (.iconst 1, 1) := by decide +kernel
theorem dL_isStep_261 : decode cL_isStep 261 = .ok (.invokevirtual 21, 3) := by decide +kernel
theorem dL_isStep_264 : decode cL_isStep 264 = .ok (.istore 15, 2) := by decide +kernel
theorem dL_isStep_266 : decode cL_isStep 266 = .ok (.iload 12, 2) := by decide +kernel
theorem dL_isStep_268 : decode cL_isStep 268 = .ok (.ifCond .eq 20, 3) := by decide +kernel
theorem dL_isStep_271 : decode cL_isStep 271 = .ok (.iload 15, 2) := by decide +kernel
theorem dL_isStep_273 : decode cL_isStep 273 = .ok (.iconst 1, 1) := by decide +kernel
theorem dL_isStep_274 : decode cL_isStep 274 = .ok (.if_icmp .gt 14, 3) := by decide +kernel
theorem dL_isStep_277 : decode cL_isStep 277 = .ok (.iload 15, 2) := by decide +kernel
theorem dL_isStep_279 : decode cL_isStep 279 = .ok (.bipush (-2), 2) := by decide +kernel
theorem dL_isStep_281 : decode cL_isStep 281 = .ok (.if_icmp .eq 7, 3) := by decide +kernel
theorem dL_isStep_284 : decode cL_isStep 284 = .ok (.iconst 1, 1) := by decide +kernel
theorem dL_isStep_285 : decode cL_isStep 285 = .ok (.goto 4, 3) := by decide +kernel
theorem dL_isStep_288 : decode cL_isStep 288 = .ok (.iconst 0, 1) := by decide +kernel
theorem dL_isStep_289 : decode cL_isStep 289 = .ok (.istore 12, 2) := by decide +kernel
theorem dL_isStep_291 : decode cL_isStep 291 = .ok (.iload 11, 2) := by decide +kernel
theorem dL_isStep_293 : decode cL_isStep 293 = .ok (.iload 15, 2) := by decide +kernel
theorem dL_isStep_295 : decode cL_isStep 295 = .ok (.iconst 1, 1) := by decide +kernel
theorem dL_isStep_296 : decode cL_isStep 296 = .ok (.if_icmp .ne 7, 3) := by decide +kernel
theorem dL_isStep_299 : decode cL_isStep 299 = .ok (.iconst 1, 1) := by decide +kernel
theorem dL_isStep_300 : decode cL_isStep 300 = .ok (.goto 4, 3) := by decide +kernel
theorem dL_isStep_303 : decode cL_isStep 303 = .ok (.iconst 0, 1) := by decide +kernel
theorem dL_isStep_304 : decode cL_isStep 304 = .ok (.iadd, 1) := by decide +kernel
theorem dL_isStep_305 : decode cL_isStep 305 = .ok (.istore 11, 2) := by decide +kernel
theorem dL_isStep_307 : decode cL_isStep 307 = .ok (.iinc 13 1, 3) := by decide +kernel
theorem dL_isStep_310 : decode cL_isStep 310 = .ok (.goto (-122), 3) := by decide +kernel
theorem dL_isStep_313 : decode cL_isStep 313 = .ok (.aload_n 0, 1) := by decide +kernel
theorem dL_isStep_314 : decode cL_isStep 314 = .ok (.bipush 12, 2) := by decide +kernel
theorem dL_isStep_316 : decode cL_isStep 316 = .ok (.invokevirtual 9, 3) := by decide +kernel
theorem dL_isStep_319 : decode cL_isStep 319 = .ok (.iload 6, 2) := by decide +kernel
theorem dL_isStep_321 : decode cL_isStep 321 = .ok (.isub, 1) := by decide +kernel
theorem dL_isStep_322 : decode cL_isStep 322 = .ok (.istore 13, 2) := by decide +kernel
theorem dL_isStep_324 : decode cL_isStep 324 = .ok (.iload 12, 2) := by decide +kernel
theorem dL_isStep_326 : decode cL_isStep 326 = .ok (.ifCond .eq 90, 3) := by decide +kernel
theorem dL_isStep_329 : decode cL_isStep 329 = .ok (.iload 9, 2) := by decide +kernel
theorem dL_isStep_331 : decode cL_isStep 331 = .ok (.ifCond .eq 23, 3) := by decide +kernel
theorem dL_isStep_334 : decode cL_isStep 334 = .ok (.iload 10, 2) := by decide +kernel
theorem dL_isStep_336 : decode cL_isStep 336 = .ok (.bipush (-5), 2) := by decide +kernel
theorem dL_isStep_338 : decode cL_isStep 338 = .ok (.if_icmp .ne 78, 3) := by decide +kernel
theorem dL_isStep_341 : decode cL_isStep 341 = .ok (.iload 11, 2) := by decide +kernel
theorem dL_isStep_343 : decode cL_isStep 343 = .ok (.ifCond .ne 73, 3) := by decide +kernel
theorem dL_isStep_346 : decode cL_isStep 346 = .ok (.iload 13, 2) := by decide +kernel
theorem dL_isStep_348 : decode cL_isStep 348 = .ok (.ifCond .ne 68, 3) := by decide +kernel
theorem dL_isStep_351 : decode cL_isStep 351 = .ok (.goto 61, 3) := by decide +kernel
theorem dL_isStep_354 : decode cL_isStep 354 = .ok (.iload 10, 2) := by decide +kernel
theorem dL_isStep_356 : decode cL_isStep 356 = .ok (.iload 11, 2) := by decide +kernel
theorem dL_isStep_358 : decode cL_isStep 358 = .ok (.if_icmp .ne 58, 3) := by decide +kernel
theorem dL_isStep_361 : decode cL_isStep 361 = .ok (.iload 13, 2) := by decide +kernel
theorem dL_isStep_363 : decode cL_isStep 363 = .ok (.iload 10, 2) := by decide +kernel
theorem dL_isStep_365 : decode cL_isStep 365 = .ok (.if_icmp .lt 51, 3) := by decide +kernel
theorem dL_isStep_368 : decode cL_isStep 368 = .ok (.iload 13, 2) := by decide +kernel
theorem dL_isStep_370 : decode cL_isStep 370 = .ok (.iload 10, 2) := by decide +kernel
theorem dL_isStep_372 : decode cL_isStep 372 = .ok (.iconst 1, 1) := by decide +kernel
theorem dL_isStep_373 : decode cL_isStep 373 = .ok (.iadd, 1) := by decide +kernel
theorem dL_isStep_374 : decode cL_isStep 374 = .ok (.if_icmp .gt 42, 3) := by decide +kernel
theorem dL_isStep_377 : decode cL_isStep 377 = .ok (.iload 13, 2) := by decide +kernel
theorem dL_isStep_379 : decode cL_isStep 379 = .ok (.iconst 1, 1) := by decide +kernel
theorem dL_isStep_380 : decode cL_isStep 380 = .ok (.if_icmp .lt 36, 3) := by decide +kernel
theorem dL_isStep_383 : decode cL_isStep 383 = .ok (.aload_n 0, 1) := by decide +kernel
theorem dL_isStep_384 : decode cL_isStep 384 = .ok (.iconst 0, 1) := by decide +kernel
theorem dL_isStep_385 : decode cL_isStep 385 = .ok (.invokevirtual 9, 3) := by decide +kernel
theorem dL_isStep_388 : decode cL_isStep 388 = .ok (.iload 4, 2) := by decide +kernel
theorem dL_isStep_390 : decode cL_isStep 390 = .ok (.iload 10, 2) := by decide +kernel
theorem dL_isStep_392 : decode cL_isStep 392 = .ok (.iadd, 1) := by decide +kernel
theorem dL_isStep_393 : decode cL_isStep 393 = .ok (.if_icmp .ne 23, 3) := by decide +kernel
theorem dL_isStep_396 : decode cL_isStep 396 = .ok (.aload_n 0, 1) := by decide +kernel
theorem dL_isStep_397 : decode cL_isStep 397 = .ok (.iconst 1, 1) := by decide +kernel
theorem dL_isStep_398 : decode cL_isStep 398 = .ok (.invokevirtual 9, 3) := by decide +kernel
theorem dL_isStep_401 : decode cL_isStep 401 = .ok (.iload 5, 2) := by decide +kernel
theorem dL_isStep_403 : decode cL_isStep 403 = .ok (.bipush 10, 2) := by decide +kernel
theorem dL_isStep_405 : decode cL_isStep 405 = .ok (.iload 10, 2) := by decide +kernel
theorem dL_isStep_407 : decode cL_isStep 407 = .ok (.imul, 1) := by decide +kernel
theorem dL_isStep_408 : decode cL_isStep 408 = .ok (.isub, 1) := by decide +kernel
theorem dL_isStep_409 : decode cL_isStep 409 = .ok (.if_icmp .gt 7, 3) := by decide +kernel
theorem dL_isStep_412 : decode cL_isStep 412 = .ok (.iconst 1, 1) := by decide +kernel
theorem dL_isStep_413 : decode cL_isStep 413 = .ok (.goto 4, 3) := by decide +kernel
theorem dL_isStep_416 : decode cL_isStep 416 = .ok (.iconst 0, 1) := by decide +kernel
theorem dL_isStep_417 : decode cL_isStep 417 = .ok (.ireturn, 1) := by decide +kernel
theorem dL_isStep_418 : decode cL_isStep 418 = .ok (.iload_n 3, 1) := by decide +kernel
theorem dL_isStep_419 : decode cL_isStep 419 = .ok (.iconst 5, 1) := by decide +kernel
theorem dL_isStep_420 : decode cL_isStep 420 = .ok (.invokestatic 15, 3) := by decide +kernel
theorem dL_isStep_423 : decode cL_isStep 423 = .ok (.istore 8, 2) := by decide +kernel
theorem dL_isStep_425 : decode cL_isStep 425 = .ok (.iload 8, 2) := by decide +kernel
theorem dL_isStep_427 : decode cL_isStep 427 = .ok (.ifCond .ne 16, 3) := by decide +kernel
theorem dL_isStep_430 : decode cL_isStep 430 = .ok (.iconst 1, 1) := by decide +kernel
theorem dL_isStep_431 : decode cL_isStep 431 = .ok (.iload_n 3, 1) := by decide +kernel
theorem dL_isStep_432 : decode cL_isStep 432 = .ok (.iconst 3, 1) := by decide +kernel
theorem dL_isStep_433 : decode cL_isStep 433 = .ok (.ishr, 1) := by decide +kernel
theorem dL_isStep_434 : decode cL_isStep 434 = .ok (.bipush 11, 2) := by decide +kernel
theorem dL_isStep_436 : decode cL_isStep 436 = .ok (.invokestatic 15, 3) := by decide +kernel
theorem dL_isStep_439 : decode cL_isStep 439 = .ok (.iadd, 1) := by decide +kernel
theorem dL_isStep_440 : decode cL_isStep 440 = .ok (.goto 67, 3) := by decide +kernel
theorem dL_isStep_443 : decode cL_isStep 443 = .ok (.iload 8, 2) := by decide +kernel
theorem dL_isStep_445 : decode cL_isStep 445 = .ok (.iconst 1, 1) := by decide +kernel
theorem dL_isStep_446 : decode cL_isStep 446 = .ok (.if_icmp .ne 14, 3) := by decide +kernel
theorem dL_isStep_449 : decode cL_isStep 449 = .ok (.iload_n 3, 1) := by decide +kernel
theorem dL_isStep_450 : decode cL_isStep 450 = .ok (.iconst 3, 1) := by decide +kernel
theorem dL_isStep_451 : decode cL_isStep 451 = .ok (.ishr, 1) := by decide +kernel
theorem dL_isStep_452 : decode cL_isStep 452 = .ok (.bipush 10, 2) := by decide +kernel
theorem dL_isStep_454 : decode cL_isStep 454 = .ok (.invokestatic 15, 3) := by decide +kernel
theorem dL_isStep_457 : decode cL_isStep 457 = .ok (.goto 50, 3) := by decide +kernel
theorem dL_isStep_460 : decode cL_isStep 460 = .ok (.iload 8, 2) := by decide +kernel
theorem dL_isStep_462 : decode cL_isStep 462 = .ok (.iconst 2, 1) := by decide +kernel
theorem dL_isStep_463 : decode cL_isStep 463 = .ok (.if_icmp .ne 14, 3) := by decide +kernel
theorem dL_isStep_466 : decode cL_isStep 466 = .ok (.iload_n 3, 1) := by decide +kernel
theorem dL_isStep_467 : decode cL_isStep 467 = .ok (.iconst 3, 1) := by decide +kernel
theorem dL_isStep_468 : decode cL_isStep 468 = .ok (.ishr, 1) := by decide +kernel
theorem dL_isStep_469 : decode cL_isStep 469 = .ok (.bipush 6, 2) := by decide +kernel
theorem dL_isStep_471 : decode cL_isStep 471 = .ok (.invokestatic 15, 3) := by decide +kernel
theorem dL_isStep_474 : decode cL_isStep 474 = .ok (.goto 33, 3) := by decide +kernel
theorem dL_isStep_477 : decode cL_isStep 477 = .ok (.iload 8, 2) := by decide +kernel
theorem dL_isStep_479 : decode cL_isStep 479 = .ok (.iconst 3, 1) := by decide +kernel
theorem dL_isStep_480 : decode cL_isStep 480 = .ok (.if_icmp .ne 16, 3) := by decide +kernel
theorem dL_isStep_483 : decode cL_isStep 483 = .ok (.iconst 5, 1) := by decide +kernel
theorem dL_isStep_484 : decode cL_isStep 484 = .ok (.iload_n 3, 1) := by decide +kernel
theorem dL_isStep_485 : decode cL_isStep 485 = .ok (.iconst 3, 1) := by decide +kernel
theorem dL_isStep_486 : decode cL_isStep 486 = .ok (.ishr, 1) := by decide +kernel
theorem dL_isStep_487 : decode cL_isStep 487 = .ok (.bipush 46, 2) := by decide +kernel
theorem dL_isStep_489 : decode cL_isStep 489 = .ok (.invokestatic 15, 3) := by decide +kernel
theorem dL_isStep_492 : decode cL_isStep 492 = .ok (.iadd, 1) := by decide +kernel
theorem dL_isStep_493 : decode cL_isStep 493 = .ok (.goto 14, 3) := by decide +kernel
theorem dL_isStep_496 : decode cL_isStep 496 = .ok (.bipush 10, 2) := by decide +kernel
theorem dL_isStep_498 : decode cL_isStep 498 = .ok (.iload_n 3, 1) := by decide +kernel
theorem dL_isStep_499 : decode cL_isStep 499 = .ok (.iconst 3, 1) := by decide +kernel
theorem dL_isStep_500 : decode cL_isStep 500 = .ok (.ishr, 1) := by decide +kernel
theorem dL_isStep_501 : decode cL_isStep 501 = .ok (.bipush 90, 2) := by decide +kernel
theorem dL_isStep_503 : decode cL_isStep 503 = .ok (.invokestatic 15, 3) := by decide +kernel
theorem dL_isStep_506 : decode cL_isStep 506 = .ok (.iadd, 1) := by decide +kernel
theorem dL_isStep_507 : decode cL_isStep 507 = .ok (.istore 9, 2) := by decide +kernel
theorem dL_isStep_509 : decode cL_isStep 509 = .ok (.aload_n 0, 1) := by decide +kernel
theorem dL_isStep_510 : decode cL_isStep 510 = .ok (.iload 8, 2) := by decide +kernel
theorem dL_isStep_512 : decode cL_isStep 512 = .ok (.iload 9, 2) := by decide +kernel
theorem dL_isStep_514 : decode cL_isStep 514 = .ok (.invokevirtual 24, 3) := by decide +kernel
theorem dL_isStep_517 : decode cL_isStep 517 = .ok (.aload_n 1, 1) := by decide +kernel
theorem dL_isStep_518 : decode cL_isStep 518 = .ok (.iload 8, 2) := by decide +kernel
theorem dL_isStep_520 : decode cL_isStep 520 = .ok (.iload 9, 2) := by decide +kernel
theorem dL_isStep_522 : decode cL_isStep 522 = .ok (.invokevirtual 24, 3) := by decide +kernel
theorem dL_isStep_525 : decode cL_isStep 525 = .ok (.if_icmp .ne 21, 3) := by decide +kernel
theorem dL_isStep_528 : decode cL_isStep 528 = .ok (.aload_n 0, 1) := by decide +kernel
theorem dL_isStep_529 : decode cL_isStep 529 = .ok (.bipush 20, 2) := by decide +kernel
theorem dL_isStep_531 : decode cL_isStep 531 = .ok (.iload 8, 2) := by decide +kernel
theorem dL_isStep_533 : decode cL_isStep 533 = .ok (.iadd, 1) := by decide +kernel
theorem dL_isStep_534 : decode cL_isStep 534 = .ok (.invokevirtual 9, 3) := by decide +kernel
theorem dL_isStep_537 : decode cL_isStep 537 = .ok (.iload 9, 2) := by decide +kernel
theorem dL_isStep_539 : decode cL_isStep 539 = .ok (.if_icmp .ne 7, 3) := by decide +kernel
theorem dL_isStep_542 : decode cL_isStep 542 = .ok (.iconst 1, 1) := by decide +kernel
theorem dL_isStep_543 : decode cL_isStep 543 = .ok (.goto 4, 3) := by decide +kernel
theorem dL_isStep_546 : decode cL_isStep 546 = .ok (.iconst 0, 1) := by decide +kernel
theorem dL_isStep_547 : decode cL_isStep 547 = .ok (.ireturn, 1) := by decide +kernel
theorem dL_isStep_548 : decode cL_isStep 548 = .ok (.aload_n 0, 1) := by decide +kernel
theorem dL_isStep_549 : decode cL_isStep 549 = .ok (.bipush 6, 2) := by decide +kernel
theorem dL_isStep_551 : decode cL_isStep 551 = .ok (.invokevirtual 9, 3) := by decide +kernel
theorem dL_isStep_554 : decode cL_isStep 554 = .ok (.iconst 1, 1) := by decide +kernel
theorem dL_isStep_555 : decode cL_isStep 555 = .ok (.if_icmp .ne 7, 3) := by decide +kernel
theorem dL_isStep_558 : decode cL_isStep 558 = .ok (.iconst 1, 1) := by decide +kernel
theorem dL_isStep_559 : decode cL_isStep 559 = .ok (.goto 4, 3) := by decide +kernel
theorem dL_isStep_562 : decode cL_isStep 562 = .ok (.iconst 0, 1) := by decide +kernel
theorem dL_isStep_563 : decode cL_isStep 563 = .ok (.istore 8, 2) := by decide +kernel
theorem dL_isStep_565 : decode cL_isStep 565 = .ok (.aload_n 0, 1) := by decide +kernel
theorem dL_isStep_566 : decode cL_isStep 566 = .ok (.bipush 11, 2) := by decide +kernel
theorem dL_isStep_568 : decode cL_isStep 568 = .ok (.invokevirtual 9, 3) := by decide +kernel
theorem dL_isStep_571 : decode cL_isStep 571 = .ok (.istore 9, 2) := by decide +kernel
theorem dL_isStep_573 : decode cL_isStep 573 = .ok (.aload_n 0, 1) := by decide +kernel
theorem dL_isStep_574 : decode cL_isStep 574 = .ok (.bipush 23, 2) := by decide +kernel
theorem dL_isStep_576 : decode cL_isStep 576 = .ok (.invokevirtual 9, 3) := by decide +kernel
theorem dL_isStep_579 : decode cL_isStep 579 = .ok (.istore 10, 2) := by decide +kernel
theorem dL_isStep_581 : decode cL_isStep 581 = .ok (.aload_n 0, 1) := by decide +kernel
theorem dL_isStep_582 : decode cL_isStep 582 = .ok (.invokevirtual 27, 3) := by decide +kernel
theorem dL_isStep_585 : decode cL_isStep 585 = .ok (.istore 11, 2) := by decide +kernel
theorem dL_isStep_587 : decode cL_isStep 587 = .ok (.iload 11, 2) := by decide +kernel
theorem dL_isStep_589 : decode cL_isStep 589 = .ok (.aload_n 1, 1) := by decide +kernel
theorem dL_isStep_590 : decode cL_isStep 590 = .ok (.invokevirtual 27, 3) := by decide +kernel
theorem dL_isStep_593 : decode cL_isStep 593 = .ok (.if_icmp .ne 90, 3) := by decide +kernel
theorem dL_isStep_596 : decode cL_isStep 596 = .ok (.iload 5, 2) := by decide +kernel
theorem dL_isStep_598 : decode cL_isStep 598 = .ok (.iload 10, 2) := by decide +kernel
theorem dL_isStep_600 : decode cL_isStep 600 = .ok (.if_icmp .ge 13, 3) := by decide +kernel
theorem dL_isStep_603 : decode cL_isStep 603 = .ok (.iload 11, 2) := by decide +kernel
theorem dL_isStep_605 : decode cL_isStep 605 = .ok (.bipush (-4), 2) := by decide +kernel
theorem dL_isStep_607 : decode cL_isStep 607 = .ok (.if_icmp .ne 76, 3) := by decide +kernel
theorem dL_isStep_610 : decode cL_isStep 610 = .ok (.goto 69, 3) := by decide +kernel
theorem dL_isStep_613 : decode cL_isStep 613 = .ok (.iload 8, 2) := by decide +kernel
theorem dL_isStep_615 : decode cL_isStep 615 = .ok (.ifCond .ne 13, 3) := by decide +kernel
theorem dL_isStep_618 : decode cL_isStep 618 = .ok (.iload 11, 2) := by decide +kernel
theorem dL_isStep_620 : decode cL_isStep 620 = .ok (.bipush (-5), 2) := by decide +kernel
theorem dL_isStep_622 : decode cL_isStep 622 = .ok (.if_icmp .ne 61, 3) := by decide +kernel
theorem dL_isStep_625 : decode cL_isStep 625 = .ok (.goto 54, 3) := by decide +kernel
theorem dL_isStep_628 : decode cL_isStep 628 = .ok (.iload 11, 2) := by decide +kernel
theorem dL_isStep_630 : decode cL_isStep 630 = .ok (.iconst 1, 1) := by decide +kernel
theorem dL_isStep_631 : decode cL_isStep 631 = .ok (.if_icmp .lt 52, 3) := by decide +kernel
theorem dL_isStep_634 : decode cL_isStep 634 = .ok (.aload_n 0, 1) := by decide +kernel
theorem dL_isStep_635 : decode cL_isStep 635 = .ok (.bipush 6, 2) := by decide +kernel
theorem dL_isStep_637 : decode cL_isStep 637 = .ok (.invokevirtual 9, 3) := by decide +kernel
theorem dL_isStep_640 : decode cL_isStep 640 = .ok (.ifCond .ne 43, 3) := by decide +kernel
theorem dL_isStep_643 : decode cL_isStep 643 = .ok (.aload_n 0, 1) := by decide +kernel
theorem dL_isStep_644 : decode cL_isStep 644 = .ok (.bipush 11, 2) := by decide +kernel
theorem dL_isStep_646 : decode cL_isStep 646 = .ok (.invokevirtual 9, 3) := by decide +kernel
theorem dL_isStep_649 : decode cL_isStep 649 = .ok (.iload 9, 2) := by decide +kernel
theorem dL_isStep_651 : decode cL_isStep 651 = .ok (.iconst 1, 1) := by decide +kernel
theorem dL_isStep_652 : decode cL_isStep 652 = .ok (.iadd, 1) := by decide +kernel
theorem dL_isStep_653 : decode cL_isStep 653 = .ok (.if_icmp .ne 30, 3) := by decide +kernel
theorem dL_isStep_656 : decode cL_isStep 656 = .ok (.aload_n 0, 1) := by decide +kernel
theorem dL_isStep_657 : decode cL_isStep 657 = .ok (.iconst 1, 1) := by decide +kernel
theorem dL_isStep_658 : decode cL_isStep 658 = .ok (.invokevirtual 9, 3) := by decide +kernel
theorem dL_isStep_661 : decode cL_isStep 661 = .ok (.iload 5, 2) := by decide +kernel
theorem dL_isStep_663 : decode cL_isStep 663 = .ok (.iload 10, 2) := by decide +kernel
theorem dL_isStep_665 : decode cL_isStep 665 = .ok (.isub, 1) := by decide +kernel
theorem dL_isStep_666 : decode cL_isStep 666 = .ok (.if_icmp .ne 17, 3) := by decide +kernel
theorem dL_isStep_669 : decode cL_isStep 669 = .ok (.aload_n 0, 1) := by decide +kernel
theorem dL_isStep_670 : decode cL_isStep 670 = .ok (.iconst 0, 1) := by decide +kernel
theorem dL_isStep_671 : decode cL_isStep 671 = .ok (.invokevirtual 9, 3) := by decide +kernel
theorem dL_isStep_674 : decode cL_isStep 674 = .ok (.iload 4, 2) := by decide +kernel
theorem dL_isStep_676 : decode cL_isStep 676 = .ok (.if_icmp .ne 7, 3) := by decide +kernel
theorem dL_isStep_679 : decode cL_isStep 679 = .ok (.iconst 1, 1) := by decide +kernel
theorem dL_isStep_680 : decode cL_isStep 680 = .ok (.goto 4, 3) := by decide +kernel
theorem dL_isStep_683 : decode cL_isStep 683 = .ok (.iconst 0, 1) := by decide +kernel
theorem dL_isStep_684 : decode cL_isStep 684 = .ok (.ireturn, 1) := by decide +kernel
theorem dL_isStep_685 : decode cL_isStep 685 = .ok (.iconst 1, 1) := by decide +kernel
theorem dL_isStep_686 : decode cL_isStep 686 = .ok (.iload_n 3, 1) := by decide +kernel
theorem dL_isStep_687 : decode cL_isStep 687 = .ok (.iload_n 3, 1) := by decide +kernel
theorem dL_isStep_688 : decode cL_isStep 688 = .ok (.bipush 8, 2) := by decide +kernel
theorem dL_isStep_690 : decode cL_isStep 690 = .ok (.ishr, 1) := by decide +kernel
theorem dL_isStep_691 : decode cL_isStep 691 = .ok (.iconst 2, 1) := by decide +kernel
theorem dL_isStep_692 : decode cL_isStep 692 = .ok (.invokestatic 15, 3) := by decide +kernel
theorem dL_isStep_695 : decode cL_isStep 695 = .ok (.ifCond .ne 9, 3) := by decide +kernel
theorem dL_isStep_698 : decode cL_isStep 698 = .ok (.sipush 9999, 3) := by decide +kernel
theorem dL_isStep_701 : decode cL_isStep 701 = .ok (.goto 6, 3) := by decide +kernel
theorem dL_isStep_704 : decode cL_isStep 704 = .ok (.sipush 500, 3) := by decide +kernel
theorem dL_isStep_707 : decode cL_isStep 707 = .ok (.invokestatic 15, 3) := by decide +kernel
theorem dL_isStep_710 : decode cL_isStep 710 = .ok (.iadd, 1) := by decide +kernel
theorem dL_isStep_711 : decode cL_isStep 711 = .ok (.istore 8, 2) := by decide +kernel
theorem dL_isStep_713 : decode cL_isStep 713 = .ok (.aload_n 0, 1) := by decide +kernel
theorem dL_isStep_714 : decode cL_isStep 714 = .ok (.iload 8, 2) := by decide +kernel
theorem dL_isStep_716 : decode cL_isStep 716 = .ok (.invokevirtual 31, 3) := by decide +kernel
theorem dL_isStep_719 : decode cL_isStep 719 = .ok (.istore 9, 2) := by decide +kernel
theorem dL_isStep_721 : decode cL_isStep 721 = .ok (.iload 9, 2) := by decide +kernel
theorem dL_isStep_723 : decode cL_isStep 723 = .ok (.iload 5, 2) := by decide +kernel
theorem dL_isStep_725 : decode cL_isStep 725 = .ok (.if_icmp .ne 43, 3) := by decide +kernel
theorem dL_isStep_728 : decode cL_isStep 728 = .ok (.aload_n 1, 1) := by decide +kernel
theorem dL_isStep_729 : decode cL_isStep 729 = .ok (.iload 8, 2) := by decide +kernel
theorem dL_isStep_731 : decode cL_isStep 731 = .ok (.invokevirtual 31, 3) := by decide +kernel
theorem dL_isStep_734 : decode cL_isStep 734 = .ok (.iload 5, 2) := by decide +kernel
theorem dL_isStep_736 : decode cL_isStep 736 = .ok (.if_icmp .ne 32, 3) := by decide +kernel
theorem dL_isStep_739 : decode cL_isStep 739 = .ok (.aload_n 0, 1) := by decide +kernel
theorem dL_isStep_740 : decode cL_isStep 740 = .ok (.iconst 1, 1) := by decide +kernel
theorem dL_isStep_741 : decode cL_isStep 741 = .ok (.invokevirtual 9, 3) := by decide +kernel
theorem dL_isStep_744 : decode cL_isStep 744 = .ok (.iload 8, 2) := by decide +kernel
theorem dL_isStep_746 : decode cL_isStep 746 = .ok (.if_icmp .ne 22, 3) := by decide +kernel
theorem dL_isStep_749 : decode cL_isStep 749 = .ok (.iload 4, 2) := by decide +kernel
theorem dL_isStep_751 : decode cL_isStep 751 = .ok (.ifCond .eq 13, 3) := by decide +kernel
theorem dL_isStep_754 : decode cL_isStep 754 = .ok (.aload_n 0, 1) := by decide +kernel
theorem dL_isStep_755 : decode cL_isStep 755 = .ok (.bipush 6, 2) := by decide +kernel
theorem dL_isStep_757 : decode cL_isStep 757 = .ok (.invokevirtual 9, 3) := by decide +kernel
theorem dL_isStep_760 : decode cL_isStep 760 = .ok (.iconst 1, 1) := by decide +kernel
theorem dL_isStep_761 : decode cL_isStep 761 = .ok (.if_icmp .ne 7, 3) := by decide +kernel
theorem dL_isStep_764 : decode cL_isStep 764 = .ok (.iconst 1, 1) := by decide +kernel
theorem dL_isStep_765 : decode cL_isStep 765 = .ok (.goto 4, 3) := by decide +kernel
theorem dL_isStep_768 : decode cL_isStep 768 = .ok (.iconst 0, 1) := by decide +kernel
theorem dL_isStep_769 : decode cL_isStep 769 = .ok (.ireturn, 1) := by decide +kernel
theorem dL_isStep_770 : decode cL_isStep 770 = .ok (.iload_n 3, 1) := by decide +kernel
theorem dL_isStep_771 : decode cL_isStep 771 = .ok (.iconst 3, 1) := by decide +kernel
theorem dL_isStep_772 : decode cL_isStep 772 = .ok (.invokestatic 15, 3) := by decide +kernel
theorem dL_isStep_775 : decode cL_isStep 775 = .ok (.ifCond .le 5, 3) := by decide +kernel
theorem dL_isStep_778 : decode cL_isStep 778 = .ok (.iconst 1, 1) := by decide +kernel
theorem dL_isStep_779 : decode cL_isStep 779 = .ok (.ireturn, 1) := by decide +kernel
theorem dL_isStep_780 : decode cL_isStep 780 = .ok (.aload_n 0, 1) := by decide +kernel
theorem dL_isStep_781 : decode cL_isStep 781 = .ok (.bipush 14, 2) := by decide +kernel
theorem dL_isStep_783 : decode cL_isStep 783 = .ok (.invokevirtual 9, 3) := by decide +kernel
theorem dL_isStep_786 : decode cL_isStep 786 = .ok (.istore 8, 2) := by decide +kernel
theorem dL_isStep_788 : decode cL_isStep 788 = .ok (.aload_n 0, 1) := by decide +kernel
theorem dL_isStep_789 : decode cL_isStep 789 = .ok (.invokevirtual 34, 3) := by decide +kernel
theorem dL_isStep_792 : decode cL_isStep 792 = .ok (.istore 9, 2) := by decide +kernel
theorem dL_isStep_794 : decode cL_isStep 794 = .ok (.iload 9, 2) := by decide +kernel
theorem dL_isStep_796 : decode cL_isStep 796 = .ok (.aload_n 1, 1) := by decide +kernel
theorem dL_isStep_797 : decode cL_isStep 797 = .ok (.invokevirtual 34, 3) := by decide +kernel
theorem dL_isStep_800 : decode cL_isStep 800 = .ok (.if_icmp .ne 89, 3) := by decide +kernel
theorem dL_isStep_803 : decode cL_isStep 803 = .ok (.iload 4, 2) := by decide +kernel
theorem dL_isStep_805 : decode cL_isStep 805 = .ok (.ifCond .ne 13, 3) := by decide +kernel
theorem dL_isStep_808 : decode cL_isStep 808 = .ok (.iload 9, 2) := by decide +kernel
theorem dL_isStep_810 : decode cL_isStep 810 = .ok (.bipush (-5), 2) := by decide +kernel
theorem dL_isStep_812 : decode cL_isStep 812 = .ok (.if_icmp .ne 77, 3) := by decide +kernel
theorem dL_isStep_815 : decode cL_isStep 815 = .ok (.goto 70, 3) := by decide +kernel
theorem dL_isStep_818 : decode cL_isStep 818 = .ok (.iload 9, 2) := by decide +kernel
theorem dL_isStep_820 : decode cL_isStep 820 = .ok (.iload 4, 2) := by decide +kernel
theorem dL_isStep_822 : decode cL_isStep 822 = .ok (.if_icmp .ne 67, 3) := by decide +kernel
theorem dL_isStep_825 : decode cL_isStep 825 = .ok (.aload_n 0, 1) := by decide +kernel
theorem dL_isStep_826 : decode cL_isStep 826 = .ok (.iconst 0, 1) := by decide +kernel
theorem dL_isStep_827 : decode cL_isStep 827 = .ok (.invokevirtual 9, 3) := by decide +kernel
theorem dL_isStep_830 : decode cL_isStep 830 = .ok (.ifCond .ne 59, 3) := by decide +kernel
theorem dL_isStep_833 : decode cL_isStep 833 = .ok (.aload_n 0, 1) := by decide +kernel
theorem dL_isStep_834 : decode cL_isStep 834 = .ok (.bipush 14, 2) := by decide +kernel
theorem dL_isStep_836 : decode cL_isStep 836 = .ok (.invokevirtual 9, 3) := by decide +kernel
theorem dL_isStep_839 : decode cL_isStep 839 = .ok (.iload 8, 2) := by decide +kernel
theorem dL_isStep_841 : decode cL_isStep 841 = .ok (.iconst 1, 1) := by decide +kernel
theorem dL_isStep_842 : decode cL_isStep 842 = .ok (.iadd, 1) := by decide +kernel
theorem dL_isStep_843 : decode cL_isStep 843 = .ok (.if_icmp .ne 46, 3) := by decide +kernel
theorem dL_isStep_846 : decode cL_isStep 846 = .ok (.aload_n 0, 1) := by decide +kernel
theorem dL_isStep_847 : decode cL_isStep 847 = .ok (.bipush 9, 2) := by decide +kernel
theorem dL_isStep_849 : decode cL_isStep 849 = .ok (.invokevirtual 9, 3) := by decide +kernel
theorem dL_isStep_852 : decode cL_isStep 852 = .ok (.ifCond .ne 37, 3) := by decide +kernel
theorem dL_isStep_855 : decode cL_isStep 855 = .ok (.aload_n 0, 1) := by decide +kernel
theorem dL_isStep_856 : decode cL_isStep 856 = .ok (.iconst 2, 1) := by decide +kernel
theorem dL_isStep_857 : decode cL_isStep 857 = .ok (.invokevirtual 9, 3) := by decide +kernel
theorem dL_isStep_860 : decode cL_isStep 860 = .ok (.ifCond .ne 29, 3) := by decide +kernel
theorem dL_isStep_863 : decode cL_isStep 863 = .ok (.aload_n 0, 1) := by decide +kernel
theorem dL_isStep_864 : decode cL_isStep 864 = .ok (.bipush 12, 2) := by decide +kernel
theorem dL_isStep_866 : decode cL_isStep 866 = .ok (.invokevirtual 9, 3) := by decide +kernel
theorem dL_isStep_869 : decode cL_isStep 869 = .ok (.iload 6, 2) := by decide +kernel
theorem dL_isStep_871 : decode cL_isStep 871 = .ok (.if_icmp .ne 18, 3) := by decide +kernel
theorem dL_isStep_874 : decode cL_isStep 874 = .ok (.aload_n 0, 1) := by decide +kernel
theorem dL_isStep_875 : decode cL_isStep 875 = .ok (.bipush 13, 2) := by decide +kernel
theorem dL_isStep_877 : decode cL_isStep 877 = .ok (.invokevirtual 9, 3) := by decide +kernel
theorem dL_isStep_880 : decode cL_isStep 880 = .ok (.iload 7, 2) := by decide +kernel
theorem dL_isStep_882 : decode cL_isStep 882 = .ok (.if_icmp .ne 7, 3) := by decide +kernel
theorem dL_isStep_885 : decode cL_isStep 885 = .ok (.iconst 1, 1) := by decide +kernel
theorem dL_isStep_886 : decode cL_isStep 886 = .ok (.goto 4, 3) := by decide +kernel
theorem dL_isStep_889 : decode cL_isStep 889 = .ok (.iconst 0, 1) := by decide +kernel
theorem dL_isStep_890 : decode cL_isStep 890 = .ok (.ireturn, 1) := by decide +kernel
theorem dL_isStep_891 : decode cL_isStep 891 = .ok (.iconst 1, 1) := by decide +kernel
theorem dL_isStep_892 : decode cL_isStep 892 = .ok (.iload_n 3, 1) := by decide +kernel
theorem dL_isStep_893 : decode cL_isStep 893 = .ok (.bipush 11, 2) := by decide +kernel
theorem dL_isStep_895 : decode cL_isStep 895 = .ok (.invokestatic 15, 3) := by decide +kernel
theorem dL_isStep_898 : decode cL_isStep 898 = .ok (.iadd, 1) := by decide +kernel
theorem dL_isStep_899 : decode cL_isStep 899 = .ok (.istore 8, 2) := by decide +kernel
theorem dL_isStep_901 : decode cL_isStep 901 = .ok (.iconst 1, 1) := by decide +kernel
theorem dL_isStep_902 : decode cL_isStep 902 = .ok (.iload_n 3, 1) := by decide +kernel
theorem dL_isStep_903 : decode cL_isStep 903 = .ok (.iconst 4, 1) := by decide +kernel
theorem dL_isStep_904 : decode cL_isStep 904 = .ok (.ishr, 1) := by decide +kernel
theorem dL_isStep_905 : decode cL_isStep 905 = .ok (.bipush 40, 2) := by decide +kernel
theorem dL_isStep_907 : decode cL_isStep 907 = .ok (.invokestatic 15, 3) := by decide +kernel
theorem dL_isStep_910 : decode cL_isStep 910 = .ok (.iadd, 1) := by decide +kernel
theorem dL_isStep_911 : decode cL_isStep 911 = .ok (.istore 9, 2) := by decide +kernel
theorem dL_isStep_913 : decode cL_isStep 913 = .ok (.aload_n 0, 1) := by decide +kernel
theorem dL_isStep_914 : decode cL_isStep 914 = .ok (.iload 8, 2) := by decide +kernel
theorem dL_isStep_916 : decode cL_isStep 916 = .ok (.iload 9, 2) := by decide +kernel
theorem dL_isStep_918 : decode cL_isStep 918 = .ok (.iconst 0, 1) := by decide +kernel
theorem dL_isStep_919 : decode cL_isStep 919 = .ok (.invokevirtual 37, 3) := by decide +kernel
theorem dL_isStep_922 : decode cL_isStep 922 = .ok (.aload_n 1, 1) := by decide +kernel
theorem dL_isStep_923 : decode cL_isStep 923 = .ok (.iload 8, 2) := by decide +kernel
theorem dL_isStep_925 : decode cL_isStep 925 = .ok (.iload 9, 2) := by decide +kernel
theorem dL_isStep_927 : decode cL_isStep 927 = .ok (.iconst 0, 1) := by decide +kernel
theorem dL_isStep_928 : decode cL_isStep 928 = .ok (.invokevirtual 37, 3) := by decide +kernel
theorem dL_isStep_931 : decode cL_isStep 931 = .ok (.if_icmp .ne 16, 3) := by decide +kernel
theorem dL_isStep_934 : decode cL_isStep 934 = .ok (.aload_n 0, 1) := by decide +kernel
theorem dL_isStep_935 : decode cL_isStep 935 = .ok (.iload 8, 2) := by decide +kernel
theorem dL_isStep_937 : decode cL_isStep 937 = .ok (.invokestatic 41, 3) := by decide +kernel
theorem dL_isStep_940 : decode cL_isStep 940 = .ok (.ifCond .eq 7, 3) := by decide +kernel
theorem dL_isStep_943 : decode cL_isStep 943 = .ok (.iconst 1, 1) := by decide +kernel
theorem dL_isStep_944 : decode cL_isStep 944 = .ok (.goto 4, 3) := by decide +kernel
theorem dL_isStep_947 : decode cL_isStep 947 = .ok (.iconst 0, 1) := by decide +kernel
theorem dL_isStep_948 : decode cL_isStep 948 = .ok (.ireturn, 1) := by decide +kernel
