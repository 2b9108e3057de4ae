theorem dL_cell_0 : decode cL_cell 0 = .ok (.iload_n 1, 1) := by decide +kernel
theorem dL_cell_1 : decode cL_cell 1 = .ok (.aload_n 0, 1) := by decide +kernel
theorem dL_cell_2 : decode cL_cell 2 = .ok (.arraylength, 1) := by decide +kernel
theorem dL_cell_3 : decode cL_cell 3 = .ok (.if_icmp .ge 9, 3) := by decide +kernel
theorem dL_cell_6 : decode cL_cell 6 = .ok (.aload_n 0, 1) := by decide +kernel
theorem dL_cell_7 : decode cL_cell 7 = .ok (.iload_n 1, 1) := by decide +kernel
theorem dL_cell_8 : decode cL_cell 8 = .ok (.iaload, 1) := by decide +kernel
theorem dL_cell_9 : decode cL_cell 9 = .ok (.goto 11, 3) := by decide +kernel
theorem dL_cell_12 : decode cL_cell 12 = .ok (.ldc 7, 2) := by decide +kernel
theorem dL_cell_14 : decode cL_cell 14 = .ok (.iload_n 1, 1) := by decide +kernel
theorem dL_cell_15 : decode cL_cell 15 = .ok (.sipush 1039, 3) := by decide +kernel
theorem dL_cell_18 : decode cL_cell 18 = .ok (.iadd, 1) := by decide +kernel
theorem dL_cell_19 : decode cL_cell 19 = .ok (.imul, 1) := by decide +kernel
theorem dL_cell_20 : decode cL_cell 20 = .ok (.ireturn, 1) := by decide +kernel
theorem dL_up_0 : decode cL_up 0 = .ok (.iload_n 0, 1) := by decide +kernel
theorem dL_up_1 : decode cL_up 1 = .ok (.ldc 8, 2) := by decide +kernel
theorem dL_up_3 : decode cL_up 3 = .ok (.iand, 1) := by decide +kernel
theorem dL_up_4 : decode cL_up 4 = .ok (.iload_n 1, 1) := by decide +kernel
theorem dL_up_5 : decode cL_up 5 = .ok (.irem, 1) := by decide +kernel
theorem dL_up_6 : decode cL_up 6 = .ok (.ireturn, 1) := by decide +kernel
set_option maxRecDepth 20000 in
theorem ggL_isRound_X4_period : GoodIn wsL_isRound wsX4_period := goodIn_r _ [5, 6, 7, 4, 8, 9, 10, 11, 12, 13, 14, 15, 16] (by decide +kernel) (by decide +kernel)
set_option maxRecDepth 20000 in
theorem gL_isRound_X4_period : GoodIn wsL_isRound (wsV RL 45 RX4 yX4_period wsX4_period) := goodIn_app (goodIn_of _ (by decide +kernel)) ggL_isRound_X4_period
set_option maxRecDepth 20000 in
theorem ggL_isRound_X4_count : GoodIn wsL_isRound wsX4_count := goodIn_r _ [20, 21, 22, 23, 24, 25, 26, 27, 28, 29, 30, 31, 32, 33, 4, 34, 35, 36, 37, 38, 39, 40, 41, 42, 43, 44, 45, 46, 47, 48, 49, 50, 51, 52, 53, 54, 55, 56, 57, 58, 59, 60, 61, 62, 63, 64, 65, 66, 67, 68, 69, 70, 71, 72, 73, 74, 109, 110, 111, 112, 113, 114, 115, 116, 117, 118, 119, 120, 121, 122, 123, 124, 125, 126, 127, 128, 129, 130, 131, 132, 133, 134, 135, 136, 137, 138, 139, 140, 141] (by decide +kernel) (by decide +kernel)
set_option maxRecDepth 20000 in
theorem gL_isRound_X4_count : GoodIn wsL_isRound (wsV RL 9 RX4 yX4_count wsX4_count) := goodIn_app (goodIn_of _ (by decide +kernel)) ggL_isRound_X4_count
set_option maxRecDepth 20000 in
theorem ggL_isRound_X4_ifTraverse : GoodIn wsL_isRound wsX4_ifTraverse := goodIn_r _ [78, 79, 6, 7, 4, 8, 9, 10, 11, 12, 13, 14, 15, 16, 80, 81, 82, 83, 21, 84, 25, 85, 86, 47, 87, 43, 28, 88, 89, 90, 91, 40, 41, 42, 92, 93, 94, 95, 96, 50, 97, 98, 24, 26, 27, 71, 36, 72, 73, 74, 99, 100, 101, 33, 34, 44, 45, 46, 48, 49, 51, 52, 53, 54, 55, 56, 57, 58, 59, 60, 61, 62, 63, 64, 65, 66, 102, 103, 104, 109, 110, 111, 112, 113, 114, 115, 116, 128, 129, 130, 131, 117, 118, 119, 120, 121, 122, 123, 124, 125, 126, 127] (by decide +kernel) (by decide +kernel)
set_option maxRecDepth 20000 in
theorem gL_isRound_X4_ifTraverse : GoodIn wsL_isRound (wsV RL 37 RX4 yX4_ifTraverse wsX4_ifTraverse) := goodIn_app (goodIn_of _ (by decide +kernel)) ggL_isRound_X4_ifTraverse
set_option maxRecDepth 20000 in
theorem ggL_isRound_X4_bestTraverse : GoodIn wsL_isRound wsX4_bestTraverse := goodIn_r _ [108, 79, 6, 7, 4, 8, 9, 10, 11, 12, 13, 14, 15, 16, 80, 81, 82, 83, 21, 84, 25, 85, 86, 47, 87, 43, 28, 88, 89, 90, 91, 40, 41, 42, 92, 93, 94, 95, 96, 50, 97, 98, 24, 26, 27, 71, 36, 72, 73, 74, 99, 100, 101, 33, 34, 44, 45, 46, 48, 49, 51, 109, 110, 111, 112, 113, 114, 115, 116, 128, 129, 130, 131, 117, 118, 119, 120, 121, 122, 123, 124, 125, 126, 127] (by decide +kernel) (by decide +kernel)
set_option maxRecDepth 20000 in
theorem gL_isRound_X4_bestTraverse : GoodIn wsL_isRound (wsV RL 48 RX4 yX4_bestTraverse wsX4_bestTraverse) := goodIn_app (goodIn_of _ (by decide +kernel)) ggL_isRound_X4_bestTraverse
theorem dL_isRound_0 : decode cL_isRound 0 = .ok (.aload_n 0, 1) := by decide +kernel
theorem dL_isRound_1 : decode cL_isRound 1 = .ok (.iload_n 1, 1) := by decide +kernel
theorem dL_isRound_2 : decode cL_isRound 2 = .ok (.invokevirtual 45, 3) := by decide +kernel
theorem dL_isRound_5 : decode cL_isRound 5 = .ok (.istore_n 2, 1) := by decide +kernel
theorem dL_isRound_6 : decode cL_isRound 6 = .ok (.bipush 22, 2) := by decide +kernel
theorem dL_isRound_8 : decode cL_isRound 8 = .ok (.iload_n 2, 1) := by decide +kernel
theorem dL_isRound_9 : decode cL_isRound 9 = .ok (.irem, 1) := by decide +kernel
theorem dL_isRound_10 : decode cL_isRound 10 = .ok (.ifCond .ne 32, 3) := by decide +kernel
theorem dL_isRound_13 : decode cL_isRound 13 = .ok (.iload_n 2, 1) := by decide +kernel
theorem dL_isRound_14 : decode cL_isRound 14 = .ok (.iload_n 1, 1) := by decide +kernel
theorem dL_isRound_15 : decode cL_isRound 15 = .ok (.imul, 1) := by decide +kernel
theorem dL_isRound_16 : decode cL_isRound 16 = .ok (.bipush 22, 2) := by decide +kernel
theorem dL_isRound_18 : decode cL_isRound 18 = .ok (.irem, 1) := by decide +kernel
theorem dL_isRound_19 : decode cL_isRound 19 = .ok (.ifCond .ne 23, 3) := by decide +kernel
theorem dL_isRound_22 : decode cL_isRound 22 = .ok (.iload_n 2, 1) := by decide +kernel
theorem dL_isRound_23 : decode cL_isRound 23 = .ok (.iconst 1, 1) := by decide +kernel
theorem dL_isRound_24 : decode cL_isRound 24 = .ok (.if_icmp .eq 14, 3) := by decide +kernel
theorem dL_isRound_27 : decode cL_isRound 27 = .ok (.iload_n 1, 1) := by decide +kernel
theorem dL_isRound_28 : decode cL_isRound 28 = .ok (.iload_n 2, 1) := by decide +kernel
theorem dL_isRound_29 : decode cL_isRound 29 = .ok (.iconst 1, 1) := by decide +kernel
theorem dL_isRound_30 : decode cL_isRound 30 = .ok (.isub, 1) := by decide +kernel
theorem dL_isRound_31 : decode cL_isRound 31 = .ok (.imul, 1) := by decide +kernel
theorem dL_isRound_32 : decode cL_isRound 32 = .ok (.bipush 22, 2) := by decide +kernel
theorem dL_isRound_34 : decode cL_isRound 34 = .ok (.irem, 1) := by decide +kernel
theorem dL_isRound_35 : decode cL_isRound 35 = .ok (.ifCond .eq 7, 3) := by decide +kernel
theorem dL_isRound_38 : decode cL_isRound 38 = .ok (.iconst 1, 1) := by decide +kernel
theorem dL_isRound_39 : decode cL_isRound 39 = .ok (.goto 4, 3) := by decide +kernel
theorem dL_isRound_42 : decode cL_isRound 42 = .ok (.iconst 0, 1) := by decide +kernel
theorem dL_isRound_43 : decode cL_isRound 43 = .ok (.istore_n 3, 1) := by decide +kernel
theorem dL_isRound_44 : decode cL_isRound 44 = .ok (.aload_n 0, 1) := by decide +kernel
theorem dL_isRound_45 : decode cL_isRound 45 = .ok (.bipush 22, 2) := by decide +kernel
theorem dL_isRound_47 : decode cL_isRound 47 = .ok (.invokevirtual 9, 3) := by decide +kernel
theorem dL_isRound_50 : decode cL_isRound 50 = .ok (.ifCond .ne 70, 3) := by decide +kernel
theorem dL_isRound_53 : decode cL_isRound 53 = .ok (.iload_n 3, 1) := by decide +kernel
theorem dL_isRound_54 : decode cL_isRound 54 = .ok (.ifCond .eq 64, 3) := by decide +kernel
theorem dL_isRound_57 : decode cL_isRound 57 = .ok (.iload_n 2, 1) := by decide +kernel
theorem dL_isRound_58 : decode cL_isRound 58 = .ok (.bipush 22, 2) := by decide +kernel
theorem dL_isRound_60 : decode cL_isRound 60 = .ok (.if_icmp .ge 19, 3) := by decide +kernel
theorem dL_isRound_63 : decode cL_isRound 63 = .ok (.aload_n 0, 1) := by decide +kernel
theorem dL_isRound_64 : decode cL_isRound 64 = .ok (.iload_n 1, 1) := by decide +kernel
theorem dL_isRound_65 : decode cL_isRound 65 = .ok (.bipush 11, 2) := by decide +kernel
theorem dL_isRound_67 : decode cL_isRound 67 = .ok (.iload_n 2, 1) := by decide +kernel
theorem dL_isRound_68 : decode cL_isRound 68 = .ok (.imul, 1) := by decide +kernel
theorem dL_isRound_69 : decode cL_isRound 69 = .ok (.iconst 2, 1) := by decide +kernel
theorem dL_isRound_70 : decode cL_isRound 70 = .ok (.invokevirtual 37, 3) := by decide +kernel
theorem dL_isRound_73 : decode cL_isRound 73 = .ok (.ifCond .lt 45, 3) := by decide +kernel
theorem dL_isRound_76 : decode cL_isRound 76 = .ok (.goto 38, 3) := by decide +kernel
theorem dL_isRound_79 : decode cL_isRound 79 = .ok (.aload_n 0, 1) := by decide +kernel
theorem dL_isRound_80 : decode cL_isRound 80 = .ok (.iload_n 1, 1) := by decide +kernel
theorem dL_isRound_81 : decode cL_isRound 81 = .ok (.bipush 22, 2) := by decide +kernel
theorem dL_isRound_83 : decode cL_isRound 83 = .ok (.iconst 0, 1) := by decide +kernel
theorem dL_isRound_84 : decode cL_isRound 84 = .ok (.invokevirtual 37, 3) := by decide +kernel
theorem dL_isRound_87 : decode cL_isRound 87 = .ok (.iconst 1, 1) := by decide +kernel
theorem dL_isRound_88 : decode cL_isRound 88 = .ok (.if_icmp .ne 30, 3) := by decide +kernel
theorem dL_isRound_91 : decode cL_isRound 91 = .ok (.aload_n 0, 1) := by decide +kernel
theorem dL_isRound_92 : decode cL_isRound 92 = .ok (.iload_n 1, 1) := by decide +kernel
theorem dL_isRound_93 : decode cL_isRound 93 = .ok (.bipush 44, 2) := by decide +kernel
theorem dL_isRound_95 : decode cL_isRound 95 = .ok (.iconst 0, 1) := by decide +kernel
theorem dL_isRound_96 : decode cL_isRound 96 = .ok (.invokevirtual 37, 3) := by decide +kernel
theorem dL_isRound_99 : decode cL_isRound 99 = .ok (.iconst 2, 1) := by decide +kernel
theorem dL_isRound_100 : decode cL_isRound 100 = .ok (.if_icmp .ne 18, 3) := by decide +kernel
theorem dL_isRound_103 : decode cL_isRound 103 = .ok (.aload_n 0, 1) := by decide +kernel
theorem dL_isRound_104 : decode cL_isRound 104 = .ok (.iload_n 1, 1) := by decide +kernel
theorem dL_isRound_105 : decode cL_isRound 105 = .ok (.bipush 22, 2) := by decide +kernel
theorem dL_isRound_107 : decode cL_isRound 107 = .ok (.iconst 2, 1) := by decide +kernel
theorem dL_isRound_108 : decode cL_isRound 108 = .ok (.invokevirtual 37, 3) := by decide +kernel
theorem dL_isRound_111 : decode cL_isRound 111 = .ok (.ifCond .ne 7, 3) := by decide +kernel
theorem dL_isRound_114 : decode cL_isRound 114 = .ok (.iconst 1, 1) := by decide +kernel
theorem dL_isRound_115 : decode cL_isRound 115 = .ok (.goto 4, 3) := by decide +kernel
theorem dL_isRound_118 : decode cL_isRound 118 = .ok (.iconst 0, 1) := by decide +kernel
theorem dL_isRound_119 : decode cL_isRound 119 = .ok (.istore_n 3, 1) := by decide +kernel
theorem dL_isRound_120 : decode cL_isRound 120 = .ok (.aload_n 0, 1) := by decide +kernel
theorem dL_isRound_121 : decode cL_isRound 121 = .ok (.bipush 22, 2) := by decide +kernel
theorem dL_isRound_123 : decode cL_isRound 123 = .ok (.invokevirtual 48, 3) := by decide +kernel
theorem dL_isRound_126 : decode cL_isRound 126 = .ok (.istore 4, 2) := by decide +kernel
theorem dL_isRound_128 : decode cL_isRound 128 = .ok (.iload_n 3, 1) := by decide +kernel
theorem dL_isRound_129 : decode cL_isRound 129 = .ok (.ifCond .eq 49, 3) := by decide +kernel
theorem dL_isRound_132 : decode cL_isRound 132 = .ok (.aload_n 0, 1) := by decide +kernel
theorem dL_isRound_133 : decode cL_isRound 133 = .ok (.iload 4, 2) := by decide +kernel
theorem dL_isRound_135 : decode cL_isRound 135 = .ok (.bipush 22, 2) := by decide +kernel
theorem dL_isRound_137 : decode cL_isRound 137 = .ok (.iconst 0, 1) := by decide +kernel
theorem dL_isRound_138 : decode cL_isRound 138 = .ok (.invokevirtual 37, 3) := by decide +kernel
theorem dL_isRound_141 : decode cL_isRound 141 = .ok (.aload_n 0, 1) := by decide +kernel
theorem dL_isRound_142 : decode cL_isRound 142 = .ok (.iload_n 1, 1) := by decide +kernel
theorem dL_isRound_143 : decode cL_isRound 143 = .ok (.bipush 22, 2) := by decide +kernel
theorem dL_isRound_145 : decode cL_isRound 145 = .ok (.iconst 0, 1) := by decide +kernel
theorem dL_isRound_146 : decode cL_isRound 146 = .ok (.invokevirtual 37, 3) := by decide +kernel
theorem dL_isRound_149 : decode cL_isRound 149 = .ok (.if_icmp .gt 29, 3) := by decide +kernel
theorem dL_isRound_152 : decode cL_isRound 152 = .ok (.aload_n 0, 1) := by decide +kernel
theorem dL_isRound_153 : decode cL_isRound 153 = .ok (.iload_n 1, 1) := by decide +kernel
theorem dL_isRound_154 : decode cL_isRound 154 = .ok (.bipush 12, 2) := by decide +kernel
theorem dL_isRound_156 : decode cL_isRound 156 = .ok (.iconst 2, 1) := by decide +kernel
theorem dL_isRound_157 : decode cL_isRound 157 = .ok (.invokevirtual 37, 3) := by decide +kernel
theorem dL_isRound_160 : decode cL_isRound 160 = .ok (.ifCond .gt 14, 3) := by decide +kernel
theorem dL_isRound_163 : decode cL_isRound 163 = .ok (.aload_n 0, 1) := by decide +kernel
theorem dL_isRound_164 : decode cL_isRound 164 = .ok (.iload_n 1, 1) := by decide +kernel
theorem dL_isRound_165 : decode cL_isRound 165 = .ok (.bipush 12, 2) := by decide +kernel
theorem dL_isRound_167 : decode cL_isRound 167 = .ok (.iconst 0, 1) := by decide +kernel
theorem dL_isRound_168 : decode cL_isRound 168 = .ok (.invokevirtual 37, 3) := by decide +kernel
theorem dL_isRound_171 : decode cL_isRound 171 = .ok (.ifCond .ne 7, 3) := by decide +kernel
theorem dL_isRound_174 : decode cL_isRound 174 = .ok (.iconst 1, 1) := by decide +kernel
theorem dL_isRound_175 : decode cL_isRound 175 = .ok (.goto 4, 3) := by decide +kernel
theorem dL_isRound_178 : decode cL_isRound 178 = .ok (.iconst 0, 1) := by decide +kernel
theorem dL_isRound_179 : decode cL_isRound 179 = .ok (.ireturn, 1) := by decide +kernel
