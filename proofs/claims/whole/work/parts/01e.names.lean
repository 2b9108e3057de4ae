theorem dX5_init_0 : decode cX5_init 0 = .ok (.aload_n 0, 1) := by decide +kernel
theorem dX5_init_1 : decode cX5_init 1 = .ok (.invokespecial 1, 3) := by decide +kernel
theorem dX5_init_4 : decode cX5_init 4 = .ok (.aload_n 0, 1) := by decide +kernel
theorem dX5_init_5 : decode cX5_init 5 = .ok (.bipush 37, 2) := by decide +kernel
theorem dX5_init_7 : decode cX5_init 7 = .ok (.newarray .int, 2) := by decide +kernel
theorem dX5_init_9 : decode cX5_init 9 = .ok (.putfield 7, 3) := by decide +kernel
theorem dX5_init_12 : decode cX5_init 12 = .ok (.aload_n 0, 1) := by decide +kernel
theorem dX5_init_13 : decode cX5_init 13 = .ok (.bipush 37, 2) := by decide +kernel
theorem dX5_init_15 : decode cX5_init 15 = .ok (.newarray .int, 2) := by decide +kernel
theorem dX5_init_17 : decode cX5_init 17 = .ok (.putfield 13, 3) := by decide +kernel
theorem dX5_init_20 : decode cX5_init 20 = .ok (.aload_n 0, 1) := by decide +kernel
theorem dX5_init_21 : decode cX5_init 21 = .ok (.bipush 37, 2) := by decide +kernel
theorem dX5_init_23 : decode cX5_init 23 = .ok (.newarray .int, 2) := by decide +kernel
theorem dX5_init_25 : decode cX5_init 25 = .ok (.putfield 16, 3) := by decide +kernel
theorem dX5_init_28 : decode cX5_init 28 = .ok (.aload_n 0, 1) := by decide +kernel
theorem dX5_init_29 : decode cX5_init 29 = .ok (.sipush 148, 3) := by decide +kernel
theorem dX5_init_32 : decode cX5_init 32 = .ok (.newarray .int, 2) := by decide +kernel
theorem dX5_init_34 : decode cX5_init 34 = .ok (.putfield 19, 3) := by decide +kernel
theorem dX5_init_37 : decode cX5_init 37 = .ok (.aload_n 0, 1) := by decide +kernel
theorem dX5_init_38 : decode cX5_init 38 = .ok (.bipush 37, 2) := by decide +kernel
theorem dX5_init_40 : decode cX5_init 40 = .ok (.newarray .int, 2) := by decide +kernel
theorem dX5_init_42 : decode cX5_init 42 = .ok (.putfield 22, 3) := by decide +kernel
theorem dX5_init_45 : decode cX5_init 45 = .ok (.aload_n 0, 1) := by decide +kernel
theorem dX5_init_46 : decode cX5_init 46 = .ok (.bipush 60, 2) := by decide +kernel
theorem dX5_init_48 : decode cX5_init 48 = .ok (.newarray .int, 2) := by decide +kernel
theorem dX5_init_50 : decode cX5_init 50 = .ok (.putfield 25, 3) := by decide +kernel
theorem dX5_init_53 : decode cX5_init 53 = .ok (.aload_n 0, 1) := by decide +kernel
theorem dX5_init_54 : decode cX5_init 54 = .ok (.bipush (-5), 2) := by decide +kernel
theorem dX5_init_56 : decode cX5_init 56 = .ok (.putfield 28, 3) := by decide +kernel
theorem dX5_init_59 : decode cX5_init 59 = .ok (.aload_n 0, 1) := by decide +kernel
theorem dX5_init_60 : decode cX5_init 60 = .ok (.getfield 7, 3) := by decide +kernel
theorem dX5_init_63 : decode cX5_init 63 = .ok (.bipush 24, 2) := by decide +kernel
theorem dX5_init_65 : decode cX5_init 65 = .ok (.iconst 5, 1) := by decide +kernel
theorem dX5_init_66 : decode cX5_init 66 = .ok (.iastore, 1) := by decide +kernel
theorem dX5_init_67 : decode cX5_init 67 = .ok (.aload_n 0, 1) := by decide +kernel
theorem dX5_init_68 : decode cX5_init 68 = .ok (.getfield 7, 3) := by decide +kernel
theorem dX5_init_71 : decode cX5_init 71 = .ok (.bipush 25, 2) := by decide +kernel
theorem dX5_init_73 : decode cX5_init 73 = .ok (.iconst 3, 1) := by decide +kernel
theorem dX5_init_74 : decode cX5_init 74 = .ok (.iastore, 1) := by decide +kernel
theorem dX5_init_75 : decode cX5_init 75 = .ok (.aload_n 0, 1) := by decide +kernel
theorem dX5_init_76 : decode cX5_init 76 = .ok (.getfield 7, 3) := by decide +kernel
theorem dX5_init_79 : decode cX5_init 79 = .ok (.bipush 27, 2) := by decide +kernel
theorem dX5_init_81 : decode cX5_init 81 = .ok (.bipush 10, 2) := by decide +kernel
theorem dX5_init_83 : decode cX5_init 83 = .ok (.iastore, 1) := by decide +kernel
theorem dX5_init_84 : decode cX5_init 84 = .ok (.aload_n 0, 1) := by decide +kernel
theorem dX5_init_85 : decode cX5_init 85 = .ok (.getfield 7, 3) := by decide +kernel
theorem dX5_init_88 : decode cX5_init 88 = .ok (.bipush 28, 2) := by decide +kernel
theorem dX5_init_90 : decode cX5_init 90 = .ok (.bipush 60, 2) := by decide +kernel
theorem dX5_init_92 : decode cX5_init 92 = .ok (.iastore, 1) := by decide +kernel
theorem dX5_init_93 : decode cX5_init 93 = .ok (.aload_n 0, 1) := by decide +kernel
theorem dX5_init_94 : decode cX5_init 94 = .ok (.getfield 7, 3) := by decide +kernel
theorem dX5_init_97 : decode cX5_init 97 = .ok (.bipush 30, 2) := by decide +kernel
theorem dX5_init_99 : decode cX5_init 99 = .ok (.sipush 5000, 3) := by decide +kernel
theorem dX5_init_102 : decode cX5_init 102 = .ok (.iastore, 1) := by decide +kernel
theorem dX5_init_103 : decode cX5_init 103 = .ok (.aload_n 0, 1) := by decide +kernel
theorem dX5_init_104 : decode cX5_init 104 = .ok (.getfield 7, 3) := by decide +kernel
theorem dX5_init_107 : decode cX5_init 107 = .ok (.bipush 34, 2) := by decide +kernel
theorem dX5_init_109 : decode cX5_init 109 = .ok (.bipush (-5), 2) := by decide +kernel
theorem dX5_init_111 : decode cX5_init 111 = .ok (.iastore, 1) := by decide +kernel
theorem dX5_init_112 : decode cX5_init 112 = .ok (.return_, 1) := by decide +kernel
theorem dX5_in_0 : decode cX5_in 0 = .ok (.lload_n 0, 1) := by decide +kernel
theorem dX5_in_1 : decode cX5_in 1 = .ok (.lload_n 2, 1) := by decide +kernel
theorem dX5_in_2 : decode cX5_in 2 = .ok (.lcmp, 1) := by decide +kernel
theorem dX5_in_3 : decode cX5_in 3 = .ok (.ifCond .lt 14, 3) := by decide +kernel
theorem dX5_in_6 : decode cX5_in 6 = .ok (.lload_n 0, 1) := by decide +kernel
theorem dX5_in_7 : decode cX5_in 7 = .ok (.lload 4, 2) := by decide +kernel
theorem dX5_in_9 : decode cX5_in 9 = .ok (.lcmp, 1) := by decide +kernel
theorem dX5_in_10 : decode cX5_in 10 = .ok (.ifCond .gt 7, 3) := by decide +kernel
theorem dX5_in_13 : decode cX5_in 13 = .ok (.iconst 1, 1) := by decide +kernel
theorem dX5_in_14 : decode cX5_in 14 = .ok (.goto 4, 3) := by decide +kernel
theorem dX5_in_17 : decode cX5_in 17 = .ok (.iconst 0, 1) := by decide +kernel
theorem dX5_in_18 : decode cX5_in 18 = .ok (.ireturn, 1) := by decide +kernel
theorem dX5_copy_0 : decode cX5_copy 0 = .ok (.iconst 0, 1) := by decide +kernel
theorem dX5_copy_1 : decode cX5_copy 1 = .ok (.istore_n 2, 1) := by decide +kernel
theorem dX5_copy_2 : decode cX5_copy 2 = .ok (.iload_n 2, 1) := by decide +kernel
theorem dX5_copy_3 : decode cX5_copy 3 = .ok (.bipush 37, 2) := by decide +kernel
theorem dX5_copy_5 : decode cX5_copy 5 = .ok (.if_icmp .ge 15, 3) := by decide +kernel
theorem dX5_copy_8 : decode cX5_copy 8 = .ok (.aload_n 1, 1) := by decide +kernel
theorem dX5_copy_9 : decode cX5_copy 9 = .ok (.iload_n 2, 1) := by decide +kernel
theorem dX5_copy_10 : decode cX5_copy 10 = .ok (.aload_n 0, 1) := by decide +kernel
theorem dX5_copy_11 : decode cX5_copy 11 = .ok (.iload_n 2, 1) := by decide +kernel
theorem dX5_copy_12 : decode cX5_copy 12 = .ok (.iaload, 1) := by decide +kernel
theorem dX5_copy_13 : decode cX5_copy 13 = .ok (.iastore, 1) := by decide +kernel
theorem dX5_copy_14 : decode cX5_copy 14 = .ok (.iinc 2 1, 3) := by decide +kernel
theorem dX5_copy_17 : decode cX5_copy 17 = .ok (.goto (-15), 3) := by decide +kernel
theorem dX5_copy_20 : decode cX5_copy 20 = .ok (.return_, 1) := by decide +kernel
set_option maxRecDepth 20000 in
theorem ggX5_remember_X5_copy : GoodIn wsX5_remember wsX5_copy := goodIn_r _ [6] (by decide +kernel) (by decide +kernel)
set_option maxRecDepth 20000 in
theorem gX5_remember_X5_copy : GoodIn wsX5_remember (va_wsS RX5 32 yX5_copy wsX5_copy) := goodIn_app (goodIn_of _ (by decide +kernel)) ggX5_remember_X5_copy
theorem dX5_remember_0 : decode cX5_remember 0 = .ok (.aload_n 0, 1) := by decide +kernel
theorem dX5_remember_1 : decode cX5_remember 1 = .ok (.getfield 7, 3) := by decide +kernel
theorem dX5_remember_4 : decode cX5_remember 4 = .ok (.aload_n 0, 1) := by decide +kernel
theorem dX5_remember_5 : decode cX5_remember 5 = .ok (.getfield 13, 3) := by decide +kernel
theorem dX5_remember_8 : decode cX5_remember 8 = .ok (.invokestatic 32, 3) := by decide +kernel
theorem dX5_remember_11 : decode cX5_remember 11 = .ok (.return_, 1) := by decide +kernel
theorem dX5_acted_0 : decode cX5_acted 0 = .ok (.aload_n 0, 1) := by decide +kernel
theorem dX5_acted_1 : decode cX5_acted 1 = .ok (.getfield 36, 3) := by decide +kernel
theorem dX5_acted_4 : decode cX5_acted 4 = .ok (.iconst 4, 1) := by decide +kernel
theorem dX5_acted_5 : decode cX5_acted 5 = .ok (.if_icmp .ne 42, 3) := by decide +kernel
theorem dX5_acted_8 : decode cX5_acted 8 = .ok (.iconst 0, 1) := by decide +kernel
theorem dX5_acted_9 : decode cX5_acted 9 = .ok (.istore_n 2, 1) := by decide +kernel
theorem dX5_acted_10 : decode cX5_acted 10 = .ok (.iload_n 2, 1) := by decide +kernel
theorem dX5_acted_11 : decode cX5_acted 11 = .ok (.bipush 111, 2) := by decide +kernel
theorem dX5_acted_13 : decode cX5_acted 13 = .ok (.if_icmp .ge 24, 3) := by decide +kernel
theorem dX5_acted_16 : decode cX5_acted 16 = .ok (.aload_n 0, 1) := by decide +kernel
theorem dX5_acted_17 : decode cX5_acted 17 = .ok (.getfield 19, 3) := by decide +kernel
theorem dX5_acted_20 : decode cX5_acted 20 = .ok (.iload_n 2, 1) := by decide +kernel
theorem dX5_acted_21 : decode cX5_acted 21 = .ok (.aload_n 0, 1) := by decide +kernel
theorem dX5_acted_22 : decode cX5_acted 22 = .ok (.getfield 19, 3) := by decide +kernel
theorem dX5_acted_25 : decode cX5_acted 25 = .ok (.iload_n 2, 1) := by decide +kernel
theorem dX5_acted_26 : decode cX5_acted 26 = .ok (.bipush 37, 2) := by decide +kernel
theorem dX5_acted_28 : decode cX5_acted 28 = .ok (.iadd, 1) := by decide +kernel
theorem dX5_acted_29 : decode cX5_acted 29 = .ok (.iaload, 1) := by decide +kernel
theorem dX5_acted_30 : decode cX5_acted 30 = .ok (.iastore, 1) := by decide +kernel
theorem dX5_acted_31 : decode cX5_acted 31 = .ok (.iinc 2 1, 3) := by decide +kernel
theorem dX5_acted_34 : decode cX5_acted 34 = .ok (.goto (-24), 3) := by decide +kernel
theorem dX5_acted_37 : decode cX5_acted 37 = .ok (.aload_n 0, 1) := by decide +kernel
theorem dX5_acted_38 : decode cX5_acted 38 = .ok (.dup, 1) := by decide +kernel
theorem dX5_acted_39 : decode cX5_acted 39 = .ok (.getfield 36, 3) := by decide +kernel
theorem dX5_acted_42 : decode cX5_acted 42 = .ok (.iconst 1, 1) := by decide +kernel
theorem dX5_acted_43 : decode cX5_acted 43 = .ok (.isub, 1) := by decide +kernel
theorem dX5_acted_44 : decode cX5_acted 44 = .ok (.putfield 36, 3) := by decide +kernel
theorem dX5_acted_47 : decode cX5_acted 47 = .ok (.iconst 0, 1) := by decide +kernel
theorem dX5_acted_48 : decode cX5_acted 48 = .ok (.istore_n 2, 1) := by decide +kernel
theorem dX5_acted_49 : decode cX5_acted 49 = .ok (.iload_n 2, 1) := by decide +kernel
theorem dX5_acted_50 : decode cX5_acted 50 = .ok (.bipush 37, 2) := by decide +kernel
theorem dX5_acted_52 : decode cX5_acted 52 = .ok (.if_icmp .ge 29, 3) := by decide +kernel
theorem dX5_acted_55 : decode cX5_acted 55 = .ok (.aload_n 0, 1) := by decide +kernel
theorem dX5_acted_56 : decode cX5_acted 56 = .ok (.getfield 19, 3) := by decide +kernel
theorem dX5_acted_59 : decode cX5_acted 59 = .ok (.bipush 37, 2) := by decide +kernel
theorem dX5_acted_61 : decode cX5_acted 61 = .ok (.aload_n 0, 1) := by decide +kernel
theorem dX5_acted_62 : decode cX5_acted 62 = .ok (.getfield 36, 3) := by decide +kernel
theorem dX5_acted_65 : decode cX5_acted 65 = .ok (.imul, 1) := by decide +kernel
theorem dX5_acted_66 : decode cX5_acted 66 = .ok (.iload_n 2, 1) := by decide +kernel
theorem dX5_acted_67 : decode cX5_acted 67 = .ok (.iadd, 1) := by decide +kernel
theorem dX5_acted_68 : decode cX5_acted 68 = .ok (.aload_n 0, 1) := by decide +kernel
theorem dX5_acted_69 : decode cX5_acted 69 = .ok (.getfield 13, 3) := by decide +kernel
theorem dX5_acted_72 : decode cX5_acted 72 = .ok (.iload_n 2, 1) := by decide +kernel
theorem dX5_acted_73 : decode cX5_acted 73 = .ok (.iaload, 1) := by decide +kernel
theorem dX5_acted_74 : decode cX5_acted 74 = .ok (.iastore, 1) := by decide +kernel
theorem dX5_acted_75 : decode cX5_acted 75 = .ok (.iinc 2 1, 3) := by decide +kernel
theorem dX5_acted_78 : decode cX5_acted 78 = .ok (.goto (-29), 3) := by decide +kernel
theorem dX5_acted_81 : decode cX5_acted 81 = .ok (.aload_n 0, 1) := by decide +kernel
theorem dX5_acted_82 : decode cX5_acted 82 = .ok (.dup, 1) := by decide +kernel
theorem dX5_acted_83 : decode cX5_acted 83 = .ok (.getfield 36, 3) := by decide +kernel
theorem dX5_acted_86 : decode cX5_acted 86 = .ok (.iconst 1, 1) := by decide +kernel
theorem dX5_acted_87 : decode cX5_acted 87 = .ok (.iadd, 1) := by decide +kernel
theorem dX5_acted_88 : decode cX5_acted 88 = .ok (.putfield 36, 3) := by decide +kernel
theorem dX5_acted_91 : decode cX5_acted 91 = .ok (.iload_n 1, 1) := by decide +kernel
theorem dX5_acted_92 : decode cX5_acted 92 = .ok (.ireturn, 1) := by decide +kernel
theorem dX5_breaks_0 : decode cX5_breaks 0 = .ok (.aload_n 0, 1) := by decide +kernel
theorem dX5_breaks_1 : decode cX5_breaks 1 = .ok (.getfield 7, 3) := by decide +kernel
theorem dX5_breaks_4 : decode cX5_breaks 4 = .ok (.bipush 36, 2) := by decide +kernel
theorem dX5_breaks_6 : decode cX5_breaks 6 = .ok (.iaload, 1) := by decide +kernel
theorem dX5_breaks_7 : decode cX5_breaks 7 = .ok (.ldc 39, 2) := by decide +kernel
theorem dX5_breaks_9 : decode cX5_breaks 9 = .ok (.irem, 1) := by decide +kernel
theorem dX5_breaks_10 : decode cX5_breaks 10 = .ok (.ireturn, 1) := by decide +kernel
theorem dX5_doffs_0 : decode cX5_doffs 0 = .ok (.aload_n 0, 1) := by decide +kernel
theorem dX5_doffs_1 : decode cX5_doffs 1 = .ok (.getfield 7, 3) := by decide +kernel
theorem dX5_doffs_4 : decode cX5_doffs 4 = .ok (.bipush 36, 2) := by decide +kernel
theorem dX5_doffs_6 : decode cX5_doffs 6 = .ok (.iaload, 1) := by decide +kernel
theorem dX5_doffs_7 : decode cX5_doffs 7 = .ok (.ldc 39, 2) := by decide +kernel
theorem dX5_doffs_9 : decode cX5_doffs 9 = .ok (.idiv, 1) := by decide +kernel
theorem dX5_doffs_10 : decode cX5_doffs 10 = .ok (.ireturn, 1) := by decide +kernel
theorem dX5_placeOn_0 : decode cX5_placeOn 0 = .ok (.iload_n 0, 1) := by decide +kernel
theorem dX5_placeOn_1 : decode cX5_placeOn 1 = .ok (.bipush 11, 2) := by decide +kernel
theorem dX5_placeOn_3 : decode cX5_placeOn 3 = .ok (.if_icmp .gt 7, 3) := by decide +kernel
theorem dX5_placeOn_6 : decode cX5_placeOn 6 = .ok (.iload_n 0, 1) := by decide +kernel
theorem dX5_placeOn_7 : decode cX5_placeOn 7 = .ok (.goto 7, 3) := by decide +kernel
theorem dX5_placeOn_10 : decode cX5_placeOn 10 = .ok (.bipush 22, 2) := by decide +kernel
theorem dX5_placeOn_12 : decode cX5_placeOn 12 = .ok (.iload_n 0, 1) := by decide +kernel
theorem dX5_placeOn_13 : decode cX5_placeOn 13 = .ok (.isub, 1) := by decide +kernel
theorem dX5_placeOn_14 : decode cX5_placeOn 14 = .ok (.ireturn, 1) := by decide +kernel
set_option maxRecDepth 20000 in
theorem ggX5_place_X5_placeOn : GoodIn wsX5_place wsX5_placeOn := goodIn_r _ [5] (by decide +kernel) (by decide +kernel)
set_option maxRecDepth 20000 in
theorem gX5_place_X5_placeOn : GoodIn wsX5_place (va_wsS RX5 40 yX5_placeOn wsX5_placeOn) := goodIn_app (goodIn_of _ (by decide +kernel)) ggX5_place_X5_placeOn
theorem dX5_place_0 : decode cX5_place 0 = .ok (.aload_n 0, 1) := by decide +kernel
theorem dX5_place_1 : decode cX5_place 1 = .ok (.getfield 7, 3) := by decide +kernel
theorem dX5_place_4 : decode cX5_place 4 = .ok (.bipush 29, 2) := by decide +kernel
theorem dX5_place_6 : decode cX5_place 6 = .ok (.iaload, 1) := by decide +kernel
theorem dX5_place_7 : decode cX5_place 7 = .ok (.invokestatic 40, 3) := by decide +kernel
theorem dX5_place_10 : decode cX5_place 10 = .ok (.ireturn, 1) := by decide +kernel
theorem dX5_wraps_0 : decode cX5_wraps 0 = .ok (.iconst 0, 1) := by decide +kernel
theorem dX5_wraps_1 : decode cX5_wraps 1 = .ok (.istore_n 1, 1) := by decide +kernel
theorem dX5_wraps_2 : decode cX5_wraps 2 = .ok (.iconst 0, 1) := by decide +kernel
theorem dX5_wraps_3 : decode cX5_wraps 3 = .ok (.istore_n 2, 1) := by decide +kernel
theorem dX5_wraps_4 : decode cX5_wraps 4 = .ok (.iload_n 2, 1) := by decide +kernel
theorem dX5_wraps_5 : decode cX5_wraps 5 = .ok (.bipush 12, 2) := by decide +kernel
theorem dX5_wraps_7 : decode cX5_wraps 7 = .ok (.if_icmp .ge 20, 3) := by decide +kernel
theorem dX5_wraps_10 : decode cX5_wraps 10 = .ok (.iload_n 1, 1) := by decide +kernel
theorem dX5_wraps_11 : decode cX5_wraps 11 = .ok (.aload_n 0, 1) := by decide +kernel
theorem dX5_wraps_12 : decode cX5_wraps 12 = .ok (.getfield 7, 3) := by decide +kernel
theorem dX5_wraps_15 : decode cX5_wraps 15 = .ok (.iconst 0, 1) := by decide +kernel
theorem dX5_wraps_16 : decode cX5_wraps 16 = .ok (.iload_n 2, 1) := by decide +kernel
theorem dX5_wraps_17 : decode cX5_wraps 17 = .ok (.iadd, 1) := by decide +kernel
theorem dX5_wraps_18 : decode cX5_wraps 18 = .ok (.iaload, 1) := by decide +kernel
theorem dX5_wraps_19 : decode cX5_wraps 19 = .ok (.iadd, 1) := by decide +kernel
theorem dX5_wraps_20 : decode cX5_wraps 20 = .ok (.istore_n 1, 1) := by decide +kernel
theorem dX5_wraps_21 : decode cX5_wraps 21 = .ok (.iinc 2 1, 3) := by decide +kernel
theorem dX5_wraps_24 : decode cX5_wraps 24 = .ok (.goto (-20), 3) := by decide +kernel
theorem dX5_wraps_27 : decode cX5_wraps 27 = .ok (.iload_n 1, 1) := by decide +kernel
theorem dX5_wraps_28 : decode cX5_wraps 28 = .ok (.ireturn, 1) := by decide +kernel
theorem dX5_greatest_0 : decode cX5_greatest 0 = .ok (.iconst 0, 1) := by decide +kernel
theorem dX5_greatest_1 : decode cX5_greatest 1 = .ok (.istore_n 1, 1) := by decide +kernel
theorem dX5_greatest_2 : decode cX5_greatest 2 = .ok (.iconst 0, 1) := by decide +kernel
theorem dX5_greatest_3 : decode cX5_greatest 3 = .ok (.istore_n 2, 1) := by decide +kernel
theorem dX5_greatest_4 : decode cX5_greatest 4 = .ok (.iload_n 2, 1) := by decide +kernel
theorem dX5_greatest_5 : decode cX5_greatest 5 = .ok (.bipush 12, 2) := by decide +kernel
theorem dX5_greatest_7 : decode cX5_greatest 7 = .ok (.if_icmp .ge 34, 3) := by decide +kernel
theorem dX5_greatest_10 : decode cX5_greatest 10 = .ok (.aload_n 0, 1) := by decide +kernel
theorem dX5_greatest_11 : decode cX5_greatest 11 = .ok (.getfield 7, 3) := by decide +kernel
theorem dX5_greatest_14 : decode cX5_greatest 14 = .ok (.iconst 0, 1) := by decide +kernel
theorem dX5_greatest_15 : decode cX5_greatest 15 = .ok (.iload_n 2, 1) := by decide +kernel
theorem dX5_greatest_16 : decode cX5_greatest 16 = .ok (.iadd, 1) := by decide +kernel
theorem dX5_greatest_17 : decode cX5_greatest 17 = .ok (.iaload, 1) := by decide +kernel
theorem dX5_greatest_18 : decode cX5_greatest 18 = .ok (.iload_n 1, 1) := by decide +kernel
theorem dX5_greatest_19 : decode cX5_greatest 19 = .ok (.if_icmp .le 14, 3) := by decide +kernel
theorem dX5_greatest_22 : decode cX5_greatest 22 = .ok (.aload_n 0, 1) := by decide +kernel
theorem dX5_greatest_23 : decode cX5_greatest 23 = .ok (.getfield 7, 3) := by decide +kernel
theorem dX5_greatest_26 : decode cX5_greatest 26 = .ok (.iconst 0, 1) := by decide +kernel
theorem dX5_greatest_27 : decode cX5_greatest 27 = .ok (.iload_n 2, 1) := by decide +kernel
theorem dX5_greatest_28 : decode cX5_greatest 28 = .ok (.iadd, 1) := by decide +kernel
theorem dX5_greatest_29 : decode cX5_greatest 29 = .ok (.iaload, 1) := by decide +kernel
theorem dX5_greatest_30 : decode cX5_greatest 30 = .ok (.goto 4, 3) := by decide +kernel
theorem dX5_greatest_33 : decode cX5_greatest 33 = .ok (.iload_n 1, 1) := by decide +kernel
theorem dX5_greatest_34 : decode cX5_greatest 34 = .ok (.istore_n 1, 1) := by decide +kernel
theorem dX5_greatest_35 : decode cX5_greatest 35 = .ok (.iinc 2 1, 3) := by decide +kernel
theorem dX5_greatest_38 : decode cX5_greatest 38 = .ok (.goto (-34), 3) := by decide +kernel
theorem dX5_greatest_41 : decode cX5_greatest 41 = .ok (.iload_n 1, 1) := by decide +kernel
theorem dX5_greatest_42 : decode cX5_greatest 42 = .ok (.ireturn, 1) := by decide +kernel
set_option maxRecDepth 20000 in
theorem ggX5_evenness_X5_greatest : GoodIn wsX5_evenness wsX5_greatest := goodIn_r _ [6, 1, 7, 8, 9, 10, 11, 12, 13, 14, 15, 16, 17, 18] (by decide +kernel) (by decide +kernel)
set_option maxRecDepth 20000 in
theorem gX5_evenness_X5_greatest : GoodIn wsX5_evenness (wsV RX5 44 RX5 yX5_greatest wsX5_greatest) := goodIn_app (goodIn_of _ (by decide +kernel)) ggX5_evenness_X5_greatest
theorem dX5_evenness_0 : decode cX5_evenness 0 = .ok (.sipush 200, 3) := by decide +kernel
theorem dX5_evenness_3 : decode cX5_evenness 3 = .ok (.istore_n 1, 1) := by decide +kernel
theorem dX5_evenness_4 : decode cX5_evenness 4 = .ok (.iconst 0, 1) := by decide +kernel
theorem dX5_evenness_5 : decode cX5_evenness 5 = .ok (.istore_n 2, 1) := by decide +kernel
theorem dX5_evenness_6 : decode cX5_evenness 6 = .ok (.iload_n 2, 1) := by decide +kernel
theorem dX5_evenness_7 : decode cX5_evenness 7 = .ok (.bipush 12, 2) := by decide +kernel
theorem dX5_evenness_9 : decode cX5_evenness 9 = .ok (.if_icmp .ge 34, 3) := by decide +kernel
theorem dX5_evenness_12 : decode cX5_evenness 12 = .ok (.aload_n 0, 1) := by decide +kernel
theorem dX5_evenness_13 : decode cX5_evenness 13 = .ok (.getfield 7, 3) := by decide +kernel
theorem dX5_evenness_16 : decode cX5_evenness 16 = .ok (.iconst 0, 1) := by decide +kernel
theorem dX5_evenness_17 : decode cX5_evenness 17 = .ok (.iload_n 2, 1) := by decide +kernel
theorem dX5_evenness_18 : decode cX5_evenness 18 = .ok (.iadd, 1) := by decide +kernel
theorem dX5_evenness_19 : decode cX5_evenness 19 = .ok (.iaload, 1) := by decide +kernel
theorem dX5_evenness_20 : decode cX5_evenness 20 = .ok (.iload_n 1, 1) := by decide +kernel
theorem dX5_evenness_21 : decode cX5_evenness 21 = .ok (.if_icmp .ge 14, 3) := by decide +kernel
theorem dX5_evenness_24 : decode cX5_evenness 24 = .ok (.aload_n 0, 1) := by decide +kernel
theorem dX5_evenness_25 : decode cX5_evenness 25 = .ok (.getfield 7, 3) := by decide +kernel
theorem dX5_evenness_28 : decode cX5_evenness 28 = .ok (.iconst 0, 1) := by decide +kernel
theorem dX5_evenness_29 : decode cX5_evenness 29 = .ok (.iload_n 2, 1) := by decide +kernel
theorem dX5_evenness_30 : decode cX5_evenness 30 = .ok (.iadd, 1) := by decide +kernel
theorem dX5_evenness_31 : decode cX5_evenness 31 = .ok (.iaload, 1) := by decide +kernel
theorem dX5_evenness_32 : decode cX5_evenness 32 = .ok (.goto 4, 3) := by decide +kernel
theorem dX5_evenness_35 : decode cX5_evenness 35 = .ok (.iload_n 1, 1) := by decide +kernel
theorem dX5_evenness_36 : decode cX5_evenness 36 = .ok (.istore_n 1, 1) := by decide +kernel
theorem dX5_evenness_37 : decode cX5_evenness 37 = .ok (.iinc 2 1, 3) := by decide +kernel
theorem dX5_evenness_40 : decode cX5_evenness 40 = .ok (.goto (-34), 3) := by decide +kernel
theorem dX5_evenness_43 : decode cX5_evenness 43 = .ok (.aload_n 0, 1) := by decide +kernel
theorem dX5_evenness_44 : decode cX5_evenness 44 = .ok (.invokevirtual 44, 3) := by decide +kernel
theorem dX5_evenness_47 : decode cX5_evenness 47 = .ok (.iload_n 1, 1) := by decide +kernel
theorem dX5_evenness_48 : decode cX5_evenness 48 = .ok (.isub, 1) := by decide +kernel
theorem dX5_evenness_49 : decode cX5_evenness 49 = .ok (.ireturn, 1) := by decide +kernel
set_option maxRecDepth 20000 in
theorem ggX5_isFull_X5_greatest : GoodIn wsX5_isFull wsX5_greatest := goodIn_r _ [5, 6, 7, 8, 9, 10, 11, 12, 13, 14, 15, 16, 17, 18] (by decide +kernel) (by decide +kernel)
set_option maxRecDepth 20000 in
theorem gX5_isFull_X5_greatest : GoodIn wsX5_isFull (wsV RX5 44 RX5 yX5_greatest wsX5_greatest) := goodIn_app (goodIn_of _ (by decide +kernel)) ggX5_isFull_X5_greatest
theorem dX5_isFull_0 : decode cX5_isFull 0 = .ok (.aload_n 0, 1) := by decide +kernel
theorem dX5_isFull_1 : decode cX5_isFull 1 = .ok (.invokevirtual 44, 3) := by decide +kernel
theorem dX5_isFull_4 : decode cX5_isFull 4 = .ok (.sipush 200, 3) := by decide +kernel
theorem dX5_isFull_7 : decode cX5_isFull 7 = .ok (.if_icmp .ne 7, 3) := by decide +kernel
theorem dX5_isFull_10 : decode cX5_isFull 10 = .ok (.iconst 1, 1) := by decide +kernel
theorem dX5_isFull_11 : decode cX5_isFull 11 = .ok (.goto 4, 3) := by decide +kernel
theorem dX5_isFull_14 : decode cX5_isFull 14 = .ok (.iconst 0, 1) := by decide +kernel
theorem dX5_isFull_15 : decode cX5_isFull 15 = .ok (.ireturn, 1) := by decide +kernel
set_option maxRecDepth 20000 in
theorem ggX5_isIdle_X5_isFull : GoodIn wsX5_isIdle wsX5_isFull := goodIn_r _ [6, 7, 8, 9, 5, 10, 1, 11, 12, 13, 14, 15, 16, 17, 18, 19, 20, 21, 22] (by decide +kernel) (by decide +kernel)
set_option maxRecDepth 20000 in
theorem gX5_isIdle_X5_isFull : GoodIn wsX5_isIdle (wsV RX5 48 RX5 yX5_isFull wsX5_isFull) := goodIn_app (goodIn_of _ (by decide +kernel)) ggX5_isIdle_X5_isFull
theorem dX5_isIdle_0 : decode cX5_isIdle 0 = .ok (.aload_n 0, 1) := by decide +kernel
theorem dX5_isIdle_1 : decode cX5_isIdle 1 = .ok (.getfield 7, 3) := by decide +kernel
theorem dX5_isIdle_4 : decode cX5_isIdle 4 = .ok (.bipush 33, 2) := by decide +kernel
theorem dX5_isIdle_6 : decode cX5_isIdle 6 = .ok (.iaload, 1) := by decide +kernel
theorem dX5_isIdle_7 : decode cX5_isIdle 7 = .ok (.iconst 1, 1) := by decide +kernel
theorem dX5_isIdle_8 : decode cX5_isIdle 8 = .ok (.if_icmp .eq 20, 3) := by decide +kernel
theorem dX5_isIdle_11 : decode cX5_isIdle 11 = .ok (.aload_n 0, 1) := by decide +kernel
theorem dX5_isIdle_12 : decode cX5_isIdle 12 = .ok (.getfield 7, 3) := by decide +kernel
theorem dX5_isIdle_15 : decode cX5_isIdle 15 = .ok (.bipush 30, 2) := by decide +kernel
theorem dX5_isIdle_17 : decode cX5_isIdle 17 = .ok (.iaload, 1) := by decide +kernel
theorem dX5_isIdle_18 : decode cX5_isIdle 18 = .ok (.ifCond .eq 10, 3) := by decide +kernel
theorem dX5_isIdle_21 : decode cX5_isIdle 21 = .ok (.aload_n 0, 1) := by decide +kernel
theorem dX5_isIdle_22 : decode cX5_isIdle 22 = .ok (.invokevirtual 48, 3) := by decide +kernel
theorem dX5_isIdle_25 : decode cX5_isIdle 25 = .ok (.ifCond .eq 7, 3) := by decide +kernel
theorem dX5_isIdle_28 : decode cX5_isIdle 28 = .ok (.iconst 1, 1) := by decide +kernel
theorem dX5_isIdle_29 : decode cX5_isIdle 29 = .ok (.goto 4, 3) := by decide +kernel
theorem dX5_isIdle_32 : decode cX5_isIdle 32 = .ok (.iconst 0, 1) := by decide +kernel
theorem dX5_isIdle_33 : decode cX5_isIdle 33 = .ok (.ireturn, 1) := by decide +kernel
theorem dX5_guideGoes_0 : decode cX5_guideGoes 0 = .ok (.aload_n 0, 1) := by decide +kernel
theorem dX5_guideGoes_1 : decode cX5_guideGoes 1 = .ok (.getfield 7, 3) := by decide +kernel
theorem dX5_guideGoes_4 : decode cX5_guideGoes 4 = .ok (.bipush 26, 2) := by decide +kernel
theorem dX5_guideGoes_6 : decode cX5_guideGoes 6 = .ok (.iaload, 1) := by decide +kernel
theorem dX5_guideGoes_7 : decode cX5_guideGoes 7 = .ok (.ifCond .le 28, 3) := by decide +kernel
theorem dX5_guideGoes_10 : decode cX5_guideGoes 10 = .ok (.aload_n 0, 1) := by decide +kernel
theorem dX5_guideGoes_11 : decode cX5_guideGoes 11 = .ok (.getfield 7, 3) := by decide +kernel
theorem dX5_guideGoes_14 : decode cX5_guideGoes 14 = .ok (.bipush 35, 2) := by decide +kernel
theorem dX5_guideGoes_16 : decode cX5_guideGoes 16 = .ok (.iaload, 1) := by decide +kernel
theorem dX5_guideGoes_17 : decode cX5_guideGoes 17 = .ok (.bipush 8, 2) := by decide +kernel
theorem dX5_guideGoes_19 : decode cX5_guideGoes 19 = .ok (.aload_n 0, 1) := by decide +kernel
theorem dX5_guideGoes_20 : decode cX5_guideGoes 20 = .ok (.getfield 7, 3) := by decide +kernel
theorem dX5_guideGoes_23 : decode cX5_guideGoes 23 = .ok (.bipush 26, 2) := by decide +kernel
theorem dX5_guideGoes_25 : decode cX5_guideGoes 25 = .ok (.iaload, 1) := by decide +kernel
theorem dX5_guideGoes_26 : decode cX5_guideGoes 26 = .ok (.isub, 1) := by decide +kernel
theorem dX5_guideGoes_27 : decode cX5_guideGoes 27 = .ok (.irem, 1) := by decide +kernel
theorem dX5_guideGoes_28 : decode cX5_guideGoes 28 = .ok (.ifCond .ne 7, 3) := by decide +kernel
theorem dX5_guideGoes_31 : decode cX5_guideGoes 31 = .ok (.iconst 1, 1) := by decide +kernel
theorem dX5_guideGoes_32 : decode cX5_guideGoes 32 = .ok (.goto 4, 3) := by decide +kernel
theorem dX5_guideGoes_35 : decode cX5_guideGoes 35 = .ok (.iconst 0, 1) := by decide +kernel
theorem dX5_guideGoes_36 : decode cX5_guideGoes 36 = .ok (.istore_n 1, 1) := by decide +kernel
theorem dX5_guideGoes_37 : decode cX5_guideGoes 37 = .ok (.aload_n 0, 1) := by decide +kernel
theorem dX5_guideGoes_38 : decode cX5_guideGoes 38 = .ok (.getfield 7, 3) := by decide +kernel
theorem dX5_guideGoes_41 : decode cX5_guideGoes 41 = .ok (.bipush 29, 2) := by decide +kernel
theorem dX5_guideGoes_43 : decode cX5_guideGoes 43 = .ok (.aload_n 0, 1) := by decide +kernel
theorem dX5_guideGoes_44 : decode cX5_guideGoes 44 = .ok (.getfield 7, 3) := by decide +kernel
theorem dX5_guideGoes_47 : decode cX5_guideGoes 47 = .ok (.bipush 29, 2) := by decide +kernel
theorem dX5_guideGoes_49 : decode cX5_guideGoes 49 = .ok (.iaload, 1) := by decide +kernel
theorem dX5_guideGoes_50 : decode cX5_guideGoes 50 = .ok (.aload_n 0, 1) := by decide +kernel
theorem dX5_guideGoes_51 : decode cX5_guideGoes 51 = .ok (.getfield 7, 3) := by decide +kernel
theorem dX5_guideGoes_54 : decode cX5_guideGoes 54 = .ok (.bipush 24, 2) := by decide +kernel
theorem dX5_guideGoes_56 : decode cX5_guideGoes 56 = .ok (.iaload, 1) := by decide +kernel
theorem dX5_guideGoes_57 : decode cX5_guideGoes 57 = .ok (.iadd, 1) := by decide +kernel
theorem dX5_guideGoes_58 : decode cX5_guideGoes 58 = .ok (.iload_n 1, 1) := by decide +kernel
theorem dX5_guideGoes_59 : decode cX5_guideGoes 59 = .ok (.iadd, 1) := by decide +kernel
theorem dX5_guideGoes_60 : decode cX5_guideGoes 60 = .ok (.bipush 22, 2) := by decide +kernel
theorem dX5_guideGoes_62 : decode cX5_guideGoes 62 = .ok (.irem, 1) := by decide +kernel
theorem dX5_guideGoes_63 : decode cX5_guideGoes 63 = .ok (.iastore, 1) := by decide +kernel
theorem dX5_guideGoes_64 : decode cX5_guideGoes 64 = .ok (.return_, 1) := by decide +kernel
set_option maxRecDepth 20000 in
theorem ggX5_pulls_X5_place : GoodIn wsX5_pulls wsX5_place := goodIn_r _ [6, 1, 7, 8, 5, 9, 10, 11, 12, 13, 14, 15, 16, 17, 18, 19, 20, 21] (by decide +kernel) (by decide +kernel)
set_option maxRecDepth 20000 in
theorem gX5_pulls_X5_place : GoodIn wsX5_pulls (wsV RX5 52 RX5 yX5_place wsX5_place) := goodIn_app (goodIn_of _ (by decide +kernel)) ggX5_pulls_X5_place
theorem dX5_pulls_0 : decode cX5_pulls 0 = .ok (.aload_n 0, 1) := by decide +kernel
theorem dX5_pulls_1 : decode cX5_pulls 1 = .ok (.invokevirtual 52, 3) := by decide +kernel
theorem dX5_pulls_4 : decode cX5_pulls 4 = .ok (.istore_n 1, 1) := by decide +kernel
theorem dX5_pulls_5 : decode cX5_pulls 5 = .ok (.aload_n 0, 1) := by decide +kernel
theorem dX5_pulls_6 : decode cX5_pulls 6 = .ok (.getfield 7, 3) := by decide +kernel
theorem dX5_pulls_9 : decode cX5_pulls 9 = .ok (.bipush 34, 2) := by decide +kernel
theorem dX5_pulls_11 : decode cX5_pulls 11 = .ok (.iaload, 1) := by decide +kernel
theorem dX5_pulls_12 : decode cX5_pulls 12 = .ok (.bipush (-5), 2) := by decide +kernel
theorem dX5_pulls_14 : decode cX5_pulls 14 = .ok (.if_icmp .ne 7, 3) := by decide +kernel
theorem dX5_pulls_17 : decode cX5_pulls 17 = .ok (.iconst 0, 1) := by decide +kernel
theorem dX5_pulls_18 : decode cX5_pulls 18 = .ok (.goto 26, 3) := by decide +kernel
theorem dX5_pulls_21 : decode cX5_pulls 21 = .ok (.aload_n 0, 1) := by decide +kernel
theorem dX5_pulls_22 : decode cX5_pulls 22 = .ok (.getfield 7, 3) := by decide +kernel
theorem dX5_pulls_25 : decode cX5_pulls 25 = .ok (.iconst 0, 1) := by decide +kernel
theorem dX5_pulls_26 : decode cX5_pulls 26 = .ok (.iload_n 1, 1) := by decide +kernel
theorem dX5_pulls_27 : decode cX5_pulls 27 = .ok (.iadd, 1) := by decide +kernel
theorem dX5_pulls_28 : decode cX5_pulls 28 = .ok (.iaload, 1) := by decide +kernel
theorem dX5_pulls_29 : decode cX5_pulls 29 = .ok (.aload_n 0, 1) := by decide +kernel
theorem dX5_pulls_30 : decode cX5_pulls 30 = .ok (.getfield 7, 3) := by decide +kernel
theorem dX5_pulls_33 : decode cX5_pulls 33 = .ok (.iconst 0, 1) := by decide +kernel
theorem dX5_pulls_34 : decode cX5_pulls 34 = .ok (.aload_n 0, 1) := by decide +kernel
theorem dX5_pulls_35 : decode cX5_pulls 35 = .ok (.getfield 7, 3) := by decide +kernel
theorem dX5_pulls_38 : decode cX5_pulls 38 = .ok (.bipush 34, 2) := by decide +kernel
theorem dX5_pulls_40 : decode cX5_pulls 40 = .ok (.iaload, 1) := by decide +kernel
theorem dX5_pulls_41 : decode cX5_pulls 41 = .ok (.iadd, 1) := by decide +kernel
theorem dX5_pulls_42 : decode cX5_pulls 42 = .ok (.iaload, 1) := by decide +kernel
theorem dX5_pulls_43 : decode cX5_pulls 43 = .ok (.isub, 1) := by decide +kernel
theorem dX5_pulls_44 : decode cX5_pulls 44 = .ok (.istore_n 2, 1) := by decide +kernel
theorem dX5_pulls_45 : decode cX5_pulls 45 = .ok (.aload_n 0, 1) := by decide +kernel
theorem dX5_pulls_46 : decode cX5_pulls 46 = .ok (.getfield 7, 3) := by decide +kernel
theorem dX5_pulls_49 : decode cX5_pulls 49 = .ok (.bipush 32, 2) := by decide +kernel
theorem dX5_pulls_51 : decode cX5_pulls 51 = .ok (.iconst 4, 1) := by decide +kernel
theorem dX5_pulls_52 : decode cX5_pulls 52 = .ok (.aload_n 0, 1) := by decide +kernel
theorem dX5_pulls_53 : decode cX5_pulls 53 = .ok (.getfield 7, 3) := by decide +kernel
theorem dX5_pulls_56 : decode cX5_pulls 56 = .ok (.bipush 25, 2) := by decide +kernel
theorem dX5_pulls_58 : decode cX5_pulls 58 = .ok (.iaload, 1) := by decide +kernel
theorem dX5_pulls_59 : decode cX5_pulls 59 = .ok (.imul, 1) := by decide +kernel
theorem dX5_pulls_60 : decode cX5_pulls 60 = .ok (.aload_n 0, 1) := by decide +kernel
theorem dX5_pulls_61 : decode cX5_pulls 61 = .ok (.getfield 7, 3) := by decide +kernel
theorem dX5_pulls_64 : decode cX5_pulls 64 = .ok (.bipush 31, 2) := by decide +kernel
theorem dX5_pulls_66 : decode cX5_pulls 66 = .ok (.iaload, 1) := by decide +kernel
theorem dX5_pulls_67 : decode cX5_pulls 67 = .ok (.bipush 10, 2) := by decide +kernel
theorem dX5_pulls_69 : decode cX5_pulls 69 = .ok (.idiv, 1) := by decide +kernel
theorem dX5_pulls_70 : decode cX5_pulls 70 = .ok (.iadd, 1) := by decide +kernel
theorem dX5_pulls_71 : decode cX5_pulls 71 = .ok (.iconst 2, 1) := by decide +kernel
theorem dX5_pulls_72 : decode cX5_pulls 72 = .ok (.iload_n 2, 1) := by decide +kernel
theorem dX5_pulls_73 : decode cX5_pulls 73 = .ok (.ifCond .ge 8, 3) := by decide +kernel
theorem dX5_pulls_76 : decode cX5_pulls 76 = .ok (.iload_n 2, 1) := by decide +kernel
theorem dX5_pulls_77 : decode cX5_pulls 77 = .ok (.ineg, 1) := by decide +kernel
theorem dX5_pulls_78 : decode cX5_pulls 78 = .ok (.goto 4, 3) := by decide +kernel
theorem dX5_pulls_81 : decode cX5_pulls 81 = .ok (.iload_n 2, 1) := by decide +kernel
theorem dX5_pulls_82 : decode cX5_pulls 82 = .ok (.imul, 1) := by decide +kernel
theorem dX5_pulls_83 : decode cX5_pulls 83 = .ok (.iadd, 1) := by decide +kernel
theorem dX5_pulls_84 : decode cX5_pulls 84 = .ok (.iastore, 1) := by decide +kernel
theorem dX5_pulls_85 : decode cX5_pulls 85 = .ok (.aload_n 0, 1) := by decide +kernel
theorem dX5_pulls_86 : decode cX5_pulls 86 = .ok (.getfield 7, 3) := by decide +kernel
theorem dX5_pulls_89 : decode cX5_pulls 89 = .ok (.bipush 34, 2) := by decide +kernel
theorem dX5_pulls_91 : decode cX5_pulls 91 = .ok (.iload_n 1, 1) := by decide +kernel
theorem dX5_pulls_92 : decode cX5_pulls 92 = .ok (.iastore, 1) := by decide +kernel
theorem dX5_pulls_93 : decode cX5_pulls 93 = .ok (.aload_n 0, 1) := by decide +kernel
theorem dX5_pulls_94 : decode cX5_pulls 94 = .ok (.getfield 7, 3) := by decide +kernel
theorem dX5_pulls_97 : decode cX5_pulls 97 = .ok (.bipush 31, 2) := by decide +kernel
theorem dX5_pulls_99 : decode cX5_pulls 99 = .ok (.iaload, 1) := by decide +kernel
theorem dX5_pulls_100 : decode cX5_pulls 100 = .ok (.aload_n 0, 1) := by decide +kernel
theorem dX5_pulls_101 : decode cX5_pulls 101 = .ok (.getfield 7, 3) := by decide +kernel
theorem dX5_pulls_104 : decode cX5_pulls 104 = .ok (.bipush 25, 2) := by decide +kernel
theorem dX5_pulls_106 : decode cX5_pulls 106 = .ok (.iaload, 1) := by decide +kernel
theorem dX5_pulls_107 : decode cX5_pulls 107 = .ok (.iadd, 1) := by decide +kernel
theorem dX5_pulls_108 : decode cX5_pulls 108 = .ok (.iconst 1, 1) := by decide +kernel
theorem dX5_pulls_109 : decode cX5_pulls 109 = .ok (.isub, 1) := by decide +kernel
theorem dX5_pulls_110 : decode cX5_pulls 110 = .ok (.istore_n 3, 1) := by decide +kernel
theorem dX5_pulls_111 : decode cX5_pulls 111 = .ok (.aload_n 0, 1) := by decide +kernel
theorem dX5_pulls_112 : decode cX5_pulls 112 = .ok (.getfield 7, 3) := by decide +kernel
theorem dX5_pulls_115 : decode cX5_pulls 115 = .ok (.bipush 31, 2) := by decide +kernel
theorem dX5_pulls_117 : decode cX5_pulls 117 = .ok (.iload_n 3, 1) := by decide +kernel
theorem dX5_pulls_118 : decode cX5_pulls 118 = .ok (.ifCond .ge 7, 3) := by decide +kernel
theorem dX5_pulls_121 : decode cX5_pulls 121 = .ok (.iconst 0, 1) := by decide +kernel
theorem dX5_pulls_122 : decode cX5_pulls 122 = .ok (.goto 17, 3) := by decide +kernel
theorem dX5_pulls_125 : decode cX5_pulls 125 = .ok (.iload_n 3, 1) := by decide +kernel
theorem dX5_pulls_126 : decode cX5_pulls 126 = .ok (.sipush 300, 3) := by decide +kernel
theorem dX5_pulls_129 : decode cX5_pulls 129 = .ok (.if_icmp .ge 7, 3) := by decide +kernel
theorem dX5_pulls_132 : decode cX5_pulls 132 = .ok (.iload_n 3, 1) := by decide +kernel
theorem dX5_pulls_133 : decode cX5_pulls 133 = .ok (.goto 6, 3) := by decide +kernel
theorem dX5_pulls_136 : decode cX5_pulls 136 = .ok (.sipush 300, 3) := by decide +kernel
theorem dX5_pulls_139 : decode cX5_pulls 139 = .ok (.iastore, 1) := by decide +kernel
theorem dX5_pulls_140 : decode cX5_pulls 140 = .ok (.aload_n 0, 1) := by decide +kernel
theorem dX5_pulls_141 : decode cX5_pulls 141 = .ok (.getfield 7, 3) := by decide +kernel
theorem dX5_pulls_144 : decode cX5_pulls 144 = .ok (.bipush 32, 2) := by decide +kernel
theorem dX5_pulls_146 : decode cX5_pulls 146 = .ok (.iaload, 1) := by decide +kernel
theorem dX5_pulls_147 : decode cX5_pulls 147 = .ok (.aload_n 0, 1) := by decide +kernel
theorem dX5_pulls_148 : decode cX5_pulls 148 = .ok (.getfield 7, 3) := by decide +kernel
theorem dX5_pulls_151 : decode cX5_pulls 151 = .ok (.bipush 28, 2) := by decide +kernel
theorem dX5_pulls_153 : decode cX5_pulls 153 = .ok (.iaload, 1) := by decide +kernel
theorem dX5_pulls_154 : decode cX5_pulls 154 = .ok (.if_icmp .le 22, 3) := by decide +kernel
theorem dX5_pulls_157 : decode cX5_pulls 157 = .ok (.aload_n 0, 1) := by decide +kernel
theorem dX5_pulls_158 : decode cX5_pulls 158 = .ok (.getfield 7, 3) := by decide +kernel
theorem dX5_pulls_161 : decode cX5_pulls 161 = .ok (.bipush 33, 2) := by decide +kernel
theorem dX5_pulls_163 : decode cX5_pulls 163 = .ok (.iconst 1, 1) := by decide +kernel
theorem dX5_pulls_164 : decode cX5_pulls 164 = .ok (.iastore, 1) := by decide +kernel
theorem dX5_pulls_165 : decode cX5_pulls 165 = .ok (.aload_n 0, 1) := by decide +kernel
theorem dX5_pulls_166 : decode cX5_pulls 166 = .ok (.getfield 7, 3) := by decide +kernel
theorem dX5_pulls_169 : decode cX5_pulls 169 = .ok (.bipush 36, 2) := by decide +kernel
theorem dX5_pulls_171 : decode cX5_pulls 171 = .ok (.dup2, 1) := by decide +kernel
theorem dX5_pulls_172 : decode cX5_pulls 172 = .ok (.iaload, 1) := by decide +kernel
theorem dX5_pulls_173 : decode cX5_pulls 173 = .ok (.iconst 1, 1) := by decide +kernel
theorem dX5_pulls_174 : decode cX5_pulls 174 = .ok (.iadd, 1) := by decide +kernel
theorem dX5_pulls_175 : decode cX5_pulls 175 = .ok (.iastore, 1) := by decide +kernel
theorem dX5_pulls_176 : decode cX5_pulls 176 = .ok (.return_, 1) := by decide +kernel
set_option maxRecDepth 20000 in
theorem ggX5_turns_X5_place : GoodIn wsX5_turns wsX5_place := goodIn_r _ [6, 1, 7, 8, 5, 9, 18, 19, 20, 21, 22, 23, 24, 25, 26, 27, 28, 29] (by decide +kernel) (by decide +kernel)
set_option maxRecDepth 20000 in
theorem gX5_turns_X5_place : GoodIn wsX5_turns (wsV RX5 52 RX5 yX5_place wsX5_place) := goodIn_app (goodIn_of _ (by decide +kernel)) ggX5_turns_X5_place
set_option maxRecDepth 20000 in
theorem ggX5_turns_X5_pulls : GoodIn wsX5_turns wsX5_pulls := goodIn_r _ [13, 1, 2, 3, 4, 5, 6, 7, 8, 9, 18, 19, 20, 21, 22, 23, 24, 25, 26, 27, 28, 29] (by decide +kernel) (by decide +kernel)
set_option maxRecDepth 20000 in
theorem gX5_turns_X5_pulls : GoodIn wsX5_turns (wsV RX5 55 RX5 yX5_pulls wsX5_pulls) := goodIn_app (goodIn_of _ (by decide +kernel)) ggX5_turns_X5_pulls
set_option maxRecDepth 20000 in
theorem ggX5_turns_X5_guideGoes : GoodIn wsX5_turns wsX5_guideGoes := goodIn_r _ [17, 1, 18, 19, 20, 21, 22, 23, 24, 25, 26, 27, 28, 29] (by decide +kernel) (by decide +kernel)
set_option maxRecDepth 20000 in
theorem gX5_turns_X5_guideGoes : GoodIn wsX5_turns (wsV RX5 58 RX5 yX5_guideGoes wsX5_guideGoes) := goodIn_app (goodIn_of _ (by decide +kernel)) ggX5_turns_X5_guideGoes
theorem dX5_turns_0 : decode cX5_turns 0 = .ok (.bipush 10, 2) := by decide +kernel
theorem dX5_turns_2 : decode cX5_turns 2 = .ok (.aload_n 0, 1) := by decide +kernel
theorem dX5_turns_3 : decode cX5_turns 3 = .ok (.getfield 7, 3) := by decide +kernel
theorem dX5_turns_6 : decode cX5_turns 6 = .ok (.iconst 0, 1) := by decide +kernel
theorem dX5_turns_7 : decode cX5_turns 7 = .ok (.aload_n 0, 1) := by decide +kernel
theorem dX5_turns_8 : decode cX5_turns 8 = .ok (.invokevirtual 52, 3) := by decide +kernel
theorem dX5_turns_11 : decode cX5_turns 11 = .ok (.iadd, 1) := by decide +kernel
theorem dX5_turns_12 : decode cX5_turns 12 = .ok (.iaload, 1) := by decide +kernel
theorem dX5_turns_13 : decode cX5_turns 13 = .ok (.iadd, 1) := by decide +kernel
theorem dX5_turns_14 : decode cX5_turns 14 = .ok (.istore_n 1, 1) := by decide +kernel
theorem dX5_turns_15 : decode cX5_turns 15 = .ok (.aload_n 0, 1) := by decide +kernel
theorem dX5_turns_16 : decode cX5_turns 16 = .ok (.getfield 7, 3) := by decide +kernel
theorem dX5_turns_19 : decode cX5_turns 19 = .ok (.bipush 35, 2) := by decide +kernel
theorem dX5_turns_21 : decode cX5_turns 21 = .ok (.dup2, 1) := by decide +kernel
theorem dX5_turns_22 : decode cX5_turns 22 = .ok (.iaload, 1) := by decide +kernel
theorem dX5_turns_23 : decode cX5_turns 23 = .ok (.iconst 1, 1) := by decide +kernel
theorem dX5_turns_24 : decode cX5_turns 24 = .ok (.iadd, 1) := by decide +kernel
theorem dX5_turns_25 : decode cX5_turns 25 = .ok (.iastore, 1) := by decide +kernel
theorem dX5_turns_26 : decode cX5_turns 26 = .ok (.aload_n 0, 1) := by decide +kernel
theorem dX5_turns_27 : decode cX5_turns 27 = .ok (.getfield 7, 3) := by decide +kernel
theorem dX5_turns_30 : decode cX5_turns 30 = .ok (.bipush 30, 2) := by decide +kernel
theorem dX5_turns_32 : decode cX5_turns 32 = .ok (.iaload, 1) := by decide +kernel
theorem dX5_turns_33 : decode cX5_turns 33 = .ok (.iload_n 1, 1) := by decide +kernel
theorem dX5_turns_34 : decode cX5_turns 34 = .ok (.if_icmp .ge 13, 3) := by decide +kernel
theorem dX5_turns_37 : decode cX5_turns 37 = .ok (.aload_n 0, 1) := by decide +kernel
theorem dX5_turns_38 : decode cX5_turns 38 = .ok (.getfield 7, 3) := by decide +kernel
theorem dX5_turns_41 : decode cX5_turns 41 = .ok (.bipush 30, 2) := by decide +kernel
theorem dX5_turns_43 : decode cX5_turns 43 = .ok (.iconst 0, 1) := by decide +kernel
theorem dX5_turns_44 : decode cX5_turns 44 = .ok (.iastore, 1) := by decide +kernel
theorem dX5_turns_45 : decode cX5_turns 45 = .ok (.iconst 0, 1) := by decide +kernel
theorem dX5_turns_46 : decode cX5_turns 46 = .ok (.ireturn, 1) := by decide +kernel
theorem dX5_turns_47 : decode cX5_turns 47 = .ok (.aload_n 0, 1) := by decide +kernel
theorem dX5_turns_48 : decode cX5_turns 48 = .ok (.getfield 7, 3) := by decide +kernel
theorem dX5_turns_51 : decode cX5_turns 51 = .ok (.bipush 30, 2) := by decide +kernel
theorem dX5_turns_53 : decode cX5_turns 53 = .ok (.dup2, 1) := by decide +kernel
theorem dX5_turns_54 : decode cX5_turns 54 = .ok (.iaload, 1) := by decide +kernel
theorem dX5_turns_55 : decode cX5_turns 55 = .ok (.iload_n 1, 1) := by decide +kernel
theorem dX5_turns_56 : decode cX5_turns 56 = .ok (.isub, 1) := by decide +kernel
theorem dX5_turns_57 : decode cX5_turns 57 = .ok (.iastore, 1) := by decide +kernel
theorem dX5_turns_58 : decode cX5_turns 58 = .ok (.aload_n 0, 1) := by decide +kernel
theorem dX5_turns_59 : decode cX5_turns 59 = .ok (.getfield 7, 3) := by decide +kernel
theorem dX5_turns_62 : decode cX5_turns 62 = .ok (.iconst 0, 1) := by decide +kernel
theorem dX5_turns_63 : decode cX5_turns 63 = .ok (.aload_n 0, 1) := by decide +kernel
theorem dX5_turns_64 : decode cX5_turns 64 = .ok (.invokevirtual 52, 3) := by decide +kernel
theorem dX5_turns_67 : decode cX5_turns 67 = .ok (.iadd, 1) := by decide +kernel
theorem dX5_turns_68 : decode cX5_turns 68 = .ok (.dup2, 1) := by decide +kernel
theorem dX5_turns_69 : decode cX5_turns 69 = .ok (.iaload, 1) := by decide +kernel
theorem dX5_turns_70 : decode cX5_turns 70 = .ok (.iconst 1, 1) := by decide +kernel
theorem dX5_turns_71 : decode cX5_turns 71 = .ok (.iadd, 1) := by decide +kernel
theorem dX5_turns_72 : decode cX5_turns 72 = .ok (.iastore, 1) := by decide +kernel
theorem dX5_turns_73 : decode cX5_turns 73 = .ok (.aload_n 0, 1) := by decide +kernel
theorem dX5_turns_74 : decode cX5_turns 74 = .ok (.invokevirtual 55, 3) := by decide +kernel
theorem dX5_turns_77 : decode cX5_turns 77 = .ok (.aload_n 0, 1) := by decide +kernel
theorem dX5_turns_78 : decode cX5_turns 78 = .ok (.invokevirtual 58, 3) := by decide +kernel
theorem dX5_turns_81 : decode cX5_turns 81 = .ok (.iconst 1, 1) := by decide +kernel
theorem dX5_turns_82 : decode cX5_turns 82 = .ok (.ireturn, 1) := by decide +kernel
set_option maxRecDepth 20000 in
theorem ggX5_isNumber_X5_in : GoodIn wsX5_isNumber wsX5_in := goodIn_r _ [10] (by decide +kernel) (by decide +kernel)
set_option maxRecDepth 20000 in
theorem gX5_isNumber_X5_in : GoodIn wsX5_isNumber (va_wsS RX5 63 yX5_in wsX5_in) := goodIn_app (goodIn_of _ (by decide +kernel)) ggX5_isNumber_X5_in
theorem dX5_isNumber_0 : decode cX5_isNumber 0 = .ok (.iload_n 0, 1) := by decide +kernel
theorem dX5_isNumber_1 : decode cX5_isNumber 1 = .ok (.tableswitch 73 0 3 #[31, 41, 51, 61], 31) := by decide +kernel
theorem dX5_isNumber_32 : decode cX5_isNumber 32 = .ok (.iload_n 1, 1) := by decide +kernel
theorem dX5_isNumber_33 : decode cX5_isNumber 33 = .ok (.i2l, 1) := by decide +kernel
theorem dX5_isNumber_34 : decode cX5_isNumber 34 = .ok (.lconst 1, 1) := by decide +kernel
theorem dX5_isNumber_35 : decode cX5_isNumber 35 = .ok (.ldc2_w 61, 3) := by decide +kernel
theorem dX5_isNumber_38 : decode cX5_isNumber 38 = .ok (.invokestatic 63, 3) := by decide +kernel
theorem dX5_isNumber_41 : decode cX5_isNumber 41 = .ok (.ireturn, 1) := by decide +kernel
theorem dX5_isNumber_42 : decode cX5_isNumber 42 = .ok (.iload_n 1, 1) := by decide +kernel
theorem dX5_isNumber_43 : decode cX5_isNumber 43 = .ok (.i2l, 1) := by decide +kernel
theorem dX5_isNumber_44 : decode cX5_isNumber 44 = .ok (.lconst 0, 1) := by decide +kernel
theorem dX5_isNumber_45 : decode cX5_isNumber 45 = .ok (.ldc2_w 67, 3) := by decide +kernel
theorem dX5_isNumber_48 : decode cX5_isNumber 48 = .ok (.invokestatic 63, 3) := by decide +kernel
theorem dX5_isNumber_51 : decode cX5_isNumber 51 = .ok (.ireturn, 1) := by decide +kernel
theorem dX5_isNumber_52 : decode cX5_isNumber 52 = .ok (.iload_n 1, 1) := by decide +kernel
theorem dX5_isNumber_53 : decode cX5_isNumber 53 = .ok (.i2l, 1) := by decide +kernel
theorem dX5_isNumber_54 : decode cX5_isNumber 54 = .ok (.lconst 0, 1) := by decide +kernel
theorem dX5_isNumber_55 : decode cX5_isNumber 55 = .ok (.ldc2_w 69, 3) := by decide +kernel
theorem dX5_isNumber_58 : decode cX5_isNumber 58 = .ok (.invokestatic 63, 3) := by decide +kernel
theorem dX5_isNumber_61 : decode cX5_isNumber 61 = .ok (.ireturn, 1) := by decide +kernel
theorem dX5_isNumber_62 : decode cX5_isNumber 62 = .ok (.iload_n 1, 1) := by decide +kernel
theorem dX5_isNumber_63 : decode cX5_isNumber 63 = .ok (.i2l, 1) := by decide +kernel
theorem dX5_isNumber_64 : decode cX5_isNumber 64 = .ok (.ldc2_w 69, 3) := by decide +kernel
theorem dX5_isNumber_67 : decode cX5_isNumber 67 = .ok (.ldc2_w 71, 3) := by decide +kernel
theorem dX5_isNumber_70 : decode cX5_isNumber 70 = .ok (.invokestatic 63, 3) := by decide +kernel
theorem dX5_isNumber_73 : decode cX5_isNumber 73 = .ok (.ireturn, 1) := by decide +kernel
theorem dX5_isNumber_74 : decode cX5_isNumber 74 = .ok (.iload_n 1, 1) := by decide +kernel
theorem dX5_isNumber_75 : decode cX5_isNumber 75 = .ok (.i2l, 1) := by decide +kernel
theorem dX5_isNumber_76 : decode cX5_isNumber 76 = .ok (.ldc2_w 73, 3) := by decide +kernel
theorem dX5_isNumber_79 : decode cX5_isNumber 79 = .ok (.ldc2_w 75, 3) := by decide +kernel
theorem dX5_isNumber_82 : decode cX5_isNumber 82 = .ok (.invokestatic 63, 3) := by decide +kernel
theorem dX5_isNumber_85 : decode cX5_isNumber 85 = .ok (.ireturn, 1) := by decide +kernel
theorem dX5_doSet_0 : decode cX5_doSet 0 = .ok (.aload_n 0, 1) := by decide +kernel
theorem dX5_doSet_1 : decode cX5_doSet 1 = .ok (.getfield 7, 3) := by decide +kernel
theorem dX5_doSet_4 : decode cX5_doSet 4 = .ok (.bipush 24, 2) := by decide +kernel
theorem dX5_doSet_6 : decode cX5_doSet 6 = .ok (.iload_n 1, 1) := by decide +kernel
theorem dX5_doSet_7 : decode cX5_doSet 7 = .ok (.iadd, 1) := by decide +kernel
theorem dX5_doSet_8 : decode cX5_doSet 8 = .ok (.iaload, 1) := by decide +kernel
theorem dX5_doSet_9 : decode cX5_doSet 9 = .ok (.istore_n 3, 1) := by decide +kernel
theorem dX5_doSet_10 : decode cX5_doSet 10 = .ok (.aload_n 0, 1) := by decide +kernel
theorem dX5_doSet_11 : decode cX5_doSet 11 = .ok (.getfield 7, 3) := by decide +kernel
theorem dX5_doSet_14 : decode cX5_doSet 14 = .ok (.bipush 24, 2) := by decide +kernel
theorem dX5_doSet_16 : decode cX5_doSet 16 = .ok (.iload_n 1, 1) := by decide +kernel
theorem dX5_doSet_17 : decode cX5_doSet 17 = .ok (.iadd, 1) := by decide +kernel
theorem dX5_doSet_18 : decode cX5_doSet 18 = .ok (.iload_n 2, 1) := by decide +kernel
theorem dX5_doSet_19 : decode cX5_doSet 19 = .ok (.iastore, 1) := by decide +kernel
theorem dX5_doSet_20 : decode cX5_doSet 20 = .ok (.iload_n 3, 1) := by decide +kernel
theorem dX5_doSet_21 : decode cX5_doSet 21 = .ok (.iload_n 2, 1) := by decide +kernel
theorem dX5_doSet_22 : decode cX5_doSet 22 = .ok (.if_icmp .ne 8, 3) := by decide +kernel
theorem dX5_doSet_25 : decode cX5_doSet 25 = .ok (.bipush (-5), 2) := by decide +kernel
theorem dX5_doSet_27 : decode cX5_doSet 27 = .ok (.goto 4, 3) := by decide +kernel
theorem dX5_doSet_30 : decode cX5_doSet 30 = .ok (.iload_n 3, 1) := by decide +kernel
theorem dX5_doSet_31 : decode cX5_doSet 31 = .ok (.ireturn, 1) := by decide +kernel
set_option maxRecDepth 20000 in
theorem ggX5_set_X5_in : GoodIn wsX5_set wsX5_in := goodIn_r _ [5] (by decide +kernel) (by decide +kernel)
set_option maxRecDepth 20000 in
theorem gX5_set_X5_in : GoodIn wsX5_set (va_wsS RX5 63 yX5_in wsX5_in) := goodIn_app (goodIn_of _ (by decide +kernel)) ggX5_set_X5_in
set_option maxRecDepth 20000 in
theorem ggX5_set_X5_isNumber : GoodIn wsX5_set wsX5_isNumber := goodIn_r _ [8, 9, 10, 11, 12, 13, 14, 2, 3, 4, 5] (by decide +kernel) (by decide +kernel)
set_option maxRecDepth 20000 in
theorem gX5_set_X5_isNumber : GoodIn wsX5_set (va_wsS RX5 79 yX5_isNumber wsX5_isNumber) := goodIn_app (goodIn_of _ (by decide +kernel)) ggX5_set_X5_isNumber
set_option maxRecDepth 20000 in
theorem ggX5_set_X5_remember : GoodIn wsX5_set wsX5_remember := goodIn_r _ [18, 19, 20, 21, 22, 4, 23, 34, 35, 36, 37, 38, 39, 40, 41, 42, 43, 44, 45] (by decide +kernel) (by decide +kernel)
set_option maxRecDepth 20000 in
theorem gX5_set_X5_remember : GoodIn wsX5_set (wsV RX5 83 RX5 yX5_remember wsX5_remember) := goodIn_app (goodIn_of _ (by decide +kernel)) ggX5_set_X5_remember
set_option maxRecDepth 20000 in
theorem ggX5_set_X5_doSet : GoodIn wsX5_set wsX5_doSet := goodIn_r _ [27, 19, 34, 35, 36, 37, 38, 39, 40, 41, 42, 43, 44, 45] (by decide +kernel) (by decide +kernel)
set_option maxRecDepth 20000 in
theorem gX5_set_X5_doSet : GoodIn wsX5_set (wsV RX5 86 RX5 yX5_doSet wsX5_doSet) := goodIn_app (goodIn_of _ (by decide +kernel)) ggX5_set_X5_doSet
set_option maxRecDepth 20000 in
theorem ggX5_set_X5_acted : GoodIn wsX5_set wsX5_acted := goodIn_r _ [31, 32, 33, 20, 34, 35, 36, 37, 38, 39, 40, 41, 42, 43, 44, 45] (by decide +kernel) (by decide +kernel)
set_option maxRecDepth 20000 in
theorem gX5_set_X5_acted : GoodIn wsX5_set (wsV RX5 90 RX5 yX5_acted wsX5_acted) := goodIn_app (goodIn_of _ (by decide +kernel)) ggX5_set_X5_acted
theorem dX5_set_0 : decode cX5_set 0 = .ok (.iload_n 1, 1) := by decide +kernel
theorem dX5_set_1 : decode cX5_set 1 = .ok (.i2l, 1) := by decide +kernel
theorem dX5_set_2 : decode cX5_set 2 = .ok (.lconst 0, 1) := by decide +kernel
theorem dX5_set_3 : decode cX5_set 3 = .ok (.ldc2_w 77, 3) := by decide +kernel
theorem dX5_set_6 : decode cX5_set 6 = .ok (.invokestatic 63, 3) := by decide +kernel
theorem dX5_set_9 : decode cX5_set 9 = .ok (.ifCond .ne 5, 3) := by decide +kernel
theorem dX5_set_12 : decode cX5_set 12 = .ok (.iconst (-1), 1) := by decide +kernel
theorem dX5_set_13 : decode cX5_set 13 = .ok (.ireturn, 1) := by decide +kernel
theorem dX5_set_14 : decode cX5_set 14 = .ok (.iload_n 1, 1) := by decide +kernel
theorem dX5_set_15 : decode cX5_set 15 = .ok (.iload_n 2, 1) := by decide +kernel
theorem dX5_set_16 : decode cX5_set 16 = .ok (.invokestatic 79, 3) := by decide +kernel
theorem dX5_set_19 : decode cX5_set 19 = .ok (.ifCond .ne 6, 3) := by decide +kernel
theorem dX5_set_22 : decode cX5_set 22 = .ok (.bipush (-2), 2) := by decide +kernel
theorem dX5_set_24 : decode cX5_set 24 = .ok (.ireturn, 1) := by decide +kernel
theorem dX5_set_25 : decode cX5_set 25 = .ok (.aload_n 0, 1) := by decide +kernel
theorem dX5_set_26 : decode cX5_set 26 = .ok (.invokevirtual 83, 3) := by decide +kernel
theorem dX5_set_29 : decode cX5_set 29 = .ok (.aload_n 0, 1) := by decide +kernel
theorem dX5_set_30 : decode cX5_set 30 = .ok (.iload_n 1, 1) := by decide +kernel
theorem dX5_set_31 : decode cX5_set 31 = .ok (.iload_n 2, 1) := by decide +kernel
theorem dX5_set_32 : decode cX5_set 32 = .ok (.invokevirtual 86, 3) := by decide +kernel
theorem dX5_set_35 : decode cX5_set 35 = .ok (.istore_n 3, 1) := by decide +kernel
theorem dX5_set_36 : decode cX5_set 36 = .ok (.iload_n 3, 1) := by decide +kernel
theorem dX5_set_37 : decode cX5_set 37 = .ok (.ifCond .ge 7, 3) := by decide +kernel
theorem dX5_set_40 : decode cX5_set 40 = .ok (.iload_n 3, 1) := by decide +kernel
theorem dX5_set_41 : decode cX5_set 41 = .ok (.goto 8, 3) := by decide +kernel
theorem dX5_set_44 : decode cX5_set 44 = .ok (.aload_n 0, 1) := by decide +kernel
theorem dX5_set_45 : decode cX5_set 45 = .ok (.iload_n 3, 1) := by decide +kernel
theorem dX5_set_46 : decode cX5_set 46 = .ok (.invokevirtual 90, 3) := by decide +kernel
theorem dX5_set_49 : decode cX5_set 49 = .ok (.ireturn, 1) := by decide +kernel
set_option maxRecDepth 20000 in
theorem ggX5_doWind_X5_isIdle : GoodIn wsX5_doWind wsX5_isIdle := goodIn_r _ [5, 6, 7, 8, 9, 4, 10, 11, 12, 13, 14, 34, 35, 36, 37, 38, 39, 40, 41, 42, 43, 44, 45] (by decide +kernel) (by decide +kernel)
set_option maxRecDepth 20000 in
theorem gX5_doWind_X5_isIdle : GoodIn wsX5_doWind (wsV RX5 93 RX5 yX5_isIdle wsX5_isIdle) := goodIn_app (goodIn_of _ (by decide +kernel)) ggX5_doWind_X5_isIdle
set_option maxRecDepth 20000 in
theorem ggX5_doWind_X5_turns : GoodIn wsX5_doWind wsX5_turns := goodIn_r _ [18, 6, 19, 20, 21, 4, 22, 23, 24, 25, 26, 27, 28, 29, 30, 31, 32, 33, 34, 35, 36, 37, 38, 39, 40, 41, 42, 43, 44, 45] (by decide +kernel) (by decide +kernel)
set_option maxRecDepth 20000 in
theorem gX5_doWind_X5_turns : GoodIn wsX5_doWind (wsV RX5 96 RX5 yX5_turns wsX5_turns) := goodIn_app (goodIn_of _ (by decide +kernel)) ggX5_doWind_X5_turns
theorem dX5_doWind_0 : decode cX5_doWind 0 = .ok (.aload_n 0, 1) := by decide +kernel
theorem dX5_doWind_1 : decode cX5_doWind 1 = .ok (.invokevirtual 93, 3) := by decide +kernel
theorem dX5_doWind_4 : decode cX5_doWind 4 = .ok (.ifCond .eq 6, 3) := by decide +kernel
theorem dX5_doWind_7 : decode cX5_doWind 7 = .ok (.bipush (-5), 2) := by decide +kernel
theorem dX5_doWind_9 : decode cX5_doWind 9 = .ok (.ireturn, 1) := by decide +kernel
theorem dX5_doWind_10 : decode cX5_doWind 10 = .ok (.iconst 0, 1) := by decide +kernel
theorem dX5_doWind_11 : decode cX5_doWind 11 = .ok (.istore_n 2, 1) := by decide +kernel
theorem dX5_doWind_12 : decode cX5_doWind 12 = .ok (.iconst 0, 1) := by decide +kernel
theorem dX5_doWind_13 : decode cX5_doWind 13 = .ok (.istore_n 3, 1) := by decide +kernel
theorem dX5_doWind_14 : decode cX5_doWind 14 = .ok (.iload_n 3, 1) := by decide +kernel
theorem dX5_doWind_15 : decode cX5_doWind 15 = .ok (.iload_n 1, 1) := by decide +kernel
theorem dX5_doWind_16 : decode cX5_doWind 16 = .ok (.if_icmp .ge 31, 3) := by decide +kernel
theorem dX5_doWind_19 : decode cX5_doWind 19 = .ok (.aload_n 0, 1) := by decide +kernel
theorem dX5_doWind_20 : decode cX5_doWind 20 = .ok (.invokevirtual 93, 3) := by decide +kernel
theorem dX5_doWind_23 : decode cX5_doWind 23 = .ok (.ifCond .ne 24, 3) := by decide +kernel
theorem dX5_doWind_26 : decode cX5_doWind 26 = .ok (.iload_n 2, 1) := by decide +kernel
theorem dX5_doWind_27 : decode cX5_doWind 27 = .ok (.aload_n 0, 1) := by decide +kernel
theorem dX5_doWind_28 : decode cX5_doWind 28 = .ok (.invokevirtual 96, 3) := by decide +kernel
theorem dX5_doWind_31 : decode cX5_doWind 31 = .ok (.ifCond .eq 7, 3) := by decide +kernel
theorem dX5_doWind_34 : decode cX5_doWind 34 = .ok (.iconst 1, 1) := by decide +kernel
theorem dX5_doWind_35 : decode cX5_doWind 35 = .ok (.goto 4, 3) := by decide +kernel
theorem dX5_doWind_38 : decode cX5_doWind 38 = .ok (.iconst 0, 1) := by decide +kernel
theorem dX5_doWind_39 : decode cX5_doWind 39 = .ok (.iadd, 1) := by decide +kernel
theorem dX5_doWind_40 : decode cX5_doWind 40 = .ok (.istore_n 2, 1) := by decide +kernel
theorem dX5_doWind_41 : decode cX5_doWind 41 = .ok (.iinc 3 1, 3) := by decide +kernel
theorem dX5_doWind_44 : decode cX5_doWind 44 = .ok (.goto (-30), 3) := by decide +kernel
theorem dX5_doWind_47 : decode cX5_doWind 47 = .ok (.iload_n 2, 1) := by decide +kernel
theorem dX5_doWind_48 : decode cX5_doWind 48 = .ok (.ireturn, 1) := by decide +kernel
set_option maxRecDepth 20000 in
theorem ggX5_wind_X5_in : GoodIn wsX5_wind wsX5_in := goodIn_r _ [5] (by decide +kernel) (by decide +kernel)
set_option maxRecDepth 20000 in
theorem gX5_wind_X5_in : GoodIn wsX5_wind (va_wsS RX5 63 yX5_in wsX5_in) := goodIn_app (goodIn_of _ (by decide +kernel)) ggX5_wind_X5_in
set_option maxRecDepth 20000 in
theorem ggX5_wind_X5_remember : GoodIn wsX5_wind wsX5_remember := goodIn_r _ [9, 10, 11, 12, 13, 4, 14, 56, 57, 58, 59, 60, 61, 62, 63, 64, 65, 66, 67] (by decide +kernel) (by decide +kernel)
set_option maxRecDepth 20000 in
theorem gX5_wind_X5_remember : GoodIn wsX5_wind (wsV RX5 83 RX5 yX5_remember wsX5_remember) := goodIn_app (goodIn_of _ (by decide +kernel)) ggX5_wind_X5_remember
set_option maxRecDepth 20000 in
theorem ggX5_wind_X5_doWind : GoodIn wsX5_wind wsX5_doWind := goodIn_r _ [18, 19, 20, 21, 4, 22, 10, 23, 24, 25, 26, 27, 28, 29, 30, 31, 32, 33, 34, 35, 36, 37, 38, 39, 40, 41, 42, 43, 44, 45, 46, 47, 48, 49, 56, 57, 58, 59, 60, 61, 62, 63, 64, 65, 66, 67] (by decide +kernel) (by decide +kernel)
set_option maxRecDepth 20000 in
theorem gX5_wind_X5_doWind : GoodIn wsX5_wind (wsV RX5 101 RX5 yX5_doWind wsX5_doWind) := goodIn_app (goodIn_of _ (by decide +kernel)) ggX5_wind_X5_doWind
set_option maxRecDepth 20000 in
theorem ggX5_wind_X5_acted : GoodIn wsX5_wind wsX5_acted := goodIn_r _ [53, 54, 55, 11, 56, 57, 58, 59, 60, 61, 62, 63, 64, 65, 66, 67] (by decide +kernel) (by decide +kernel)
set_option maxRecDepth 20000 in
theorem gX5_wind_X5_acted : GoodIn wsX5_wind (wsV RX5 90 RX5 yX5_acted wsX5_acted) := goodIn_app (goodIn_of _ (by decide +kernel)) ggX5_wind_X5_acted
theorem dX5_wind_0 : decode cX5_wind 0 = .ok (.iload_n 1, 1) := by decide +kernel
theorem dX5_wind_1 : decode cX5_wind 1 = .ok (.i2l, 1) := by decide +kernel
theorem dX5_wind_2 : decode cX5_wind 2 = .ok (.lconst 1, 1) := by decide +kernel
theorem dX5_wind_3 : decode cX5_wind 3 = .ok (.ldc2_w 99, 3) := by decide +kernel
theorem dX5_wind_6 : decode cX5_wind 6 = .ok (.invokestatic 63, 3) := by decide +kernel
theorem dX5_wind_9 : decode cX5_wind 9 = .ok (.ifCond .ne 6, 3) := by decide +kernel
theorem dX5_wind_12 : decode cX5_wind 12 = .ok (.bipush (-2), 2) := by decide +kernel
theorem dX5_wind_14 : decode cX5_wind 14 = .ok (.ireturn, 1) := by decide +kernel
theorem dX5_wind_15 : decode cX5_wind 15 = .ok (.aload_n 0, 1) := by decide +kernel
theorem dX5_wind_16 : decode cX5_wind 16 = .ok (.invokevirtual 83, 3) := by decide +kernel
theorem dX5_wind_19 : decode cX5_wind 19 = .ok (.aload_n 0, 1) := by decide +kernel
theorem dX5_wind_20 : decode cX5_wind 20 = .ok (.iload_n 1, 1) := by decide +kernel
theorem dX5_wind_21 : decode cX5_wind 21 = .ok (.invokevirtual 101, 3) := by decide +kernel
theorem dX5_wind_24 : decode cX5_wind 24 = .ok (.istore_n 2, 1) := by decide +kernel
theorem dX5_wind_25 : decode cX5_wind 25 = .ok (.iload_n 2, 1) := by decide +kernel
theorem dX5_wind_26 : decode cX5_wind 26 = .ok (.ifCond .ge 7, 3) := by decide +kernel
theorem dX5_wind_29 : decode cX5_wind 29 = .ok (.iload_n 2, 1) := by decide +kernel
theorem dX5_wind_30 : decode cX5_wind 30 = .ok (.goto 8, 3) := by decide +kernel
theorem dX5_wind_33 : decode cX5_wind 33 = .ok (.aload_n 0, 1) := by decide +kernel
theorem dX5_wind_34 : decode cX5_wind 34 = .ok (.iload_n 2, 1) := by decide +kernel
theorem dX5_wind_35 : decode cX5_wind 35 = .ok (.invokevirtual 90, 3) := by decide +kernel
theorem dX5_wind_38 : decode cX5_wind 38 = .ok (.ireturn, 1) := by decide +kernel
theorem dX5_doKnot_0 : decode cX5_doKnot 0 = .ok (.aload_n 0, 1) := by decide +kernel
theorem dX5_doKnot_1 : decode cX5_doKnot 1 = .ok (.getfield 7, 3) := by decide +kernel
theorem dX5_doKnot_4 : decode cX5_doKnot 4 = .ok (.bipush 30, 2) := by decide +kernel
theorem dX5_doKnot_6 : decode cX5_doKnot 6 = .ok (.iaload, 1) := by decide +kernel
theorem dX5_doKnot_7 : decode cX5_doKnot 7 = .ok (.aload_n 0, 1) := by decide +kernel
theorem dX5_doKnot_8 : decode cX5_doKnot 8 = .ok (.getfield 7, 3) := by decide +kernel
theorem dX5_doKnot_11 : decode cX5_doKnot 11 = .ok (.bipush 27, 2) := by decide +kernel
theorem dX5_doKnot_13 : decode cX5_doKnot 13 = .ok (.iaload, 1) := by decide +kernel
theorem dX5_doKnot_14 : decode cX5_doKnot 14 = .ok (.if_icmp .ge 6, 3) := by decide +kernel
theorem dX5_doKnot_17 : decode cX5_doKnot 17 = .ok (.bipush (-4), 2) := by decide +kernel
theorem dX5_doKnot_19 : decode cX5_doKnot 19 = .ok (.ireturn, 1) := by decide +kernel
theorem dX5_doKnot_20 : decode cX5_doKnot 20 = .ok (.aload_n 0, 1) := by decide +kernel
theorem dX5_doKnot_21 : decode cX5_doKnot 21 = .ok (.getfield 7, 3) := by decide +kernel
theorem dX5_doKnot_24 : decode cX5_doKnot 24 = .ok (.bipush 33, 2) := by decide +kernel
theorem dX5_doKnot_26 : decode cX5_doKnot 26 = .ok (.iaload, 1) := by decide +kernel
theorem dX5_doKnot_27 : decode cX5_doKnot 27 = .ok (.ifCond .ne 6, 3) := by decide +kernel
theorem dX5_doKnot_30 : decode cX5_doKnot 30 = .ok (.bipush (-5), 2) := by decide +kernel
theorem dX5_doKnot_32 : decode cX5_doKnot 32 = .ok (.ireturn, 1) := by decide +kernel
theorem dX5_doKnot_33 : decode cX5_doKnot 33 = .ok (.aload_n 0, 1) := by decide +kernel
theorem dX5_doKnot_34 : decode cX5_doKnot 34 = .ok (.getfield 7, 3) := by decide +kernel
theorem dX5_doKnot_37 : decode cX5_doKnot 37 = .ok (.bipush 30, 2) := by decide +kernel
theorem dX5_doKnot_39 : decode cX5_doKnot 39 = .ok (.dup2, 1) := by decide +kernel
theorem dX5_doKnot_40 : decode cX5_doKnot 40 = .ok (.iaload, 1) := by decide +kernel
theorem dX5_doKnot_41 : decode cX5_doKnot 41 = .ok (.aload_n 0, 1) := by decide +kernel
theorem dX5_doKnot_42 : decode cX5_doKnot 42 = .ok (.getfield 7, 3) := by decide +kernel
theorem dX5_doKnot_45 : decode cX5_doKnot 45 = .ok (.bipush 27, 2) := by decide +kernel
theorem dX5_doKnot_47 : decode cX5_doKnot 47 = .ok (.iaload, 1) := by decide +kernel
theorem dX5_doKnot_48 : decode cX5_doKnot 48 = .ok (.isub, 1) := by decide +kernel
theorem dX5_doKnot_49 : decode cX5_doKnot 49 = .ok (.iastore, 1) := by decide +kernel
theorem dX5_doKnot_50 : decode cX5_doKnot 50 = .ok (.aload_n 0, 1) := by decide +kernel
theorem dX5_doKnot_51 : decode cX5_doKnot 51 = .ok (.getfield 7, 3) := by decide +kernel
theorem dX5_doKnot_54 : decode cX5_doKnot 54 = .ok (.bipush 33, 2) := by decide +kernel
theorem dX5_doKnot_56 : decode cX5_doKnot 56 = .ok (.iconst 0, 1) := by decide +kernel
theorem dX5_doKnot_57 : decode cX5_doKnot 57 = .ok (.iastore, 1) := by decide +kernel
theorem dX5_doKnot_58 : decode cX5_doKnot 58 = .ok (.aload_n 0, 1) := by decide +kernel
theorem dX5_doKnot_59 : decode cX5_doKnot 59 = .ok (.getfield 7, 3) := by decide +kernel
theorem dX5_doKnot_62 : decode cX5_doKnot 62 = .ok (.bipush 12, 2) := by decide +kernel
theorem dX5_doKnot_64 : decode cX5_doKnot 64 = .ok (.aload_n 0, 1) := by decide +kernel
theorem dX5_doKnot_65 : decode cX5_doKnot 65 = .ok (.getfield 7, 3) := by decide +kernel
theorem dX5_doKnot_68 : decode cX5_doKnot 68 = .ok (.bipush 34, 2) := by decide +kernel
theorem dX5_doKnot_70 : decode cX5_doKnot 70 = .ok (.iaload, 1) := by decide +kernel
theorem dX5_doKnot_71 : decode cX5_doKnot 71 = .ok (.iadd, 1) := by decide +kernel
theorem dX5_doKnot_72 : decode cX5_doKnot 72 = .ok (.dup2, 1) := by decide +kernel
theorem dX5_doKnot_73 : decode cX5_doKnot 73 = .ok (.iaload, 1) := by decide +kernel
theorem dX5_doKnot_74 : decode cX5_doKnot 74 = .ok (.iconst 1, 1) := by decide +kernel
theorem dX5_doKnot_75 : decode cX5_doKnot 75 = .ok (.iadd, 1) := by decide +kernel
theorem dX5_doKnot_76 : decode cX5_doKnot 76 = .ok (.iastore, 1) := by decide +kernel
theorem dX5_doKnot_77 : decode cX5_doKnot 77 = .ok (.aload_n 0, 1) := by decide +kernel
theorem dX5_doKnot_78 : decode cX5_doKnot 78 = .ok (.getfield 7, 3) := by decide +kernel
theorem dX5_doKnot_81 : decode cX5_doKnot 81 = .ok (.bipush 12, 2) := by decide +kernel
theorem dX5_doKnot_83 : decode cX5_doKnot 83 = .ok (.aload_n 0, 1) := by decide +kernel
theorem dX5_doKnot_84 : decode cX5_doKnot 84 = .ok (.getfield 7, 3) := by decide +kernel
theorem dX5_doKnot_87 : decode cX5_doKnot 87 = .ok (.bipush 34, 2) := by decide +kernel
theorem dX5_doKnot_89 : decode cX5_doKnot 89 = .ok (.iaload, 1) := by decide +kernel
theorem dX5_doKnot_90 : decode cX5_doKnot 90 = .ok (.iadd, 1) := by decide +kernel
theorem dX5_doKnot_91 : decode cX5_doKnot 91 = .ok (.iaload, 1) := by decide +kernel
theorem dX5_doKnot_92 : decode cX5_doKnot 92 = .ok (.ireturn, 1) := by decide +kernel
set_option maxRecDepth 20000 in
theorem ggX5_knot_X5_remember : GoodIn wsX5_knot wsX5_remember := goodIn_r _ [5, 6, 7, 8, 9, 4, 10, 21, 22, 23, 24, 25, 26, 27, 28, 29, 30, 31, 32] (by decide +kernel) (by decide +kernel)
set_option maxRecDepth 20000 in
theorem gX5_knot_X5_remember : GoodIn wsX5_knot (wsV RX5 83 RX5 yX5_remember wsX5_remember) := goodIn_app (goodIn_of _ (by decide +kernel)) ggX5_knot_X5_remember
set_option maxRecDepth 20000 in
theorem ggX5_knot_X5_doKnot : GoodIn wsX5_knot wsX5_doKnot := goodIn_r _ [14, 6, 21, 22, 23, 24, 25, 26, 27, 28, 29, 30, 31, 32] (by decide +kernel) (by decide +kernel)
set_option maxRecDepth 20000 in
theorem gX5_knot_X5_doKnot : GoodIn wsX5_knot (wsV RX5 104 RX5 yX5_doKnot wsX5_doKnot) := goodIn_app (goodIn_of _ (by decide +kernel)) ggX5_knot_X5_doKnot
set_option maxRecDepth 20000 in
theorem ggX5_knot_X5_acted : GoodIn wsX5_knot wsX5_acted := goodIn_r _ [18, 19, 20, 7, 21, 22, 23, 24, 25, 26, 27, 28, 29, 30, 31, 32] (by decide +kernel) (by decide +kernel)
set_option maxRecDepth 20000 in
theorem gX5_knot_X5_acted : GoodIn wsX5_knot (wsV RX5 90 RX5 yX5_acted wsX5_acted) := goodIn_app (goodIn_of _ (by decide +kernel)) ggX5_knot_X5_acted
theorem dX5_knot_0 : decode cX5_knot 0 = .ok (.aload_n 0, 1) := by decide +kernel
theorem dX5_knot_1 : decode cX5_knot 1 = .ok (.invokevirtual 83, 3) := by decide +kernel
theorem dX5_knot_4 : decode cX5_knot 4 = .ok (.aload_n 0, 1) := by decide +kernel
theorem dX5_knot_5 : decode cX5_knot 5 = .ok (.invokevirtual 104, 3) := by decide +kernel
theorem dX5_knot_8 : decode cX5_knot 8 = .ok (.istore_n 1, 1) := by decide +kernel
theorem dX5_knot_9 : decode cX5_knot 9 = .ok (.iload_n 1, 1) := by decide +kernel
theorem dX5_knot_10 : decode cX5_knot 10 = .ok (.ifCond .ge 7, 3) := by decide +kernel
theorem dX5_knot_13 : decode cX5_knot 13 = .ok (.iload_n 1, 1) := by decide +kernel
theorem dX5_knot_14 : decode cX5_knot 14 = .ok (.goto 8, 3) := by decide +kernel
theorem dX5_knot_17 : decode cX5_knot 17 = .ok (.aload_n 0, 1) := by decide +kernel
theorem dX5_knot_18 : decode cX5_knot 18 = .ok (.iload_n 1, 1) := by decide +kernel
theorem dX5_knot_19 : decode cX5_knot 19 = .ok (.invokevirtual 90, 3) := by decide +kernel
theorem dX5_knot_22 : decode cX5_knot 22 = .ok (.ireturn, 1) := by decide +kernel
