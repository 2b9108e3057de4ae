theorem dX5_doCone_0 : decode cX5_doCone 0 = .ok (.aload_n 0, 1) := by decide +kernel
theorem dX5_doCone_1 : decode cX5_doCone 1 = .ok (.getfield 7, 3) := by decide +kernel
theorem dX5_doCone_4 : decode cX5_doCone 4 = .ok (.bipush 30, 2) := by decide +kernel
theorem dX5_doCone_6 : decode cX5_doCone 6 = .ok (.iaload, 1) := by decide +kernel
theorem dX5_doCone_7 : decode cX5_doCone 7 = .ok (.istore_n 2, 1) := by decide +kernel
theorem dX5_doCone_8 : decode cX5_doCone 8 = .ok (.aload_n 0, 1) := by decide +kernel
theorem dX5_doCone_9 : decode cX5_doCone 9 = .ok (.getfield 7, 3) := by decide +kernel
theorem dX5_doCone_12 : decode cX5_doCone 12 = .ok (.bipush 30, 2) := by decide +kernel
theorem dX5_doCone_14 : decode cX5_doCone 14 = .ok (.iload_n 1, 1) := by decide +kernel
theorem dX5_doCone_15 : decode cX5_doCone 15 = .ok (.iastore, 1) := by decide +kernel
theorem dX5_doCone_16 : decode cX5_doCone 16 = .ok (.aload_n 0, 1) := by decide +kernel
theorem dX5_doCone_17 : decode cX5_doCone 17 = .ok (.getfield 7, 3) := by decide +kernel
theorem dX5_doCone_20 : decode cX5_doCone 20 = .ok (.bipush 33, 2) := by decide +kernel
theorem dX5_doCone_22 : decode cX5_doCone 22 = .ok (.aload_n 0, 1) := by decide +kernel
theorem dX5_doCone_23 : decode cX5_doCone 23 = .ok (.getfield 7, 3) := by decide +kernel
theorem dX5_doCone_26 : decode cX5_doCone 26 = .ok (.bipush 34, 2) := by decide +kernel
theorem dX5_doCone_28 : decode cX5_doCone 28 = .ok (.iaload, 1) := by decide +kernel
theorem dX5_doCone_29 : decode cX5_doCone 29 = .ok (.bipush (-5), 2) := by decide +kernel
theorem dX5_doCone_31 : decode cX5_doCone 31 = .ok (.if_icmp .ne 13, 3) := by decide +kernel
theorem dX5_doCone_34 : decode cX5_doCone 34 = .ok (.aload_n 0, 1) := by decide +kernel
theorem dX5_doCone_35 : decode cX5_doCone 35 = .ok (.getfield 7, 3) := by decide +kernel
theorem dX5_doCone_38 : decode cX5_doCone 38 = .ok (.bipush 33, 2) := by decide +kernel
theorem dX5_doCone_40 : decode cX5_doCone 40 = .ok (.iaload, 1) := by decide +kernel
theorem dX5_doCone_41 : decode cX5_doCone 41 = .ok (.goto 4, 3) := by decide +kernel
theorem dX5_doCone_44 : decode cX5_doCone 44 = .ok (.iconst 1, 1) := by decide +kernel
theorem dX5_doCone_45 : decode cX5_doCone 45 = .ok (.iastore, 1) := by decide +kernel
theorem dX5_doCone_46 : decode cX5_doCone 46 = .ok (.iload_n 2, 1) := by decide +kernel
theorem dX5_doCone_47 : decode cX5_doCone 47 = .ok (.ireturn, 1) := by decide +kernel
set_option maxRecDepth 20000 in
theorem ggX5_cone_X5_in : GoodIn wsX5_cone wsX5_in := goodIn_r _ [5] (by decide +kernel) (by decide +kernel)
set_option maxRecDepth 20000 in
theorem gX5_cone_X5_in : GoodIn wsX5_cone (va_wsS RX5 63 yX5_in wsX5_in) := goodIn_app (goodIn_of _ (by decide +kernel)) ggX5_cone_X5_in
set_option maxRecDepth 20000 in
theorem ggX5_cone_X5_remember : GoodIn wsX5_cone wsX5_remember := goodIn_r _ [9, 10, 11, 12, 13, 4, 14, 25, 26, 27, 28, 29, 30, 31, 32, 33, 34, 35, 36] (by decide +kernel) (by decide +kernel)
set_option maxRecDepth 20000 in
theorem gX5_cone_X5_remember : GoodIn wsX5_cone (wsV RX5 83 RX5 yX5_remember wsX5_remember) := goodIn_app (goodIn_of _ (by decide +kernel)) ggX5_cone_X5_remember
set_option maxRecDepth 20000 in
theorem ggX5_cone_X5_doCone : GoodIn wsX5_cone wsX5_doCone := goodIn_r _ [18, 10, 25, 26, 27, 28, 29, 30, 31, 32, 33, 34, 35, 36] (by decide +kernel) (by decide +kernel)
set_option maxRecDepth 20000 in
theorem gX5_cone_X5_doCone : GoodIn wsX5_cone (wsV RX5 109 RX5 yX5_doCone wsX5_doCone) := goodIn_app (goodIn_of _ (by decide +kernel)) ggX5_cone_X5_doCone
set_option maxRecDepth 20000 in
theorem ggX5_cone_X5_acted : GoodIn wsX5_cone wsX5_acted := goodIn_r _ [22, 23, 24, 11, 25, 26, 27, 28, 29, 30, 31, 32, 33, 34, 35, 36] (by decide +kernel) (by decide +kernel)
set_option maxRecDepth 20000 in
theorem gX5_cone_X5_acted : GoodIn wsX5_cone (wsV RX5 90 RX5 yX5_acted wsX5_acted) := goodIn_app (goodIn_of _ (by decide +kernel)) ggX5_cone_X5_acted
theorem dX5_cone_0 : decode cX5_cone 0 = .ok (.iload_n 1, 1) := by decide +kernel
theorem dX5_cone_1 : decode cX5_cone 1 = .ok (.i2l, 1) := by decide +kernel
theorem dX5_cone_2 : decode cX5_cone 2 = .ok (.lconst 1, 1) := by decide +kernel
theorem dX5_cone_3 : decode cX5_cone 3 = .ok (.ldc2_w 107, 3) := by decide +kernel
theorem dX5_cone_6 : decode cX5_cone 6 = .ok (.invokestatic 63, 3) := by decide +kernel
theorem dX5_cone_9 : decode cX5_cone 9 = .ok (.ifCond .ne 6, 3) := by decide +kernel
theorem dX5_cone_12 : decode cX5_cone 12 = .ok (.bipush (-2), 2) := by decide +kernel
theorem dX5_cone_14 : decode cX5_cone 14 = .ok (.ireturn, 1) := by decide +kernel
theorem dX5_cone_15 : decode cX5_cone 15 = .ok (.aload_n 0, 1) := by decide +kernel
theorem dX5_cone_16 : decode cX5_cone 16 = .ok (.invokevirtual 83, 3) := by decide +kernel
theorem dX5_cone_19 : decode cX5_cone 19 = .ok (.aload_n 0, 1) := by decide +kernel
theorem dX5_cone_20 : decode cX5_cone 20 = .ok (.aload_n 0, 1) := by decide +kernel
theorem dX5_cone_21 : decode cX5_cone 21 = .ok (.iload_n 1, 1) := by decide +kernel
theorem dX5_cone_22 : decode cX5_cone 22 = .ok (.invokevirtual 109, 3) := by decide +kernel
theorem dX5_cone_25 : decode cX5_cone 25 = .ok (.invokevirtual 90, 3) := by decide +kernel
theorem dX5_cone_28 : decode cX5_cone 28 = .ok (.ireturn, 1) := by decide +kernel
set_option maxRecDepth 20000 in
theorem ggX5_doff_X5_wraps : GoodIn wsX5_doff wsX5_wraps := goodIn_r _ [7, 1, 22, 23, 24, 25, 26, 27, 28, 29, 30, 31, 32, 33] (by decide +kernel) (by decide +kernel)
set_option maxRecDepth 20000 in
theorem gX5_doff_X5_wraps : GoodIn wsX5_doff (wsV RX5 112 RX5 yX5_wraps wsX5_wraps) := goodIn_app (goodIn_of _ (by decide +kernel)) ggX5_doff_X5_wraps
set_option maxRecDepth 20000 in
theorem ggX5_doff_X5_remember : GoodIn wsX5_doff wsX5_remember := goodIn_r _ [11, 1, 12, 13, 14, 6, 15, 22, 23, 24, 25, 26, 27, 28, 29, 30, 31, 32, 33] (by decide +kernel) (by decide +kernel)
set_option maxRecDepth 20000 in
theorem gX5_doff_X5_remember : GoodIn wsX5_doff (wsV RX5 83 RX5 yX5_remember wsX5_remember) := goodIn_app (goodIn_of _ (by decide +kernel)) ggX5_doff_X5_remember
set_option maxRecDepth 20000 in
theorem ggX5_doff_X5_acted : GoodIn wsX5_doff wsX5_acted := goodIn_r _ [19, 20, 21, 12, 22, 23, 24, 25, 26, 27, 28, 29, 30, 31, 32, 33] (by decide +kernel) (by decide +kernel)
set_option maxRecDepth 20000 in
theorem gX5_doff_X5_acted : GoodIn wsX5_doff (wsV RX5 90 RX5 yX5_acted wsX5_acted) := goodIn_app (goodIn_of _ (by decide +kernel)) ggX5_doff_X5_acted
theorem dX5_doff_0 : decode cX5_doff 0 = .ok (.aload_n 0, 1) := by decide +kernel
theorem dX5_doff_1 : decode cX5_doff 1 = .ok (.invokevirtual 112, 3) := by decide +kernel
theorem dX5_doff_4 : decode cX5_doff 4 = .ok (.istore_n 1, 1) := by decide +kernel
theorem dX5_doff_5 : decode cX5_doff 5 = .ok (.iload_n 1, 1) := by decide +kernel
theorem dX5_doff_6 : decode cX5_doff 6 = .ok (.ifCond .ne 6, 3) := by decide +kernel
theorem dX5_doff_9 : decode cX5_doff 9 = .ok (.bipush (-5), 2) := by decide +kernel
theorem dX5_doff_11 : decode cX5_doff 11 = .ok (.ireturn, 1) := by decide +kernel
theorem dX5_doff_12 : decode cX5_doff 12 = .ok (.aload_n 0, 1) := by decide +kernel
theorem dX5_doff_13 : decode cX5_doff 13 = .ok (.invokevirtual 83, 3) := by decide +kernel
theorem dX5_doff_16 : decode cX5_doff 16 = .ok (.iconst 0, 1) := by decide +kernel
theorem dX5_doff_17 : decode cX5_doff 17 = .ok (.istore_n 2, 1) := by decide +kernel
theorem dX5_doff_18 : decode cX5_doff 18 = .ok (.iload_n 2, 1) := by decide +kernel
theorem dX5_doff_19 : decode cX5_doff 19 = .ok (.bipush 12, 2) := by decide +kernel
theorem dX5_doff_21 : decode cX5_doff 21 = .ok (.if_icmp .ge 28, 3) := by decide +kernel
theorem dX5_doff_24 : decode cX5_doff 24 = .ok (.aload_n 0, 1) := by decide +kernel
theorem dX5_doff_25 : decode cX5_doff 25 = .ok (.getfield 7, 3) := by decide +kernel
theorem dX5_doff_28 : decode cX5_doff 28 = .ok (.iconst 0, 1) := by decide +kernel
theorem dX5_doff_29 : decode cX5_doff 29 = .ok (.iload_n 2, 1) := by decide +kernel
theorem dX5_doff_30 : decode cX5_doff 30 = .ok (.iadd, 1) := by decide +kernel
theorem dX5_doff_31 : decode cX5_doff 31 = .ok (.iconst 0, 1) := by decide +kernel
theorem dX5_doff_32 : decode cX5_doff 32 = .ok (.iastore, 1) := by decide +kernel
theorem dX5_doff_33 : decode cX5_doff 33 = .ok (.aload_n 0, 1) := by decide +kernel
theorem dX5_doff_34 : decode cX5_doff 34 = .ok (.getfield 7, 3) := by decide +kernel
theorem dX5_doff_37 : decode cX5_doff 37 = .ok (.bipush 12, 2) := by decide +kernel
theorem dX5_doff_39 : decode cX5_doff 39 = .ok (.iload_n 2, 1) := by decide +kernel
theorem dX5_doff_40 : decode cX5_doff 40 = .ok (.iadd, 1) := by decide +kernel
theorem dX5_doff_41 : decode cX5_doff 41 = .ok (.iconst 0, 1) := by decide +kernel
theorem dX5_doff_42 : decode cX5_doff 42 = .ok (.iastore, 1) := by decide +kernel
theorem dX5_doff_43 : decode cX5_doff 43 = .ok (.iinc 2 1, 3) := by decide +kernel
theorem dX5_doff_46 : decode cX5_doff 46 = .ok (.goto (-28), 3) := by decide +kernel
theorem dX5_doff_49 : decode cX5_doff 49 = .ok (.aload_n 0, 1) := by decide +kernel
theorem dX5_doff_50 : decode cX5_doff 50 = .ok (.getfield 7, 3) := by decide +kernel
theorem dX5_doff_53 : decode cX5_doff 53 = .ok (.bipush 29, 2) := by decide +kernel
theorem dX5_doff_55 : decode cX5_doff 55 = .ok (.iconst 0, 1) := by decide +kernel
theorem dX5_doff_56 : decode cX5_doff 56 = .ok (.iastore, 1) := by decide +kernel
theorem dX5_doff_57 : decode cX5_doff 57 = .ok (.aload_n 0, 1) := by decide +kernel
theorem dX5_doff_58 : decode cX5_doff 58 = .ok (.getfield 7, 3) := by decide +kernel
theorem dX5_doff_61 : decode cX5_doff 61 = .ok (.bipush 32, 2) := by decide +kernel
theorem dX5_doff_63 : decode cX5_doff 63 = .ok (.iconst 0, 1) := by decide +kernel
theorem dX5_doff_64 : decode cX5_doff 64 = .ok (.iastore, 1) := by decide +kernel
theorem dX5_doff_65 : decode cX5_doff 65 = .ok (.aload_n 0, 1) := by decide +kernel
theorem dX5_doff_66 : decode cX5_doff 66 = .ok (.getfield 7, 3) := by decide +kernel
theorem dX5_doff_69 : decode cX5_doff 69 = .ok (.bipush 33, 2) := by decide +kernel
theorem dX5_doff_71 : decode cX5_doff 71 = .ok (.iconst 0, 1) := by decide +kernel
theorem dX5_doff_72 : decode cX5_doff 72 = .ok (.iastore, 1) := by decide +kernel
theorem dX5_doff_73 : decode cX5_doff 73 = .ok (.aload_n 0, 1) := by decide +kernel
theorem dX5_doff_74 : decode cX5_doff 74 = .ok (.getfield 7, 3) := by decide +kernel
theorem dX5_doff_77 : decode cX5_doff 77 = .ok (.bipush 34, 2) := by decide +kernel
theorem dX5_doff_79 : decode cX5_doff 79 = .ok (.bipush (-5), 2) := by decide +kernel
theorem dX5_doff_81 : decode cX5_doff 81 = .ok (.iastore, 1) := by decide +kernel
theorem dX5_doff_82 : decode cX5_doff 82 = .ok (.aload_n 0, 1) := by decide +kernel
theorem dX5_doff_83 : decode cX5_doff 83 = .ok (.getfield 7, 3) := by decide +kernel
theorem dX5_doff_86 : decode cX5_doff 86 = .ok (.bipush 36, 2) := by decide +kernel
theorem dX5_doff_88 : decode cX5_doff 88 = .ok (.dup2, 1) := by decide +kernel
theorem dX5_doff_89 : decode cX5_doff 89 = .ok (.iaload, 1) := by decide +kernel
theorem dX5_doff_90 : decode cX5_doff 90 = .ok (.ldc 39, 2) := by decide +kernel
theorem dX5_doff_92 : decode cX5_doff 92 = .ok (.iadd, 1) := by decide +kernel
theorem dX5_doff_93 : decode cX5_doff 93 = .ok (.iastore, 1) := by decide +kernel
theorem dX5_doff_94 : decode cX5_doff 94 = .ok (.aload_n 0, 1) := by decide +kernel
theorem dX5_doff_95 : decode cX5_doff 95 = .ok (.iload_n 1, 1) := by decide +kernel
theorem dX5_doff_96 : decode cX5_doff 96 = .ok (.invokevirtual 90, 3) := by decide +kernel
theorem dX5_doff_99 : decode cX5_doff 99 = .ok (.ireturn, 1) := by decide +kernel
theorem dX5_type_0 : decode cX5_type 0 = .ok (.aload_n 0, 1) := by decide +kernel
theorem dX5_type_1 : decode cX5_type 1 = .ok (.getfield 115, 3) := by decide +kernel
theorem dX5_type_4 : decode cX5_type 4 = .ok (.bipush 60, 2) := by decide +kernel
theorem dX5_type_6 : decode cX5_type 6 = .ok (.if_icmp .ne 6, 3) := by decide +kernel
theorem dX5_type_9 : decode cX5_type 9 = .ok (.bipush (-3), 2) := by decide +kernel
theorem dX5_type_11 : decode cX5_type 11 = .ok (.ireturn, 1) := by decide +kernel
theorem dX5_type_12 : decode cX5_type 12 = .ok (.aload_n 0, 1) := by decide +kernel
theorem dX5_type_13 : decode cX5_type 13 = .ok (.getfield 25, 3) := by decide +kernel
theorem dX5_type_16 : decode cX5_type 16 = .ok (.aload_n 0, 1) := by decide +kernel
theorem dX5_type_17 : decode cX5_type 17 = .ok (.getfield 115, 3) := by decide +kernel
theorem dX5_type_20 : decode cX5_type 20 = .ok (.iload_n 1, 1) := by decide +kernel
theorem dX5_type_21 : decode cX5_type 21 = .ok (.iastore, 1) := by decide +kernel
theorem dX5_type_22 : decode cX5_type 22 = .ok (.aload_n 0, 1) := by decide +kernel
theorem dX5_type_23 : decode cX5_type 23 = .ok (.dup, 1) := by decide +kernel
theorem dX5_type_24 : decode cX5_type 24 = .ok (.getfield 115, 3) := by decide +kernel
theorem dX5_type_27 : decode cX5_type 27 = .ok (.iconst 1, 1) := by decide +kernel
theorem dX5_type_28 : decode cX5_type 28 = .ok (.iadd, 1) := by decide +kernel
theorem dX5_type_29 : decode cX5_type 29 = .ok (.putfield 115, 3) := by decide +kernel
theorem dX5_type_32 : decode cX5_type 32 = .ok (.aload_n 0, 1) := by decide +kernel
theorem dX5_type_33 : decode cX5_type 33 = .ok (.getfield 115, 3) := by decide +kernel
theorem dX5_type_36 : decode cX5_type 36 = .ok (.ireturn, 1) := by decide +kernel
theorem dX5_clearText_0 : decode cX5_clearText 0 = .ok (.aload_n 0, 1) := by decide +kernel
theorem dX5_clearText_1 : decode cX5_clearText 1 = .ok (.getfield 115, 3) := by decide +kernel
theorem dX5_clearText_4 : decode cX5_clearText 4 = .ok (.istore_n 1, 1) := by decide +kernel
theorem dX5_clearText_5 : decode cX5_clearText 5 = .ok (.aload_n 0, 1) := by decide +kernel
theorem dX5_clearText_6 : decode cX5_clearText 6 = .ok (.iconst 0, 1) := by decide +kernel
theorem dX5_clearText_7 : decode cX5_clearText 7 = .ok (.putfield 115, 3) := by decide +kernel
theorem dX5_clearText_10 : decode cX5_clearText 10 = .ok (.iload_n 1, 1) := by decide +kernel
theorem dX5_clearText_11 : decode cX5_clearText 11 = .ok (.ireturn, 1) := by decide +kernel
set_option maxRecDepth 20000 in
theorem ggX5_isHere_X5_in : GoodIn wsX5_isHere wsX5_in := goodIn_r _ [7] (by decide +kernel) (by decide +kernel)
set_option maxRecDepth 20000 in
theorem gX5_isHere_X5_in : GoodIn wsX5_isHere (va_wsS RX5 63 yX5_in wsX5_in) := goodIn_app (goodIn_of _ (by decide +kernel)) ggX5_isHere_X5_in
theorem dX5_isHere_0 : decode cX5_isHere 0 = .ok (.aload_n 0, 1) := by decide +kernel
theorem dX5_isHere_1 : decode cX5_isHere 1 = .ok (.getfield 118, 3) := by decide +kernel
theorem dX5_isHere_4 : decode cX5_isHere 4 = .ok (.aload_n 0, 1) := by decide +kernel
theorem dX5_isHere_5 : decode cX5_isHere 5 = .ok (.getfield 115, 3) := by decide +kernel
theorem dX5_isHere_8 : decode cX5_isHere 8 = .ok (.if_icmp .ge 27, 3) := by decide +kernel
theorem dX5_isHere_11 : decode cX5_isHere 11 = .ok (.aload_n 0, 1) := by decide +kernel
theorem dX5_isHere_12 : decode cX5_isHere 12 = .ok (.getfield 25, 3) := by decide +kernel
theorem dX5_isHere_15 : decode cX5_isHere 15 = .ok (.aload_n 0, 1) := by decide +kernel
theorem dX5_isHere_16 : decode cX5_isHere 16 = .ok (.getfield 118, 3) := by decide +kernel
theorem dX5_isHere_19 : decode cX5_isHere 19 = .ok (.iaload, 1) := by decide +kernel
theorem dX5_isHere_20 : decode cX5_isHere 20 = .ok (.i2l, 1) := by decide +kernel
theorem dX5_isHere_21 : decode cX5_isHere 21 = .ok (.iload_n 1, 1) := by decide +kernel
theorem dX5_isHere_22 : decode cX5_isHere 22 = .ok (.i2l, 1) := by decide +kernel
theorem dX5_isHere_23 : decode cX5_isHere 23 = .ok (.iload_n 2, 1) := by decide +kernel
theorem dX5_isHere_24 : decode cX5_isHere 24 = .ok (.i2l, 1) := by decide +kernel
theorem dX5_isHere_25 : decode cX5_isHere 25 = .ok (.invokestatic 63, 3) := by decide +kernel
theorem dX5_isHere_28 : decode cX5_isHere 28 = .ok (.ifCond .eq 7, 3) := by decide +kernel
theorem dX5_isHere_31 : decode cX5_isHere 31 = .ok (.iconst 1, 1) := by decide +kernel
theorem dX5_isHere_32 : decode cX5_isHere 32 = .ok (.goto 4, 3) := by decide +kernel
theorem dX5_isHere_35 : decode cX5_isHere 35 = .ok (.iconst 0, 1) := by decide +kernel
theorem dX5_isHere_36 : decode cX5_isHere 36 = .ok (.ireturn, 1) := by decide +kernel
set_option maxRecDepth 20000 in
theorem ggX5_takes_X5_isHere : GoodIn wsX5_takes wsX5_isHere := goodIn_r _ [6, 1, 7, 8, 9, 10, 5, 11, 12, 13, 14, 15, 16, 17, 18, 19, 20, 21, 22, 23] (by decide +kernel) (by decide +kernel)
set_option maxRecDepth 20000 in
theorem gX5_takes_X5_isHere : GoodIn wsX5_takes (wsV RX5 121 RX5 yX5_isHere wsX5_isHere) := goodIn_app (goodIn_of _ (by decide +kernel)) ggX5_takes_X5_isHere
theorem dX5_takes_0 : decode cX5_takes 0 = .ok (.aload_n 0, 1) := by decide +kernel
theorem dX5_takes_1 : decode cX5_takes 1 = .ok (.iload_n 1, 1) := by decide +kernel
theorem dX5_takes_2 : decode cX5_takes 2 = .ok (.iload_n 1, 1) := by decide +kernel
theorem dX5_takes_3 : decode cX5_takes 3 = .ok (.invokevirtual 121, 3) := by decide +kernel
theorem dX5_takes_6 : decode cX5_takes 6 = .ok (.istore_n 2, 1) := by decide +kernel
theorem dX5_takes_7 : decode cX5_takes 7 = .ok (.aload_n 0, 1) := by decide +kernel
theorem dX5_takes_8 : decode cX5_takes 8 = .ok (.dup, 1) := by decide +kernel
theorem dX5_takes_9 : decode cX5_takes 9 = .ok (.getfield 118, 3) := by decide +kernel
theorem dX5_takes_12 : decode cX5_takes 12 = .ok (.iload_n 2, 1) := by decide +kernel
theorem dX5_takes_13 : decode cX5_takes 13 = .ok (.ifCond .eq 7, 3) := by decide +kernel
theorem dX5_takes_16 : decode cX5_takes 16 = .ok (.iconst 1, 1) := by decide +kernel
theorem dX5_takes_17 : decode cX5_takes 17 = .ok (.goto 4, 3) := by decide +kernel
theorem dX5_takes_20 : decode cX5_takes 20 = .ok (.iconst 0, 1) := by decide +kernel
theorem dX5_takes_21 : decode cX5_takes 21 = .ok (.iadd, 1) := by decide +kernel
theorem dX5_takes_22 : decode cX5_takes 22 = .ok (.putfield 118, 3) := by decide +kernel
theorem dX5_takes_25 : decode cX5_takes 25 = .ok (.iload_n 2, 1) := by decide +kernel
theorem dX5_takes_26 : decode cX5_takes 26 = .ok (.ireturn, 1) := by decide +kernel
set_option maxRecDepth 20000 in
theorem ggX5_readsNumber_X5_isHere : GoodIn wsX5_readsNumber wsX5_isHere := goodIn_r _ [8, 2, 9, 1, 10, 11, 7, 12, 13, 14, 15, 16, 17, 18, 19, 20, 21, 22, 23, 24] (by decide +kernel) (by decide +kernel)
set_option maxRecDepth 20000 in
theorem gX5_readsNumber_X5_isHere : GoodIn wsX5_readsNumber (wsV RX5 121 RX5 yX5_isHere wsX5_isHere) := goodIn_app (goodIn_of _ (by decide +kernel)) ggX5_readsNumber_X5_isHere
theorem dX5_readsNumber_0 : decode cX5_readsNumber 0 = .ok (.aload_n 0, 1) := by decide +kernel
theorem dX5_readsNumber_1 : decode cX5_readsNumber 1 = .ok (.iload_n 1, 1) := by decide +kernel
theorem dX5_readsNumber_2 : decode cX5_readsNumber 2 = .ok (.ifCond .ne 8, 3) := by decide +kernel
theorem dX5_readsNumber_5 : decode cX5_readsNumber 5 = .ok (.bipush 48, 2) := by decide +kernel
theorem dX5_readsNumber_7 : decode cX5_readsNumber 7 = .ok (.goto 5, 3) := by decide +kernel
theorem dX5_readsNumber_10 : decode cX5_readsNumber 10 = .ok (.bipush 49, 2) := by decide +kernel
theorem dX5_readsNumber_12 : decode cX5_readsNumber 12 = .ok (.bipush 57, 2) := by decide +kernel
theorem dX5_readsNumber_14 : decode cX5_readsNumber 14 = .ok (.invokevirtual 121, 3) := by decide +kernel
theorem dX5_readsNumber_17 : decode cX5_readsNumber 17 = .ok (.ifCond .eq 19, 3) := by decide +kernel
theorem dX5_readsNumber_20 : decode cX5_readsNumber 20 = .ok (.aload_n 0, 1) := by decide +kernel
theorem dX5_readsNumber_21 : decode cX5_readsNumber 21 = .ok (.getfield 25, 3) := by decide +kernel
theorem dX5_readsNumber_24 : decode cX5_readsNumber 24 = .ok (.aload_n 0, 1) := by decide +kernel
theorem dX5_readsNumber_25 : decode cX5_readsNumber 25 = .ok (.getfield 118, 3) := by decide +kernel
theorem dX5_readsNumber_28 : decode cX5_readsNumber 28 = .ok (.iaload, 1) := by decide +kernel
theorem dX5_readsNumber_29 : decode cX5_readsNumber 29 = .ok (.bipush 48, 2) := by decide +kernel
theorem dX5_readsNumber_31 : decode cX5_readsNumber 31 = .ok (.isub, 1) := by decide +kernel
theorem dX5_readsNumber_32 : decode cX5_readsNumber 32 = .ok (.iload_n 2, 1) := by decide +kernel
theorem dX5_readsNumber_33 : decode cX5_readsNumber 33 = .ok (.if_icmp .le 5, 3) := by decide +kernel
theorem dX5_readsNumber_36 : decode cX5_readsNumber 36 = .ok (.iconst 0, 1) := by decide +kernel
theorem dX5_readsNumber_37 : decode cX5_readsNumber 37 = .ok (.ireturn, 1) := by decide +kernel
theorem dX5_readsNumber_38 : decode cX5_readsNumber 38 = .ok (.aload_n 0, 1) := by decide +kernel
theorem dX5_readsNumber_39 : decode cX5_readsNumber 39 = .ok (.aload_n 0, 1) := by decide +kernel
theorem dX5_readsNumber_40 : decode cX5_readsNumber 40 = .ok (.getfield 25, 3) := by decide +kernel
theorem dX5_readsNumber_43 : decode cX5_readsNumber 43 = .ok (.aload_n 0, 1) := by decide +kernel
theorem dX5_readsNumber_44 : decode cX5_readsNumber 44 = .ok (.getfield 118, 3) := by decide +kernel
theorem dX5_readsNumber_47 : decode cX5_readsNumber 47 = .ok (.iaload, 1) := by decide +kernel
theorem dX5_readsNumber_48 : decode cX5_readsNumber 48 = .ok (.bipush 48, 2) := by decide +kernel
theorem dX5_readsNumber_50 : decode cX5_readsNumber 50 = .ok (.isub, 1) := by decide +kernel
theorem dX5_readsNumber_51 : decode cX5_readsNumber 51 = .ok (.putfield 124, 3) := by decide +kernel
theorem dX5_readsNumber_54 : decode cX5_readsNumber 54 = .ok (.aload_n 0, 1) := by decide +kernel
theorem dX5_readsNumber_55 : decode cX5_readsNumber 55 = .ok (.dup, 1) := by decide +kernel
theorem dX5_readsNumber_56 : decode cX5_readsNumber 56 = .ok (.getfield 118, 3) := by decide +kernel
theorem dX5_readsNumber_59 : decode cX5_readsNumber 59 = .ok (.iconst 1, 1) := by decide +kernel
theorem dX5_readsNumber_60 : decode cX5_readsNumber 60 = .ok (.iadd, 1) := by decide +kernel
theorem dX5_readsNumber_61 : decode cX5_readsNumber 61 = .ok (.putfield 118, 3) := by decide +kernel
theorem dX5_readsNumber_64 : decode cX5_readsNumber 64 = .ok (.aload_n 0, 1) := by decide +kernel
theorem dX5_readsNumber_65 : decode cX5_readsNumber 65 = .ok (.getfield 124, 3) := by decide +kernel
theorem dX5_readsNumber_68 : decode cX5_readsNumber 68 = .ok (.ifCond .le 75, 3) := by decide +kernel
theorem dX5_readsNumber_71 : decode cX5_readsNumber 71 = .ok (.aload_n 0, 1) := by decide +kernel
theorem dX5_readsNumber_72 : decode cX5_readsNumber 72 = .ok (.bipush 48, 2) := by decide +kernel
theorem dX5_readsNumber_74 : decode cX5_readsNumber 74 = .ok (.bipush 57, 2) := by decide +kernel
theorem dX5_readsNumber_76 : decode cX5_readsNumber 76 = .ok (.invokevirtual 121, 3) := by decide +kernel
theorem dX5_readsNumber_79 : decode cX5_readsNumber 79 = .ok (.ifCond .eq 64, 3) := by decide +kernel
theorem dX5_readsNumber_82 : decode cX5_readsNumber 82 = .ok (.bipush 10, 2) := by decide +kernel
theorem dX5_readsNumber_84 : decode cX5_readsNumber 84 = .ok (.aload_n 0, 1) := by decide +kernel
theorem dX5_readsNumber_85 : decode cX5_readsNumber 85 = .ok (.getfield 124, 3) := by decide +kernel
theorem dX5_readsNumber_88 : decode cX5_readsNumber 88 = .ok (.imul, 1) := by decide +kernel
theorem dX5_readsNumber_89 : decode cX5_readsNumber 89 = .ok (.aload_n 0, 1) := by decide +kernel
theorem dX5_readsNumber_90 : decode cX5_readsNumber 90 = .ok (.getfield 25, 3) := by decide +kernel
theorem dX5_readsNumber_93 : decode cX5_readsNumber 93 = .ok (.aload_n 0, 1) := by decide +kernel
theorem dX5_readsNumber_94 : decode cX5_readsNumber 94 = .ok (.getfield 118, 3) := by decide +kernel
theorem dX5_readsNumber_97 : decode cX5_readsNumber 97 = .ok (.iaload, 1) := by decide +kernel
theorem dX5_readsNumber_98 : decode cX5_readsNumber 98 = .ok (.iadd, 1) := by decide +kernel
theorem dX5_readsNumber_99 : decode cX5_readsNumber 99 = .ok (.bipush 48, 2) := by decide +kernel
theorem dX5_readsNumber_101 : decode cX5_readsNumber 101 = .ok (.isub, 1) := by decide +kernel
theorem dX5_readsNumber_102 : decode cX5_readsNumber 102 = .ok (.iload_n 2, 1) := by decide +kernel
theorem dX5_readsNumber_103 : decode cX5_readsNumber 103 = .ok (.if_icmp .gt 40, 3) := by decide +kernel
theorem dX5_readsNumber_106 : decode cX5_readsNumber 106 = .ok (.aload_n 0, 1) := by decide +kernel
theorem dX5_readsNumber_107 : decode cX5_readsNumber 107 = .ok (.bipush 10, 2) := by decide +kernel
theorem dX5_readsNumber_109 : decode cX5_readsNumber 109 = .ok (.aload_n 0, 1) := by decide +kernel
theorem dX5_readsNumber_110 : decode cX5_readsNumber 110 = .ok (.getfield 124, 3) := by decide +kernel
theorem dX5_readsNumber_113 : decode cX5_readsNumber 113 = .ok (.imul, 1) := by decide +kernel
theorem dX5_readsNumber_114 : decode cX5_readsNumber 114 = .ok (.aload_n 0, 1) := by decide +kernel
theorem dX5_readsNumber_115 : decode cX5_readsNumber 115 = .ok (.getfield 25, 3) := by decide +kernel
theorem dX5_readsNumber_118 : decode cX5_readsNumber 118 = .ok (.aload_n 0, 1) := by decide +kernel
theorem dX5_readsNumber_119 : decode cX5_readsNumber 119 = .ok (.getfield 118, 3) := by decide +kernel
theorem dX5_readsNumber_122 : decode cX5_readsNumber 122 = .ok (.iaload, 1) := by decide +kernel
theorem dX5_readsNumber_123 : decode cX5_readsNumber 123 = .ok (.iadd, 1) := by decide +kernel
theorem dX5_readsNumber_124 : decode cX5_readsNumber 124 = .ok (.bipush 48, 2) := by decide +kernel
theorem dX5_readsNumber_126 : decode cX5_readsNumber 126 = .ok (.isub, 1) := by decide +kernel
theorem dX5_readsNumber_127 : decode cX5_readsNumber 127 = .ok (.putfield 124, 3) := by decide +kernel
theorem dX5_readsNumber_130 : decode cX5_readsNumber 130 = .ok (.aload_n 0, 1) := by decide +kernel
theorem dX5_readsNumber_131 : decode cX5_readsNumber 131 = .ok (.dup, 1) := by decide +kernel
theorem dX5_readsNumber_132 : decode cX5_readsNumber 132 = .ok (.getfield 118, 3) := by decide +kernel
theorem dX5_readsNumber_135 : decode cX5_readsNumber 135 = .ok (.iconst 1, 1) := by decide +kernel
theorem dX5_readsNumber_136 : decode cX5_readsNumber 136 = .ok (.iadd, 1) := by decide +kernel
theorem dX5_readsNumber_137 : decode cX5_readsNumber 137 = .ok (.putfield 118, 3) := by decide +kernel
theorem dX5_readsNumber_140 : decode cX5_readsNumber 140 = .ok (.goto (-76), 3) := by decide +kernel
theorem dX5_readsNumber_143 : decode cX5_readsNumber 143 = .ok (.aload_n 0, 1) := by decide +kernel
theorem dX5_readsNumber_144 : decode cX5_readsNumber 144 = .ok (.getfield 124, 3) := by decide +kernel
theorem dX5_readsNumber_147 : decode cX5_readsNumber 147 = .ok (.iload_n 1, 1) := by decide +kernel
theorem dX5_readsNumber_148 : decode cX5_readsNumber 148 = .ok (.if_icmp .lt 7, 3) := by decide +kernel
theorem dX5_readsNumber_151 : decode cX5_readsNumber 151 = .ok (.iconst 1, 1) := by decide +kernel
theorem dX5_readsNumber_152 : decode cX5_readsNumber 152 = .ok (.goto 4, 3) := by decide +kernel
theorem dX5_readsNumber_155 : decode cX5_readsNumber 155 = .ok (.iconst 0, 1) := by decide +kernel
theorem dX5_readsNumber_156 : decode cX5_readsNumber 156 = .ok (.ireturn, 1) := by decide +kernel
theorem dX5_whichOf_0 : decode cX5_whichOf 0 = .ok (.iload_n 0, 1) := by decide +kernel
theorem dX5_whichOf_1 : decode cX5_whichOf 1 = .ok (.bipush 116, 2) := by decide +kernel
theorem dX5_whichOf_3 : decode cX5_whichOf 3 = .ok (.if_icmp .ne 7, 3) := by decide +kernel
theorem dX5_whichOf_6 : decode cX5_whichOf 6 = .ok (.iconst 0, 1) := by decide +kernel
theorem dX5_whichOf_7 : decode cX5_whichOf 7 = .ok (.goto 45, 3) := by decide +kernel
theorem dX5_whichOf_10 : decode cX5_whichOf 10 = .ok (.iload_n 0, 1) := by decide +kernel
theorem dX5_whichOf_11 : decode cX5_whichOf 11 = .ok (.bipush 100, 2) := by decide +kernel
theorem dX5_whichOf_13 : decode cX5_whichOf 13 = .ok (.if_icmp .ne 7, 3) := by decide +kernel
theorem dX5_whichOf_16 : decode cX5_whichOf 16 = .ok (.iconst 1, 1) := by decide +kernel
theorem dX5_whichOf_17 : decode cX5_whichOf 17 = .ok (.goto 35, 3) := by decide +kernel
theorem dX5_whichOf_20 : decode cX5_whichOf 20 = .ok (.iload_n 0, 1) := by decide +kernel
theorem dX5_whichOf_21 : decode cX5_whichOf 21 = .ok (.bipush 119, 2) := by decide +kernel
theorem dX5_whichOf_23 : decode cX5_whichOf 23 = .ok (.if_icmp .ne 7, 3) := by decide +kernel
theorem dX5_whichOf_26 : decode cX5_whichOf 26 = .ok (.iconst 2, 1) := by decide +kernel
theorem dX5_whichOf_27 : decode cX5_whichOf 27 = .ok (.goto 25, 3) := by decide +kernel
theorem dX5_whichOf_30 : decode cX5_whichOf 30 = .ok (.iload_n 0, 1) := by decide +kernel
theorem dX5_whichOf_31 : decode cX5_whichOf 31 = .ok (.bipush 107, 2) := by decide +kernel
theorem dX5_whichOf_33 : decode cX5_whichOf 33 = .ok (.if_icmp .ne 7, 3) := by decide +kernel
theorem dX5_whichOf_36 : decode cX5_whichOf 36 = .ok (.iconst 3, 1) := by decide +kernel
theorem dX5_whichOf_37 : decode cX5_whichOf 37 = .ok (.goto 15, 3) := by decide +kernel
theorem dX5_whichOf_40 : decode cX5_whichOf 40 = .ok (.iload_n 0, 1) := by decide +kernel
theorem dX5_whichOf_41 : decode cX5_whichOf 41 = .ok (.bipush 115, 2) := by decide +kernel
theorem dX5_whichOf_43 : decode cX5_whichOf 43 = .ok (.if_icmp .ne 7, 3) := by decide +kernel
theorem dX5_whichOf_46 : decode cX5_whichOf 46 = .ok (.iconst 4, 1) := by decide +kernel
theorem dX5_whichOf_47 : decode cX5_whichOf 47 = .ok (.goto 5, 3) := by decide +kernel
theorem dX5_whichOf_50 : decode cX5_whichOf 50 = .ok (.bipush (-5), 2) := by decide +kernel
theorem dX5_whichOf_52 : decode cX5_whichOf 52 = .ok (.ireturn, 1) := by decide +kernel
set_option maxRecDepth 20000 in
theorem ggX5_command_X5_takes : GoodIn wsX5_command wsX5_takes := goodIn_r _ [9, 2, 10, 11, 12, 8, 13, 3, 4, 14, 15, 16, 72, 73, 74, 75, 76, 77, 78, 79, 80, 81, 82, 83] (by decide +kernel) (by decide +kernel)
set_option maxRecDepth 20000 in
theorem gX5_command_X5_takes : GoodIn wsX5_command (wsV RX5 127 RX5 yX5_takes wsX5_takes) := goodIn_app (goodIn_of _ (by decide +kernel)) ggX5_command_X5_takes
set_option maxRecDepth 20000 in
theorem ggX5_command_X5_doKnot : GoodIn wsX5_command wsX5_doKnot := goodIn_r _ [20, 21, 72, 73, 74, 75, 76, 77, 78, 79, 80, 81, 82, 83] (by decide +kernel) (by decide +kernel)
set_option maxRecDepth 20000 in
theorem gX5_command_X5_doKnot : GoodIn wsX5_command (wsV RX5 104 RX5 yX5_doKnot wsX5_doKnot) := goodIn_app (goodIn_of _ (by decide +kernel)) ggX5_command_X5_doKnot
set_option maxRecDepth 20000 in
theorem ggX5_command_X5_readsNumber : GoodIn wsX5_command wsX5_readsNumber := goodIn_r _ [25, 4, 2, 1, 10, 11, 12, 8, 13, 3, 14, 15, 16, 72, 73, 74, 75, 76, 77, 78, 79, 80, 81, 82, 83] (by decide +kernel) (by decide +kernel)
set_option maxRecDepth 20000 in
theorem gX5_command_X5_readsNumber : GoodIn wsX5_command (wsV RX5 131 RX5 yX5_readsNumber wsX5_readsNumber) := goodIn_app (goodIn_of _ (by decide +kernel)) ggX5_command_X5_readsNumber
set_option maxRecDepth 20000 in
theorem ggX5_command_X5_doWind : GoodIn wsX5_command wsX5_doWind := goodIn_r _ [29, 30, 31, 32, 8, 33, 21, 34, 35, 36, 37, 38, 39, 40, 41, 42, 43, 44, 45, 46, 47, 48, 49, 50, 51, 52, 53, 54, 55, 56, 57, 58, 59, 60, 72, 73, 74, 75, 76, 77, 78, 79, 80, 81, 82, 83] (by decide +kernel) (by decide +kernel)
set_option maxRecDepth 20000 in
theorem gX5_command_X5_doWind : GoodIn wsX5_command (wsV RX5 101 RX5 yX5_doWind wsX5_doWind) := goodIn_app (goodIn_of _ (by decide +kernel)) ggX5_command_X5_doWind
set_option maxRecDepth 20000 in
theorem ggX5_command_X5_doCone : GoodIn wsX5_command wsX5_doCone := goodIn_r _ [64, 21, 72, 73, 74, 75, 76, 77, 78, 79, 80, 81, 82, 83] (by decide +kernel) (by decide +kernel)
set_option maxRecDepth 20000 in
theorem gX5_command_X5_doCone : GoodIn wsX5_command (wsV RX5 109 RX5 yX5_doCone wsX5_doCone) := goodIn_app (goodIn_of _ (by decide +kernel)) ggX5_command_X5_doCone
set_option maxRecDepth 20000 in
theorem ggX5_command_X5_whichOf : GoodIn wsX5_command wsX5_whichOf := goodIn_r _ [67] (by decide +kernel) (by decide +kernel)
set_option maxRecDepth 20000 in
theorem gX5_command_X5_whichOf : GoodIn wsX5_command (va_wsS RX5 134 yX5_whichOf wsX5_whichOf) := goodIn_app (goodIn_of _ (by decide +kernel)) ggX5_command_X5_whichOf
set_option maxRecDepth 20000 in
theorem ggX5_command_X5_doSet : GoodIn wsX5_command wsX5_doSet := goodIn_r _ [71, 21, 72, 73, 74, 75, 76, 77, 78, 79, 80, 81, 82, 83] (by decide +kernel) (by decide +kernel)
set_option maxRecDepth 20000 in
theorem gX5_command_X5_doSet : GoodIn wsX5_command (wsV RX5 86 RX5 yX5_doSet wsX5_doSet) := goodIn_app (goodIn_of _ (by decide +kernel)) ggX5_command_X5_doSet
theorem dX5_command_0 : decode cX5_command 0 = .ok (.aload_n 0, 1) := by decide +kernel
theorem dX5_command_1 : decode cX5_command 1 = .ok (.bipush 110, 2) := by decide +kernel
theorem dX5_command_3 : decode cX5_command 3 = .ok (.invokevirtual 127, 3) := by decide +kernel
theorem dX5_command_6 : decode cX5_command 6 = .ok (.ifCond .eq 16, 3) := by decide +kernel
theorem dX5_command_9 : decode cX5_command 9 = .ok (.iload_n 1, 1) := by decide +kernel
theorem dX5_command_10 : decode cX5_command 10 = .ok (.ifCond .eq 10, 3) := by decide +kernel
theorem dX5_command_13 : decode cX5_command 13 = .ok (.aload_n 0, 1) := by decide +kernel
theorem dX5_command_14 : decode cX5_command 14 = .ok (.invokevirtual 104, 3) := by decide +kernel
theorem dX5_command_17 : decode cX5_command 17 = .ok (.goto 4, 3) := by decide +kernel
theorem dX5_command_20 : decode cX5_command 20 = .ok (.iconst 0, 1) := by decide +kernel
theorem dX5_command_21 : decode cX5_command 21 = .ok (.ireturn, 1) := by decide +kernel
theorem dX5_command_22 : decode cX5_command 22 = .ok (.aload_n 0, 1) := by decide +kernel
theorem dX5_command_23 : decode cX5_command 23 = .ok (.bipush 103, 2) := by decide +kernel
theorem dX5_command_25 : decode cX5_command 25 = .ok (.invokevirtual 127, 3) := by decide +kernel
theorem dX5_command_28 : decode cX5_command 28 = .ok (.ifCond .eq 36, 3) := by decide +kernel
theorem dX5_command_31 : decode cX5_command 31 = .ok (.aload_n 0, 1) := by decide +kernel
theorem dX5_command_32 : decode cX5_command 32 = .ok (.iconst 1, 1) := by decide +kernel
theorem dX5_command_33 : decode cX5_command 33 = .ok (.sipush 500, 3) := by decide +kernel
theorem dX5_command_36 : decode cX5_command 36 = .ok (.invokevirtual 131, 3) := by decide +kernel
theorem dX5_command_39 : decode cX5_command 39 = .ok (.ifCond .ne 8, 3) := by decide +kernel
theorem dX5_command_42 : decode cX5_command 42 = .ok (.bipush (-2), 2) := by decide +kernel
theorem dX5_command_44 : decode cX5_command 44 = .ok (.goto 19, 3) := by decide +kernel
theorem dX5_command_47 : decode cX5_command 47 = .ok (.iload_n 1, 1) := by decide +kernel
theorem dX5_command_48 : decode cX5_command 48 = .ok (.ifCond .eq 14, 3) := by decide +kernel
theorem dX5_command_51 : decode cX5_command 51 = .ok (.aload_n 0, 1) := by decide +kernel
theorem dX5_command_52 : decode cX5_command 52 = .ok (.aload_n 0, 1) := by decide +kernel
theorem dX5_command_53 : decode cX5_command 53 = .ok (.getfield 124, 3) := by decide +kernel
theorem dX5_command_56 : decode cX5_command 56 = .ok (.invokevirtual 101, 3) := by decide +kernel
theorem dX5_command_59 : decode cX5_command 59 = .ok (.goto 4, 3) := by decide +kernel
theorem dX5_command_62 : decode cX5_command 62 = .ok (.iconst 0, 1) := by decide +kernel
theorem dX5_command_63 : decode cX5_command 63 = .ok (.ireturn, 1) := by decide +kernel
theorem dX5_command_64 : decode cX5_command 64 = .ok (.aload_n 0, 1) := by decide +kernel
theorem dX5_command_65 : decode cX5_command 65 = .ok (.bipush 99, 2) := by decide +kernel
theorem dX5_command_67 : decode cX5_command 67 = .ok (.invokevirtual 127, 3) := by decide +kernel
theorem dX5_command_70 : decode cX5_command 70 = .ok (.ifCond .eq 36, 3) := by decide +kernel
theorem dX5_command_73 : decode cX5_command 73 = .ok (.aload_n 0, 1) := by decide +kernel
theorem dX5_command_74 : decode cX5_command 74 = .ok (.iconst 1, 1) := by decide +kernel
theorem dX5_command_75 : decode cX5_command 75 = .ok (.sipush 9999, 3) := by decide +kernel
theorem dX5_command_78 : decode cX5_command 78 = .ok (.invokevirtual 131, 3) := by decide +kernel
theorem dX5_command_81 : decode cX5_command 81 = .ok (.ifCond .ne 8, 3) := by decide +kernel
theorem dX5_command_84 : decode cX5_command 84 = .ok (.bipush (-2), 2) := by decide +kernel
theorem dX5_command_86 : decode cX5_command 86 = .ok (.goto 19, 3) := by decide +kernel
theorem dX5_command_89 : decode cX5_command 89 = .ok (.iload_n 1, 1) := by decide +kernel
theorem dX5_command_90 : decode cX5_command 90 = .ok (.ifCond .eq 14, 3) := by decide +kernel
theorem dX5_command_93 : decode cX5_command 93 = .ok (.aload_n 0, 1) := by decide +kernel
theorem dX5_command_94 : decode cX5_command 94 = .ok (.aload_n 0, 1) := by decide +kernel
theorem dX5_command_95 : decode cX5_command 95 = .ok (.getfield 124, 3) := by decide +kernel
theorem dX5_command_98 : decode cX5_command 98 = .ok (.invokevirtual 109, 3) := by decide +kernel
theorem dX5_command_101 : decode cX5_command 101 = .ok (.goto 4, 3) := by decide +kernel
theorem dX5_command_104 : decode cX5_command 104 = .ok (.iconst 0, 1) := by decide +kernel
theorem dX5_command_105 : decode cX5_command 105 = .ok (.ireturn, 1) := by decide +kernel
theorem dX5_command_106 : decode cX5_command 106 = .ok (.aload_n 0, 1) := by decide +kernel
theorem dX5_command_107 : decode cX5_command 107 = .ok (.getfield 118, 3) := by decide +kernel
theorem dX5_command_110 : decode cX5_command 110 = .ok (.aload_n 0, 1) := by decide +kernel
theorem dX5_command_111 : decode cX5_command 111 = .ok (.getfield 115, 3) := by decide +kernel
theorem dX5_command_114 : decode cX5_command 114 = .ok (.if_icmp .ge 18, 3) := by decide +kernel
theorem dX5_command_117 : decode cX5_command 117 = .ok (.aload_n 0, 1) := by decide +kernel
theorem dX5_command_118 : decode cX5_command 118 = .ok (.getfield 25, 3) := by decide +kernel
theorem dX5_command_121 : decode cX5_command 121 = .ok (.aload_n 0, 1) := by decide +kernel
theorem dX5_command_122 : decode cX5_command 122 = .ok (.getfield 118, 3) := by decide +kernel
theorem dX5_command_125 : decode cX5_command 125 = .ok (.iaload, 1) := by decide +kernel
theorem dX5_command_126 : decode cX5_command 126 = .ok (.invokestatic 134, 3) := by decide +kernel
theorem dX5_command_129 : decode cX5_command 129 = .ok (.goto 5, 3) := by decide +kernel
theorem dX5_command_132 : decode cX5_command 132 = .ok (.bipush (-5), 2) := by decide +kernel
theorem dX5_command_134 : decode cX5_command 134 = .ok (.istore_n 2, 1) := by decide +kernel
theorem dX5_command_135 : decode cX5_command 135 = .ok (.iload_n 2, 1) := by decide +kernel
theorem dX5_command_136 : decode cX5_command 136 = .ok (.bipush (-5), 2) := by decide +kernel
theorem dX5_command_138 : decode cX5_command 138 = .ok (.if_icmp .ne 6, 3) := by decide +kernel
theorem dX5_command_141 : decode cX5_command 141 = .ok (.bipush (-2), 2) := by decide +kernel
theorem dX5_command_143 : decode cX5_command 143 = .ok (.ireturn, 1) := by decide +kernel
theorem dX5_command_144 : decode cX5_command 144 = .ok (.aload_n 0, 1) := by decide +kernel
theorem dX5_command_145 : decode cX5_command 145 = .ok (.dup, 1) := by decide +kernel
theorem dX5_command_146 : decode cX5_command 146 = .ok (.getfield 118, 3) := by decide +kernel
theorem dX5_command_149 : decode cX5_command 149 = .ok (.iconst 1, 1) := by decide +kernel
theorem dX5_command_150 : decode cX5_command 150 = .ok (.iadd, 1) := by decide +kernel
theorem dX5_command_151 : decode cX5_command 151 = .ok (.putfield 118, 3) := by decide +kernel
theorem dX5_command_154 : decode cX5_command 154 = .ok (.iload_n 2, 1) := by decide +kernel
theorem dX5_command_155 : decode cX5_command 155 = .ok (.ifCond .ne 7, 3) := by decide +kernel
theorem dX5_command_158 : decode cX5_command 158 = .ok (.iconst 1, 1) := by decide +kernel
theorem dX5_command_159 : decode cX5_command 159 = .ok (.goto 23, 3) := by decide +kernel
theorem dX5_command_162 : decode cX5_command 162 = .ok (.iload_n 2, 1) := by decide +kernel
theorem dX5_command_163 : decode cX5_command 163 = .ok (.iconst 3, 1) := by decide +kernel
theorem dX5_command_164 : decode cX5_command 164 = .ok (.if_icmp .ge 7, 3) := by decide +kernel
theorem dX5_command_167 : decode cX5_command 167 = .ok (.iconst 0, 1) := by decide +kernel
theorem dX5_command_168 : decode cX5_command 168 = .ok (.goto 14, 3) := by decide +kernel
theorem dX5_command_171 : decode cX5_command 171 = .ok (.iload_n 2, 1) := by decide +kernel
theorem dX5_command_172 : decode cX5_command 172 = .ok (.iconst 3, 1) := by decide +kernel
theorem dX5_command_173 : decode cX5_command 173 = .ok (.if_icmp .ne 7, 3) := by decide +kernel
theorem dX5_command_176 : decode cX5_command 176 = .ok (.iconst 5, 1) := by decide +kernel
theorem dX5_command_177 : decode cX5_command 177 = .ok (.goto 5, 3) := by decide +kernel
theorem dX5_command_180 : decode cX5_command 180 = .ok (.bipush 10, 2) := by decide +kernel
theorem dX5_command_182 : decode cX5_command 182 = .ok (.istore_n 3, 1) := by decide +kernel
theorem dX5_command_183 : decode cX5_command 183 = .ok (.iload_n 2, 1) := by decide +kernel
theorem dX5_command_184 : decode cX5_command 184 = .ok (.ifCond .ne 8, 3) := by decide +kernel
theorem dX5_command_187 : decode cX5_command 187 = .ok (.bipush 11, 2) := by decide +kernel
theorem dX5_command_189 : decode cX5_command 189 = .ok (.goto 34, 3) := by decide +kernel
theorem dX5_command_192 : decode cX5_command 192 = .ok (.iload_n 2, 1) := by decide +kernel
theorem dX5_command_193 : decode cX5_command 193 = .ok (.iconst 1, 1) := by decide +kernel
theorem dX5_command_194 : decode cX5_command 194 = .ok (.if_icmp .ne 8, 3) := by decide +kernel
theorem dX5_command_197 : decode cX5_command 197 = .ok (.bipush 9, 2) := by decide +kernel
theorem dX5_command_199 : decode cX5_command 199 = .ok (.goto 24, 3) := by decide +kernel
theorem dX5_command_202 : decode cX5_command 202 = .ok (.iload_n 2, 1) := by decide +kernel
theorem dX5_command_203 : decode cX5_command 203 = .ok (.iconst 2, 1) := by decide +kernel
theorem dX5_command_204 : decode cX5_command 204 = .ok (.if_icmp .ne 7, 3) := by decide +kernel
theorem dX5_command_207 : decode cX5_command 207 = .ok (.iconst 5, 1) := by decide +kernel
theorem dX5_command_208 : decode cX5_command 208 = .ok (.goto 15, 3) := by decide +kernel
theorem dX5_command_211 : decode cX5_command 211 = .ok (.iload_n 2, 1) := by decide +kernel
theorem dX5_command_212 : decode cX5_command 212 = .ok (.iconst 3, 1) := by decide +kernel
theorem dX5_command_213 : decode cX5_command 213 = .ok (.if_icmp .ne 8, 3) := by decide +kernel
theorem dX5_command_216 : decode cX5_command 216 = .ok (.bipush 50, 2) := by decide +kernel
theorem dX5_command_218 : decode cX5_command 218 = .ok (.goto 5, 3) := by decide +kernel
theorem dX5_command_221 : decode cX5_command 221 = .ok (.bipush 99, 2) := by decide +kernel
theorem dX5_command_223 : decode cX5_command 223 = .ok (.istore 4, 2) := by decide +kernel
theorem dX5_command_225 : decode cX5_command 225 = .ok (.aload_n 0, 1) := by decide +kernel
theorem dX5_command_226 : decode cX5_command 226 = .ok (.iload_n 3, 1) := by decide +kernel
theorem dX5_command_227 : decode cX5_command 227 = .ok (.iload 4, 2) := by decide +kernel
theorem dX5_command_229 : decode cX5_command 229 = .ok (.invokevirtual 131, 3) := by decide +kernel
theorem dX5_command_232 : decode cX5_command 232 = .ok (.ifCond .ne 8, 3) := by decide +kernel
theorem dX5_command_235 : decode cX5_command 235 = .ok (.bipush (-2), 2) := by decide +kernel
theorem dX5_command_237 : decode cX5_command 237 = .ok (.goto 20, 3) := by decide +kernel
theorem dX5_command_240 : decode cX5_command 240 = .ok (.iload_n 1, 1) := by decide +kernel
theorem dX5_command_241 : decode cX5_command 241 = .ok (.ifCond .eq 15, 3) := by decide +kernel
theorem dX5_command_244 : decode cX5_command 244 = .ok (.aload_n 0, 1) := by decide +kernel
theorem dX5_command_245 : decode cX5_command 245 = .ok (.iload_n 2, 1) := by decide +kernel
theorem dX5_command_246 : decode cX5_command 246 = .ok (.aload_n 0, 1) := by decide +kernel
theorem dX5_command_247 : decode cX5_command 247 = .ok (.getfield 124, 3) := by decide +kernel
theorem dX5_command_250 : decode cX5_command 250 = .ok (.invokevirtual 86, 3) := by decide +kernel
theorem dX5_command_253 : decode cX5_command 253 = .ok (.goto 4, 3) := by decide +kernel
theorem dX5_command_256 : decode cX5_command 256 = .ok (.iconst 0, 1) := by decide +kernel
theorem dX5_command_257 : decode cX5_command 257 = .ok (.ireturn, 1) := by decide +kernel
set_option maxRecDepth 20000 in
theorem ggX5_fault_X5_command : GoodIn wsX5_fault wsX5_command := goodIn_r _ [7, 8, 1, 2, 9, 10, 11, 12, 6, 13, 14, 15, 16, 17, 18, 19, 20, 21, 22, 23, 24, 25, 26, 27, 28, 29, 30, 31, 32, 33, 34, 35, 36, 37, 38, 39, 40, 41, 42, 43, 44, 45, 46, 47, 48, 49, 50, 51, 52, 53, 54, 55, 56, 57, 58, 59, 60, 61, 62, 63, 64, 65, 66, 67, 68, 69, 70, 71, 72, 73, 74, 75, 76, 77, 78, 79, 80, 81, 82, 83, 84, 85, 86, 87] (by decide +kernel) (by decide +kernel)
set_option maxRecDepth 20000 in
theorem gX5_fault_X5_command : GoodIn wsX5_fault (wsV RX5 137 RX5 yX5_command wsX5_command) := goodIn_app (goodIn_of _ (by decide +kernel)) ggX5_fault_X5_command
set_option maxRecDepth 20000 in
theorem ggX5_fault_X5_takes : GoodIn wsX5_fault wsX5_takes := goodIn_r _ [13, 1, 14, 15, 16, 6, 17, 2, 9, 18, 19, 20, 76, 77, 78, 79, 80, 81, 82, 83, 84, 85, 86, 87] (by decide +kernel) (by decide +kernel)
set_option maxRecDepth 20000 in
theorem gX5_fault_X5_takes : GoodIn wsX5_fault (wsV RX5 127 RX5 yX5_takes wsX5_takes) := goodIn_app (goodIn_of _ (by decide +kernel)) ggX5_fault_X5_takes
theorem dX5_fault_0 : decode cX5_fault 0 = .ok (.aload_n 0, 1) := by decide +kernel
theorem dX5_fault_1 : decode cX5_fault 1 = .ok (.iconst 0, 1) := by decide +kernel
theorem dX5_fault_2 : decode cX5_fault 2 = .ok (.putfield 118, 3) := by decide +kernel
theorem dX5_fault_5 : decode cX5_fault 5 = .ok (.iconst 1, 1) := by decide +kernel
theorem dX5_fault_6 : decode cX5_fault 6 = .ok (.istore_n 1, 1) := by decide +kernel
theorem dX5_fault_7 : decode cX5_fault 7 = .ok (.iload_n 1, 1) := by decide +kernel
theorem dX5_fault_8 : decode cX5_fault 8 = .ok (.ifCond .eq 28, 3) := by decide +kernel
theorem dX5_fault_11 : decode cX5_fault 11 = .ok (.aload_n 0, 1) := by decide +kernel
theorem dX5_fault_12 : decode cX5_fault 12 = .ok (.iconst 0, 1) := by decide +kernel
theorem dX5_fault_13 : decode cX5_fault 13 = .ok (.invokevirtual 137, 3) := by decide +kernel
theorem dX5_fault_16 : decode cX5_fault 16 = .ok (.bipush (-2), 2) := by decide +kernel
theorem dX5_fault_18 : decode cX5_fault 18 = .ok (.if_icmp .ne 8, 3) := by decide +kernel
theorem dX5_fault_21 : decode cX5_fault 21 = .ok (.aload_n 0, 1) := by decide +kernel
theorem dX5_fault_22 : decode cX5_fault 22 = .ok (.getfield 118, 3) := by decide +kernel
theorem dX5_fault_25 : decode cX5_fault 25 = .ok (.ireturn, 1) := by decide +kernel
theorem dX5_fault_26 : decode cX5_fault 26 = .ok (.aload_n 0, 1) := by decide +kernel
theorem dX5_fault_27 : decode cX5_fault 27 = .ok (.bipush 44, 2) := by decide +kernel
theorem dX5_fault_29 : decode cX5_fault 29 = .ok (.invokevirtual 127, 3) := by decide +kernel
theorem dX5_fault_32 : decode cX5_fault 32 = .ok (.istore_n 1, 1) := by decide +kernel
theorem dX5_fault_33 : decode cX5_fault 33 = .ok (.goto (-26), 3) := by decide +kernel
theorem dX5_fault_36 : decode cX5_fault 36 = .ok (.aload_n 0, 1) := by decide +kernel
theorem dX5_fault_37 : decode cX5_fault 37 = .ok (.getfield 118, 3) := by decide +kernel
theorem dX5_fault_40 : decode cX5_fault 40 = .ok (.aload_n 0, 1) := by decide +kernel
theorem dX5_fault_41 : decode cX5_fault 41 = .ok (.getfield 115, 3) := by decide +kernel
theorem dX5_fault_44 : decode cX5_fault 44 = .ok (.if_icmp .ne 8, 3) := by decide +kernel
theorem dX5_fault_47 : decode cX5_fault 47 = .ok (.bipush (-5), 2) := by decide +kernel
theorem dX5_fault_49 : decode cX5_fault 49 = .ok (.goto 7, 3) := by decide +kernel
theorem dX5_fault_52 : decode cX5_fault 52 = .ok (.aload_n 0, 1) := by decide +kernel
theorem dX5_fault_53 : decode cX5_fault 53 = .ok (.getfield 118, 3) := by decide +kernel
theorem dX5_fault_56 : decode cX5_fault 56 = .ok (.ireturn, 1) := by decide +kernel
set_option maxRecDepth 20000 in
theorem ggX5_perform_X5_fault : GoodIn wsX5_perform wsX5_fault := goodIn_r _ [9, 1, 10, 11, 12, 13, 8, 14, 15, 16, 17, 18, 19, 20, 21, 22, 23, 24, 25, 26, 27, 28, 29, 30, 31, 3, 32, 33, 34, 35, 36, 37, 38, 39, 40, 41, 42, 43, 44, 45, 46, 47, 48, 49, 50, 51, 52, 53, 54, 55, 56, 57, 58, 59, 60, 61, 62, 63, 64, 65, 66, 67, 68, 69, 70, 71, 72, 73, 74, 75, 76, 77, 78, 79, 80, 81, 95, 96, 97, 98, 99, 100, 101, 102, 103, 104, 105, 106] (by decide +kernel) (by decide +kernel)
set_option maxRecDepth 20000 in
theorem gX5_perform_X5_fault : GoodIn wsX5_perform (wsV RX5 141 RX5 yX5_fault wsX5_fault) := goodIn_app (goodIn_of _ (by decide +kernel)) ggX5_perform_X5_fault
set_option maxRecDepth 20000 in
theorem ggX5_perform_X5_remember : GoodIn wsX5_perform wsX5_remember := goodIn_r _ [85, 3, 2, 86, 87, 8, 88, 95, 96, 97, 98, 99, 100, 101, 102, 103, 104, 105, 106] (by decide +kernel) (by decide +kernel)
set_option maxRecDepth 20000 in
theorem gX5_perform_X5_remember : GoodIn wsX5_perform (wsV RX5 83 RX5 yX5_remember wsX5_remember) := goodIn_app (goodIn_of _ (by decide +kernel)) ggX5_perform_X5_remember
set_option maxRecDepth 20000 in
theorem ggX5_perform_X5_command : GoodIn wsX5_perform wsX5_command := goodIn_r _ [14, 15, 1, 10, 16, 17, 18, 19, 8, 20, 21, 22, 23, 24, 25, 26, 27, 28, 29, 30, 31, 3, 32, 33, 34, 35, 36, 37, 38, 39, 40, 41, 42, 43, 44, 45, 46, 47, 48, 49, 50, 51, 52, 53, 54, 55, 56, 57, 58, 59, 60, 61, 62, 63, 64, 65, 66, 67, 68, 69, 70, 71, 72, 73, 74, 75, 76, 77, 78, 79, 80, 81, 95, 96, 97, 98, 99, 100, 101, 102, 103, 104, 105, 106] (by decide +kernel) (by decide +kernel)
set_option maxRecDepth 20000 in
theorem gX5_perform_X5_command : GoodIn wsX5_perform (wsV RX5 137 RX5 yX5_command wsX5_command) := goodIn_app (goodIn_of _ (by decide +kernel)) ggX5_perform_X5_command
set_option maxRecDepth 20000 in
theorem ggX5_perform_X5_copy : GoodIn wsX5_perform wsX5_copy := goodIn_r _ [88] (by decide +kernel) (by decide +kernel)
set_option maxRecDepth 20000 in
theorem gX5_perform_X5_copy : GoodIn wsX5_perform (va_wsS RX5 32 yX5_copy wsX5_copy) := goodIn_app (goodIn_of _ (by decide +kernel)) ggX5_perform_X5_copy
set_option maxRecDepth 20000 in
theorem ggX5_perform_X5_takes : GoodIn wsX5_perform wsX5_takes := goodIn_r _ [20, 1, 21, 22, 23, 8, 24, 10, 16, 25, 26, 27, 95, 96, 97, 98, 99, 100, 101, 102, 103, 104, 105, 106] (by decide +kernel) (by decide +kernel)
set_option maxRecDepth 20000 in
theorem gX5_perform_X5_takes : GoodIn wsX5_perform (wsV RX5 127 RX5 yX5_takes wsX5_takes) := goodIn_app (goodIn_of _ (by decide +kernel)) ggX5_perform_X5_takes
set_option maxRecDepth 20000 in
theorem ggX5_perform_X5_acted : GoodIn wsX5_perform wsX5_acted := goodIn_r _ [92, 93, 94, 2, 95, 96, 97, 98, 99, 100, 101, 102, 103, 104, 105, 106] (by decide +kernel) (by decide +kernel)
set_option maxRecDepth 20000 in
theorem gX5_perform_X5_acted : GoodIn wsX5_perform (wsV RX5 90 RX5 yX5_acted wsX5_acted) := goodIn_app (goodIn_of _ (by decide +kernel)) ggX5_perform_X5_acted
theorem dX5_perform_0 : decode cX5_perform 0 = .ok (.aload_n 0, 1) := by decide +kernel
theorem dX5_perform_1 : decode cX5_perform 1 = .ok (.invokevirtual 141, 3) := by decide +kernel
theorem dX5_perform_4 : decode cX5_perform 4 = .ok (.istore_n 1, 1) := by decide +kernel
theorem dX5_perform_5 : decode cX5_perform 5 = .ok (.iload_n 1, 1) := by decide +kernel
theorem dX5_perform_6 : decode cX5_perform 6 = .ok (.bipush (-5), 2) := by decide +kernel
theorem dX5_perform_8 : decode cX5_perform 8 = .ok (.if_icmp .eq 8, 3) := by decide +kernel
theorem dX5_perform_11 : decode cX5_perform 11 = .ok (.bipush (-100), 2) := by decide +kernel
theorem dX5_perform_13 : decode cX5_perform 13 = .ok (.iload_n 1, 1) := by decide +kernel
theorem dX5_perform_14 : decode cX5_perform 14 = .ok (.isub, 1) := by decide +kernel
theorem dX5_perform_15 : decode cX5_perform 15 = .ok (.ireturn, 1) := by decide +kernel
theorem dX5_perform_16 : decode cX5_perform 16 = .ok (.aload_n 0, 1) := by decide +kernel
theorem dX5_perform_17 : decode cX5_perform 17 = .ok (.invokevirtual 83, 3) := by decide +kernel
theorem dX5_perform_20 : decode cX5_perform 20 = .ok (.aload_n 0, 1) := by decide +kernel
theorem dX5_perform_21 : decode cX5_perform 21 = .ok (.iconst 0, 1) := by decide +kernel
theorem dX5_perform_22 : decode cX5_perform 22 = .ok (.putfield 118, 3) := by decide +kernel
theorem dX5_perform_25 : decode cX5_perform 25 = .ok (.iconst 0, 1) := by decide +kernel
theorem dX5_perform_26 : decode cX5_perform 26 = .ok (.istore_n 2, 1) := by decide +kernel
theorem dX5_perform_27 : decode cX5_perform 27 = .ok (.iconst 1, 1) := by decide +kernel
theorem dX5_perform_28 : decode cX5_perform 28 = .ok (.istore_n 3, 1) := by decide +kernel
theorem dX5_perform_29 : decode cX5_perform 29 = .ok (.iload_n 3, 1) := by decide +kernel
theorem dX5_perform_30 : decode cX5_perform 30 = .ok (.ifCond .eq 45, 3) := by decide +kernel
theorem dX5_perform_33 : decode cX5_perform 33 = .ok (.aload_n 0, 1) := by decide +kernel
theorem dX5_perform_34 : decode cX5_perform 34 = .ok (.iconst 1, 1) := by decide +kernel
theorem dX5_perform_35 : decode cX5_perform 35 = .ok (.invokevirtual 137, 3) := by decide +kernel
theorem dX5_perform_38 : decode cX5_perform 38 = .ok (.bipush (-4), 2) := by decide +kernel
theorem dX5_perform_40 : decode cX5_perform 40 = .ok (.if_icmp .ne 22, 3) := by decide +kernel
theorem dX5_perform_43 : decode cX5_perform 43 = .ok (.aload_n 0, 1) := by decide +kernel
theorem dX5_perform_44 : decode cX5_perform 44 = .ok (.getfield 13, 3) := by decide +kernel
theorem dX5_perform_47 : decode cX5_perform 47 = .ok (.aload_n 0, 1) := by decide +kernel
theorem dX5_perform_48 : decode cX5_perform 48 = .ok (.getfield 7, 3) := by decide +kernel
theorem dX5_perform_51 : decode cX5_perform 51 = .ok (.invokestatic 32, 3) := by decide +kernel
theorem dX5_perform_54 : decode cX5_perform 54 = .ok (.aload_n 0, 1) := by decide +kernel
theorem dX5_perform_55 : decode cX5_perform 55 = .ok (.iload_n 2, 1) := by decide +kernel
theorem dX5_perform_56 : decode cX5_perform 56 = .ok (.putfield 28, 3) := by decide +kernel
theorem dX5_perform_59 : decode cX5_perform 59 = .ok (.bipush (-4), 2) := by decide +kernel
theorem dX5_perform_61 : decode cX5_perform 61 = .ok (.ireturn, 1) := by decide +kernel
theorem dX5_perform_62 : decode cX5_perform 62 = .ok (.iinc 2 1, 3) := by decide +kernel
theorem dX5_perform_65 : decode cX5_perform 65 = .ok (.aload_n 0, 1) := by decide +kernel
theorem dX5_perform_66 : decode cX5_perform 66 = .ok (.bipush 44, 2) := by decide +kernel
theorem dX5_perform_68 : decode cX5_perform 68 = .ok (.invokevirtual 127, 3) := by decide +kernel
theorem dX5_perform_71 : decode cX5_perform 71 = .ok (.istore_n 3, 1) := by decide +kernel
theorem dX5_perform_72 : decode cX5_perform 72 = .ok (.goto (-43), 3) := by decide +kernel
theorem dX5_perform_75 : decode cX5_perform 75 = .ok (.aload_n 0, 1) := by decide +kernel
theorem dX5_perform_76 : decode cX5_perform 76 = .ok (.iload_n 2, 1) := by decide +kernel
theorem dX5_perform_77 : decode cX5_perform 77 = .ok (.invokevirtual 90, 3) := by decide +kernel
theorem dX5_perform_80 : decode cX5_perform 80 = .ok (.ireturn, 1) := by decide +kernel
theorem dX5_stopped_0 : decode cX5_stopped 0 = .ok (.aload_n 0, 1) := by decide +kernel
theorem dX5_stopped_1 : decode cX5_stopped 1 = .ok (.getfield 28, 3) := by decide +kernel
theorem dX5_stopped_4 : decode cX5_stopped 4 = .ok (.ireturn, 1) := by decide +kernel
theorem dX5_undo_0 : decode cX5_undo 0 = .ok (.aload_n 0, 1) := by decide +kernel
theorem dX5_undo_1 : decode cX5_undo 1 = .ok (.getfield 36, 3) := by decide +kernel
theorem dX5_undo_4 : decode cX5_undo 4 = .ok (.ifCond .ne 6, 3) := by decide +kernel
theorem dX5_undo_7 : decode cX5_undo 7 = .ok (.bipush (-5), 2) := by decide +kernel
theorem dX5_undo_9 : decode cX5_undo 9 = .ok (.ireturn, 1) := by decide +kernel
theorem dX5_undo_10 : decode cX5_undo 10 = .ok (.aload_n 0, 1) := by decide +kernel
theorem dX5_undo_11 : decode cX5_undo 11 = .ok (.dup, 1) := by decide +kernel
theorem dX5_undo_12 : decode cX5_undo 12 = .ok (.getfield 36, 3) := by decide +kernel
theorem dX5_undo_15 : decode cX5_undo 15 = .ok (.iconst 1, 1) := by decide +kernel
theorem dX5_undo_16 : decode cX5_undo 16 = .ok (.isub, 1) := by decide +kernel
theorem dX5_undo_17 : decode cX5_undo 17 = .ok (.putfield 36, 3) := by decide +kernel
theorem dX5_undo_20 : decode cX5_undo 20 = .ok (.iconst 0, 1) := by decide +kernel
theorem dX5_undo_21 : decode cX5_undo 21 = .ok (.istore_n 1, 1) := by decide +kernel
theorem dX5_undo_22 : decode cX5_undo 22 = .ok (.iload_n 1, 1) := by decide +kernel
theorem dX5_undo_23 : decode cX5_undo 23 = .ok (.bipush 37, 2) := by decide +kernel
theorem dX5_undo_25 : decode cX5_undo 25 = .ok (.if_icmp .ge 29, 3) := by decide +kernel
theorem dX5_undo_28 : decode cX5_undo 28 = .ok (.aload_n 0, 1) := by decide +kernel
theorem dX5_undo_29 : decode cX5_undo 29 = .ok (.getfield 7, 3) := by decide +kernel
theorem dX5_undo_32 : decode cX5_undo 32 = .ok (.iload_n 1, 1) := by decide +kernel
theorem dX5_undo_33 : decode cX5_undo 33 = .ok (.aload_n 0, 1) := by decide +kernel
theorem dX5_undo_34 : decode cX5_undo 34 = .ok (.getfield 19, 3) := by decide +kernel
theorem dX5_undo_37 : decode cX5_undo 37 = .ok (.bipush 37, 2) := by decide +kernel
theorem dX5_undo_39 : decode cX5_undo 39 = .ok (.aload_n 0, 1) := by decide +kernel
theorem dX5_undo_40 : decode cX5_undo 40 = .ok (.getfield 36, 3) := by decide +kernel
theorem dX5_undo_43 : decode cX5_undo 43 = .ok (.imul, 1) := by decide +kernel
theorem dX5_undo_44 : decode cX5_undo 44 = .ok (.iload_n 1, 1) := by decide +kernel
theorem dX5_undo_45 : decode cX5_undo 45 = .ok (.iadd, 1) := by decide +kernel
theorem dX5_undo_46 : decode cX5_undo 46 = .ok (.iaload, 1) := by decide +kernel
theorem dX5_undo_47 : decode cX5_undo 47 = .ok (.iastore, 1) := by decide +kernel
theorem dX5_undo_48 : decode cX5_undo 48 = .ok (.iinc 1 1, 3) := by decide +kernel
theorem dX5_undo_51 : decode cX5_undo 51 = .ok (.goto (-29), 3) := by decide +kernel
theorem dX5_undo_54 : decode cX5_undo 54 = .ok (.aload_n 0, 1) := by decide +kernel
theorem dX5_undo_55 : decode cX5_undo 55 = .ok (.getfield 36, 3) := by decide +kernel
theorem dX5_undo_58 : decode cX5_undo 58 = .ok (.ireturn, 1) := by decide +kernel
set_option maxRecDepth 20000 in
theorem ggX5_keep_X5_copy : GoodIn wsX5_keep wsX5_copy := goodIn_r _ [7] (by decide +kernel) (by decide +kernel)
set_option maxRecDepth 20000 in
theorem gX5_keep_X5_copy : GoodIn wsX5_keep (va_wsS RX5 32 yX5_copy wsX5_copy) := goodIn_app (goodIn_of _ (by decide +kernel)) ggX5_keep_X5_copy
set_option maxRecDepth 20000 in
theorem ggX5_keep_X5_wraps : GoodIn wsX5_keep wsX5_wraps := goodIn_r _ [11, 1, 12, 13, 14, 15, 16, 17, 18, 19, 20, 21, 22, 23] (by decide +kernel) (by decide +kernel)
set_option maxRecDepth 20000 in
theorem gX5_keep_X5_wraps : GoodIn wsX5_keep (wsV RX5 112 RX5 yX5_wraps wsX5_wraps) := goodIn_app (goodIn_of _ (by decide +kernel)) ggX5_keep_X5_wraps
theorem dX5_keep_0 : decode cX5_keep 0 = .ok (.aload_n 0, 1) := by decide +kernel
theorem dX5_keep_1 : decode cX5_keep 1 = .ok (.getfield 7, 3) := by decide +kernel
theorem dX5_keep_4 : decode cX5_keep 4 = .ok (.aload_n 0, 1) := by decide +kernel
theorem dX5_keep_5 : decode cX5_keep 5 = .ok (.getfield 22, 3) := by decide +kernel
theorem dX5_keep_8 : decode cX5_keep 8 = .ok (.invokestatic 32, 3) := by decide +kernel
theorem dX5_keep_11 : decode cX5_keep 11 = .ok (.aload_n 0, 1) := by decide +kernel
theorem dX5_keep_12 : decode cX5_keep 12 = .ok (.iconst 1, 1) := by decide +kernel
theorem dX5_keep_13 : decode cX5_keep 13 = .ok (.putfield 144, 3) := by decide +kernel
theorem dX5_keep_16 : decode cX5_keep 16 = .ok (.aload_n 0, 1) := by decide +kernel
theorem dX5_keep_17 : decode cX5_keep 17 = .ok (.invokevirtual 112, 3) := by decide +kernel
theorem dX5_keep_20 : decode cX5_keep 20 = .ok (.ireturn, 1) := by decide +kernel
set_option maxRecDepth 20000 in
theorem ggX5_restore_X5_remember : GoodIn wsX5_restore wsX5_remember := goodIn_r _ [8, 3, 9, 10, 11, 7, 12, 23, 24, 25, 26, 27, 28, 29, 30, 31, 32, 33, 34] (by decide +kernel) (by decide +kernel)
set_option maxRecDepth 20000 in
theorem gX5_restore_X5_remember : GoodIn wsX5_restore (wsV RX5 83 RX5 yX5_remember wsX5_remember) := goodIn_app (goodIn_of _ (by decide +kernel)) ggX5_restore_X5_remember
set_option maxRecDepth 20000 in
theorem ggX5_restore_X5_copy : GoodIn wsX5_restore wsX5_copy := goodIn_r _ [12] (by decide +kernel) (by decide +kernel)
set_option maxRecDepth 20000 in
theorem gX5_restore_X5_copy : GoodIn wsX5_restore (va_wsS RX5 32 yX5_copy wsX5_copy) := goodIn_app (goodIn_of _ (by decide +kernel)) ggX5_restore_X5_copy
set_option maxRecDepth 20000 in
theorem ggX5_restore_X5_wraps : GoodIn wsX5_restore wsX5_wraps := goodIn_r _ [16, 3, 23, 24, 25, 26, 27, 28, 29, 30, 31, 32, 33, 34] (by decide +kernel) (by decide +kernel)
set_option maxRecDepth 20000 in
theorem gX5_restore_X5_wraps : GoodIn wsX5_restore (wsV RX5 112 RX5 yX5_wraps wsX5_wraps) := goodIn_app (goodIn_of _ (by decide +kernel)) ggX5_restore_X5_wraps
set_option maxRecDepth 20000 in
theorem ggX5_restore_X5_acted : GoodIn wsX5_restore wsX5_acted := goodIn_r _ [20, 21, 22, 9, 23, 24, 25, 26, 27, 28, 29, 30, 31, 32, 33, 34] (by decide +kernel) (by decide +kernel)
set_option maxRecDepth 20000 in
theorem gX5_restore_X5_acted : GoodIn wsX5_restore (wsV RX5 90 RX5 yX5_acted wsX5_acted) := goodIn_app (goodIn_of _ (by decide +kernel)) ggX5_restore_X5_acted
theorem dX5_restore_0 : decode cX5_restore 0 = .ok (.aload_n 0, 1) := by decide +kernel
theorem dX5_restore_1 : decode cX5_restore 1 = .ok (.getfield 144, 3) := by decide +kernel
theorem dX5_restore_4 : decode cX5_restore 4 = .ok (.ifCond .ne 6, 3) := by decide +kernel
theorem dX5_restore_7 : decode cX5_restore 7 = .ok (.bipush (-5), 2) := by decide +kernel
theorem dX5_restore_9 : decode cX5_restore 9 = .ok (.ireturn, 1) := by decide +kernel
theorem dX5_restore_10 : decode cX5_restore 10 = .ok (.aload_n 0, 1) := by decide +kernel
theorem dX5_restore_11 : decode cX5_restore 11 = .ok (.invokevirtual 83, 3) := by decide +kernel
theorem dX5_restore_14 : decode cX5_restore 14 = .ok (.aload_n 0, 1) := by decide +kernel
theorem dX5_restore_15 : decode cX5_restore 15 = .ok (.getfield 22, 3) := by decide +kernel
theorem dX5_restore_18 : decode cX5_restore 18 = .ok (.aload_n 0, 1) := by decide +kernel
theorem dX5_restore_19 : decode cX5_restore 19 = .ok (.getfield 7, 3) := by decide +kernel
theorem dX5_restore_22 : decode cX5_restore 22 = .ok (.invokestatic 32, 3) := by decide +kernel
theorem dX5_restore_25 : decode cX5_restore 25 = .ok (.aload_n 0, 1) := by decide +kernel
theorem dX5_restore_26 : decode cX5_restore 26 = .ok (.aload_n 0, 1) := by decide +kernel
theorem dX5_restore_27 : decode cX5_restore 27 = .ok (.invokevirtual 112, 3) := by decide +kernel
theorem dX5_restore_30 : decode cX5_restore 30 = .ok (.invokevirtual 90, 3) := by decide +kernel
theorem dX5_restore_33 : decode cX5_restore 33 = .ok (.ireturn, 1) := by decide +kernel
set_option maxRecDepth 20000 in
theorem ggX5_isAbove_X5_in : GoodIn wsX5_isAbove wsX5_in := goodIn_r _ [6] (by decide +kernel) (by decide +kernel)
set_option maxRecDepth 20000 in
theorem gX5_isAbove_X5_in : GoodIn wsX5_isAbove (va_wsS RX5 63 yX5_in wsX5_in) := goodIn_app (goodIn_of _ (by decide +kernel)) ggX5_isAbove_X5_in
theorem dX5_isAbove_0 : decode cX5_isAbove 0 = .ok (.iload_n 2, 1) := by decide +kernel
theorem dX5_isAbove_1 : decode cX5_isAbove 1 = .ok (.i2l, 1) := by decide +kernel
theorem dX5_isAbove_2 : decode cX5_isAbove 2 = .ok (.lconst 0, 1) := by decide +kernel
theorem dX5_isAbove_3 : decode cX5_isAbove 3 = .ok (.ldc2_w 61, 3) := by decide +kernel
theorem dX5_isAbove_6 : decode cX5_isAbove 6 = .ok (.invokestatic 63, 3) := by decide +kernel
theorem dX5_isAbove_9 : decode cX5_isAbove 9 = .ok (.ifCond .eq 25, 3) := by decide +kernel
theorem dX5_isAbove_12 : decode cX5_isAbove 12 = .ok (.aload_n 0, 1) := by decide +kernel
theorem dX5_isAbove_13 : decode cX5_isAbove 13 = .ok (.getfield 7, 3) := by decide +kernel
theorem dX5_isAbove_16 : decode cX5_isAbove 16 = .ok (.iconst 0, 1) := by decide +kernel
theorem dX5_isAbove_17 : decode cX5_isAbove 17 = .ok (.iload_n 1, 1) := by decide +kernel
theorem dX5_isAbove_18 : decode cX5_isAbove 18 = .ok (.iadd, 1) := by decide +kernel
theorem dX5_isAbove_19 : decode cX5_isAbove 19 = .ok (.iaload, 1) := by decide +kernel
theorem dX5_isAbove_20 : decode cX5_isAbove 20 = .ok (.aload_n 0, 1) := by decide +kernel
theorem dX5_isAbove_21 : decode cX5_isAbove 21 = .ok (.getfield 7, 3) := by decide +kernel
theorem dX5_isAbove_24 : decode cX5_isAbove 24 = .ok (.iconst 0, 1) := by decide +kernel
theorem dX5_isAbove_25 : decode cX5_isAbove 25 = .ok (.iload_n 2, 1) := by decide +kernel
theorem dX5_isAbove_26 : decode cX5_isAbove 26 = .ok (.iadd, 1) := by decide +kernel
theorem dX5_isAbove_27 : decode cX5_isAbove 27 = .ok (.iaload, 1) := by decide +kernel
theorem dX5_isAbove_28 : decode cX5_isAbove 28 = .ok (.isub, 1) := by decide +kernel
theorem dX5_isAbove_29 : decode cX5_isAbove 29 = .ok (.bipush 6, 2) := by decide +kernel
theorem dX5_isAbove_31 : decode cX5_isAbove 31 = .ok (.if_icmp .lt 7, 3) := by decide +kernel
theorem dX5_isAbove_34 : decode cX5_isAbove 34 = .ok (.iconst 1, 1) := by decide +kernel
theorem dX5_isAbove_35 : decode cX5_isAbove 35 = .ok (.goto 4, 3) := by decide +kernel
theorem dX5_isAbove_38 : decode cX5_isAbove 38 = .ok (.iconst 0, 1) := by decide +kernel
theorem dX5_isAbove_39 : decode cX5_isAbove 39 = .ok (.ireturn, 1) := by decide +kernel
set_option maxRecDepth 20000 in
theorem ggX5_isRibbon_X5_isAbove : GoodIn wsX5_isRibbon wsX5_isAbove := goodIn_r _ [5, 6, 7, 8, 9, 4, 10, 11, 12, 13, 14, 15, 16, 17, 18, 19, 20, 21, 22] (by decide +kernel) (by decide +kernel)
set_option maxRecDepth 20000 in
theorem gX5_isRibbon_X5_isAbove : GoodIn wsX5_isRibbon (wsV RX5 147 RX5 yX5_isAbove wsX5_isAbove) := goodIn_app (goodIn_of _ (by decide +kernel)) ggX5_isRibbon_X5_isAbove
theorem dX5_isRibbon_0 : decode cX5_isRibbon 0 = .ok (.aload_n 0, 1) := by decide +kernel
theorem dX5_isRibbon_1 : decode cX5_isRibbon 1 = .ok (.iload_n 1, 1) := by decide +kernel
theorem dX5_isRibbon_2 : decode cX5_isRibbon 2 = .ok (.iload_n 1, 1) := by decide +kernel
theorem dX5_isRibbon_3 : decode cX5_isRibbon 3 = .ok (.iconst 1, 1) := by decide +kernel
theorem dX5_isRibbon_4 : decode cX5_isRibbon 4 = .ok (.isub, 1) := by decide +kernel
theorem dX5_isRibbon_5 : decode cX5_isRibbon 5 = .ok (.invokevirtual 147, 3) := by decide +kernel
theorem dX5_isRibbon_8 : decode cX5_isRibbon 8 = .ok (.ifCond .eq 18, 3) := by decide +kernel
theorem dX5_isRibbon_11 : decode cX5_isRibbon 11 = .ok (.aload_n 0, 1) := by decide +kernel
theorem dX5_isRibbon_12 : decode cX5_isRibbon 12 = .ok (.iload_n 1, 1) := by decide +kernel
theorem dX5_isRibbon_13 : decode cX5_isRibbon 13 = .ok (.iload_n 1, 1) := by decide +kernel
theorem dX5_isRibbon_14 : decode cX5_isRibbon 14 = .ok (.iconst 1, 1) := by decide +kernel
theorem dX5_isRibbon_15 : decode cX5_isRibbon 15 = .ok (.iadd, 1) := by decide +kernel
theorem dX5_isRibbon_16 : decode cX5_isRibbon 16 = .ok (.invokevirtual 147, 3) := by decide +kernel
theorem dX5_isRibbon_19 : decode cX5_isRibbon 19 = .ok (.ifCond .eq 7, 3) := by decide +kernel
theorem dX5_isRibbon_22 : decode cX5_isRibbon 22 = .ok (.iconst 1, 1) := by decide +kernel
theorem dX5_isRibbon_23 : decode cX5_isRibbon 23 = .ok (.goto 4, 3) := by decide +kernel
theorem dX5_isRibbon_26 : decode cX5_isRibbon 26 = .ok (.iconst 0, 1) := by decide +kernel
theorem dX5_isRibbon_27 : decode cX5_isRibbon 27 = .ok (.ireturn, 1) := by decide +kernel
theorem dX5_isBad_0 : decode cX5_isBad 0 = .ok (.aload_n 0, 1) := by decide +kernel
theorem dX5_isBad_1 : decode cX5_isBad 1 = .ok (.getfield 7, 3) := by decide +kernel
theorem dX5_isBad_4 : decode cX5_isBad 4 = .ok (.bipush 12, 2) := by decide +kernel
theorem dX5_isBad_6 : decode cX5_isBad 6 = .ok (.iload_n 1, 1) := by decide +kernel
theorem dX5_isBad_7 : decode cX5_isBad 7 = .ok (.iadd, 1) := by decide +kernel
theorem dX5_isBad_8 : decode cX5_isBad 8 = .ok (.iaload, 1) := by decide +kernel
theorem dX5_isBad_9 : decode cX5_isBad 9 = .ok (.iconst 2, 1) := by decide +kernel
theorem dX5_isBad_10 : decode cX5_isBad 10 = .ok (.if_icmp .le 7, 3) := by decide +kernel
theorem dX5_isBad_13 : decode cX5_isBad 13 = .ok (.iconst 1, 1) := by decide +kernel
theorem dX5_isBad_14 : decode cX5_isBad 14 = .ok (.goto 4, 3) := by decide +kernel
theorem dX5_isBad_17 : decode cX5_isBad 17 = .ok (.iconst 0, 1) := by decide +kernel
theorem dX5_isBad_18 : decode cX5_isBad 18 = .ok (.ireturn, 1) := by decide +kernel
set_option maxRecDepth 20000 in
theorem ggX5_place__X5_in : GoodIn wsX5_place_ wsX5_in := goodIn_r _ [6] (by decide +kernel) (by decide +kernel)
set_option maxRecDepth 20000 in
theorem gX5_place__X5_in : GoodIn wsX5_place_ (va_wsS RX5 63 yX5_in wsX5_in) := goodIn_app (goodIn_of _ (by decide +kernel)) ggX5_place__X5_in
set_option maxRecDepth 20000 in
theorem ggX5_place__X5_isRibbon : GoodIn wsX5_place_ wsX5_isRibbon := goodIn_r _ [10, 11, 12, 13, 5, 14, 1, 2, 3, 4, 6, 19, 20, 21, 22, 23, 24, 25, 26, 27, 28, 29, 30] (by decide +kernel) (by decide +kernel)
set_option maxRecDepth 20000 in
theorem gX5_place__X5_isRibbon : GoodIn wsX5_place_ (wsV RX5 150 RX5 yX5_isRibbon wsX5_isRibbon) := goodIn_app (goodIn_of _ (by decide +kernel)) ggX5_place__X5_isRibbon
set_option maxRecDepth 20000 in
theorem ggX5_place__X5_isBad : GoodIn wsX5_place_ wsX5_isBad := goodIn_r _ [18, 2, 19, 20, 21, 22, 23, 24, 25, 26, 27, 28, 29, 30] (by decide +kernel) (by decide +kernel)
set_option maxRecDepth 20000 in
theorem gX5_place__X5_isBad : GoodIn wsX5_place_ (wsV RX5 153 RX5 yX5_isBad wsX5_isBad) := goodIn_app (goodIn_of _ (by decide +kernel)) ggX5_place__X5_isBad
theorem dX5_place__0 : decode cX5_place_ 0 = .ok (.iload_n 1, 1) := by decide +kernel
theorem dX5_place__1 : decode cX5_place_ 1 = .ok (.i2l, 1) := by decide +kernel
theorem dX5_place__2 : decode cX5_place_ 2 = .ok (.lconst 0, 1) := by decide +kernel
theorem dX5_place__3 : decode cX5_place_ 3 = .ok (.ldc2_w 61, 3) := by decide +kernel
theorem dX5_place__6 : decode cX5_place_ 6 = .ok (.invokestatic 63, 3) := by decide +kernel
theorem dX5_place__9 : decode cX5_place_ 9 = .ok (.ifCond .ne 5, 3) := by decide +kernel
theorem dX5_place__12 : decode cX5_place_ 12 = .ok (.iconst (-1), 1) := by decide +kernel
theorem dX5_place__13 : decode cX5_place_ 13 = .ok (.ireturn, 1) := by decide +kernel
theorem dX5_place__14 : decode cX5_place_ 14 = .ok (.iload_n 2, 1) := by decide +kernel
theorem dX5_place__15 : decode cX5_place_ 15 = .ok (.tableswitch 76 0 3 #[29, 38, 48, 62], 29) := by decide +kernel
theorem dX5_place__44 : decode cX5_place_ 44 = .ok (.aload_n 0, 1) := by decide +kernel
theorem dX5_place__45 : decode cX5_place_ 45 = .ok (.getfield 7, 3) := by decide +kernel
theorem dX5_place__48 : decode cX5_place_ 48 = .ok (.iconst 0, 1) := by decide +kernel
theorem dX5_place__49 : decode cX5_place_ 49 = .ok (.iload_n 1, 1) := by decide +kernel
theorem dX5_place__50 : decode cX5_place_ 50 = .ok (.iadd, 1) := by decide +kernel
theorem dX5_place__51 : decode cX5_place_ 51 = .ok (.iaload, 1) := by decide +kernel
theorem dX5_place__52 : decode cX5_place_ 52 = .ok (.ireturn, 1) := by decide +kernel
theorem dX5_place__53 : decode cX5_place_ 53 = .ok (.aload_n 0, 1) := by decide +kernel
theorem dX5_place__54 : decode cX5_place_ 54 = .ok (.getfield 7, 3) := by decide +kernel
theorem dX5_place__57 : decode cX5_place_ 57 = .ok (.bipush 12, 2) := by decide +kernel
theorem dX5_place__59 : decode cX5_place_ 59 = .ok (.iload_n 1, 1) := by decide +kernel
theorem dX5_place__60 : decode cX5_place_ 60 = .ok (.iadd, 1) := by decide +kernel
theorem dX5_place__61 : decode cX5_place_ 61 = .ok (.iaload, 1) := by decide +kernel
theorem dX5_place__62 : decode cX5_place_ 62 = .ok (.ireturn, 1) := by decide +kernel
theorem dX5_place__63 : decode cX5_place_ 63 = .ok (.aload_n 0, 1) := by decide +kernel
theorem dX5_place__64 : decode cX5_place_ 64 = .ok (.iload_n 1, 1) := by decide +kernel
theorem dX5_place__65 : decode cX5_place_ 65 = .ok (.invokevirtual 150, 3) := by decide +kernel
theorem dX5_place__68 : decode cX5_place_ 68 = .ok (.ifCond .eq 7, 3) := by decide +kernel
theorem dX5_place__71 : decode cX5_place_ 71 = .ok (.iconst 1, 1) := by decide +kernel
theorem dX5_place__72 : decode cX5_place_ 72 = .ok (.goto 4, 3) := by decide +kernel
theorem dX5_place__75 : decode cX5_place_ 75 = .ok (.iconst 0, 1) := by decide +kernel
theorem dX5_place__76 : decode cX5_place_ 76 = .ok (.ireturn, 1) := by decide +kernel
theorem dX5_place__77 : decode cX5_place_ 77 = .ok (.aload_n 0, 1) := by decide +kernel
theorem dX5_place__78 : decode cX5_place_ 78 = .ok (.iload_n 1, 1) := by decide +kernel
theorem dX5_place__79 : decode cX5_place_ 79 = .ok (.invokevirtual 153, 3) := by decide +kernel
theorem dX5_place__82 : decode cX5_place_ 82 = .ok (.ifCond .eq 7, 3) := by decide +kernel
theorem dX5_place__85 : decode cX5_place_ 85 = .ok (.iconst 1, 1) := by decide +kernel
theorem dX5_place__86 : decode cX5_place_ 86 = .ok (.goto 4, 3) := by decide +kernel
theorem dX5_place__89 : decode cX5_place_ 89 = .ok (.iconst 0, 1) := by decide +kernel
theorem dX5_place__90 : decode cX5_place_ 90 = .ok (.ireturn, 1) := by decide +kernel
theorem dX5_place__91 : decode cX5_place_ 91 = .ok (.bipush (-2), 2) := by decide +kernel
theorem dX5_place__93 : decode cX5_place_ 93 = .ok (.ireturn, 1) := by decide +kernel
set_option maxRecDepth 20000 in
theorem ggX5_ribbons_X5_isRibbon : GoodIn wsX5_ribbons wsX5_isRibbon := goodIn_r _ [5, 6, 7, 8, 4, 9, 10, 11, 12, 13, 14, 15, 16, 17, 18, 19, 20, 21, 22, 23, 24, 25, 26] (by decide +kernel) (by decide +kernel)
set_option maxRecDepth 20000 in
theorem gX5_ribbons_X5_isRibbon : GoodIn wsX5_ribbons (wsV RX5 150 RX5 yX5_isRibbon wsX5_isRibbon) := goodIn_app (goodIn_of _ (by decide +kernel)) ggX5_ribbons_X5_isRibbon
theorem dX5_ribbons_0 : decode cX5_ribbons 0 = .ok (.iconst 0, 1) := by decide +kernel
theorem dX5_ribbons_1 : decode cX5_ribbons 1 = .ok (.istore_n 1, 1) := by decide +kernel
theorem dX5_ribbons_2 : decode cX5_ribbons 2 = .ok (.iconst 0, 1) := by decide +kernel
theorem dX5_ribbons_3 : decode cX5_ribbons 3 = .ok (.istore_n 2, 1) := by decide +kernel
theorem dX5_ribbons_4 : decode cX5_ribbons 4 = .ok (.iload_n 2, 1) := by decide +kernel
theorem dX5_ribbons_5 : decode cX5_ribbons 5 = .ok (.bipush 12, 2) := by decide +kernel
theorem dX5_ribbons_7 : decode cX5_ribbons 7 = .ok (.if_icmp .ge 25, 3) := by decide +kernel
theorem dX5_ribbons_10 : decode cX5_ribbons 10 = .ok (.iload_n 1, 1) := by decide +kernel
theorem dX5_ribbons_11 : decode cX5_ribbons 11 = .ok (.aload_n 0, 1) := by decide +kernel
