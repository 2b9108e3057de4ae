theorem dX0_init_0 : decode cX0_init 0 = .ok (.aload_n 0, 1) := by decide +kernel
theorem dX0_init_1 : decode cX0_init 1 = .ok (.invokespecial 3, 3) := by decide +kernel
theorem dX0_init_4 : decode cX0_init 4 = .ok (.aload_n 0, 1) := by decide +kernel
theorem dX0_init_5 : decode cX0_init 5 = .ok (.bipush 60, 2) := by decide +kernel
theorem dX0_init_7 : decode cX0_init 7 = .ok (.newarray .char, 2) := by decide +kernel
theorem dX0_init_9 : decode cX0_init 9 = .ok (.putfield 9, 3) := by decide +kernel
theorem dX0_init_12 : decode cX0_init 12 = .ok (.aload_n 0, 1) := by decide +kernel
theorem dX0_init_13 : decode cX0_init 13 = .ok (.bipush 60, 2) := by decide +kernel
theorem dX0_init_15 : decode cX0_init 15 = .ok (.newarray .int, 2) := by decide +kernel
theorem dX0_init_17 : decode cX0_init 17 = .ok (.putfield 15, 3) := by decide +kernel
theorem dX0_init_20 : decode cX0_init 20 = .ok (.aload_n 0, 1) := by decide +kernel
theorem dX0_init_21 : decode cX0_init 21 = .ok (.bipush 60, 2) := by decide +kernel
theorem dX0_init_23 : decode cX0_init 23 = .ok (.newarray .int, 2) := by decide +kernel
theorem dX0_init_25 : decode cX0_init 25 = .ok (.putfield 19, 3) := by decide +kernel
theorem dX0_init_28 : decode cX0_init 28 = .ok (.aload_n 0, 1) := by decide +kernel
theorem dX0_init_29 : decode cX0_init 29 = .ok (.iconst 0, 1) := by decide +kernel
theorem dX0_init_30 : decode cX0_init 30 = .ok (.putfield 22, 3) := by decide +kernel
theorem dX0_init_33 : decode cX0_init 33 = .ok (.aload_n 0, 1) := by decide +kernel
theorem dX0_init_34 : decode cX0_init 34 = .ok (.iconst 0, 1) := by decide +kernel
theorem dX0_init_35 : decode cX0_init 35 = .ok (.putfield 26, 3) := by decide +kernel
theorem dX0_init_38 : decode cX0_init 38 = .ok (.aload_n 0, 1) := by decide +kernel
theorem dX0_init_39 : decode cX0_init 39 = .ok (.iconst (-1), 1) := by decide +kernel
theorem dX0_init_40 : decode cX0_init 40 = .ok (.putfield 29, 3) := by decide +kernel
theorem dX0_init_43 : decode cX0_init 43 = .ok (.aload_n 0, 1) := by decide +kernel
theorem dX0_init_44 : decode cX0_init 44 = .ok (.iconst (-1), 1) := by decide +kernel
theorem dX0_init_45 : decode cX0_init 45 = .ok (.putfield 32, 3) := by decide +kernel
theorem dX0_init_48 : decode cX0_init 48 = .ok (.return_, 1) := by decide +kernel
set_option maxRecDepth 20000 in
theorem ggX1_init_X2_init : GoodIn wsX1_init wsX2_init := goodIn_r _ [11, 12, 2, 3, 13, 14, 15, 16, 17, 18, 19, 20, 21, 22, 23, 24, 25, 26, 27, 28, 29, 30, 31, 32, 33, 34, 35, 36, 37, 38, 39, 40, 55, 56, 57, 58, 44, 45, 46, 47, 48, 49, 50, 51, 52, 53, 54] (by decide +kernel) (by decide +kernel)
set_option maxRecDepth 20000 in
theorem gX1_init_X2_init_n24 : GoodIn wsX1_init (wsX2_init) := ggX1_init_X2_init
theorem dX1_init_0 : decode cX1_init 0 = .ok (.aload_n 0, 1) := by decide +kernel
theorem dX1_init_1 : decode cX1_init 1 = .ok (.invokespecial 3, 3) := by decide +kernel
theorem dX1_init_4 : decode cX1_init 4 = .ok (.aload_n 0, 1) := by decide +kernel
theorem dX1_init_5 : decode cX1_init 5 = .ok (.iconst 4, 1) := by decide +kernel
theorem dX1_init_6 : decode cX1_init 6 = .ok (.anewarray 9, 3) := by decide +kernel
theorem dX1_init_9 : decode cX1_init 9 = .ok (.putfield 11, 3) := by decide +kernel
theorem dX1_init_12 : decode cX1_init 12 = .ok (.aload_n 0, 1) := by decide +kernel
theorem dX1_init_13 : decode cX1_init 13 = .ok (.iconst 0, 1) := by decide +kernel
theorem dX1_init_14 : decode cX1_init 14 = .ok (.putfield 17, 3) := by decide +kernel
theorem dX1_init_17 : decode cX1_init 17 = .ok (.aload_n 0, 1) := by decide +kernel
theorem dX1_init_18 : decode cX1_init 18 = .ok (.iconst 0, 1) := by decide +kernel
theorem dX1_init_19 : decode cX1_init 19 = .ok (.putfield 21, 3) := by decide +kernel
theorem dX1_init_22 : decode cX1_init 22 = .ok (.iconst 0, 1) := by decide +kernel
theorem dX1_init_23 : decode cX1_init 23 = .ok (.istore_n 1, 1) := by decide +kernel
theorem dX1_init_24 : decode cX1_init 24 = .ok (.iload_n 1, 1) := by decide +kernel
theorem dX1_init_25 : decode cX1_init 25 = .ok (.aload_n 0, 1) := by decide +kernel
theorem dX1_init_26 : decode cX1_init 26 = .ok (.getfield 11, 3) := by decide +kernel
theorem dX1_init_29 : decode cX1_init 29 = .ok (.arraylength, 1) := by decide +kernel
theorem dX1_init_30 : decode cX1_init 30 = .ok (.if_icmp .ge 22, 3) := by decide +kernel
theorem dX1_init_33 : decode cX1_init 33 = .ok (.aload_n 0, 1) := by decide +kernel
theorem dX1_init_34 : decode cX1_init 34 = .ok (.getfield 11, 3) := by decide +kernel
theorem dX1_init_37 : decode cX1_init 37 = .ok (.iload_n 1, 1) := by decide +kernel
theorem dX1_init_38 : decode cX1_init 38 = .ok (.new 9, 3) := by decide +kernel
theorem dX1_init_41 : decode cX1_init 41 = .ok (.dup, 1) := by decide +kernel
theorem dX1_init_42 : decode cX1_init 42 = .ok (.invokespecial 24, 3) := by decide +kernel
theorem dX1_init_45 : decode cX1_init 45 = .ok (.aastore, 1) := by decide +kernel
theorem dX1_init_46 : decode cX1_init 46 = .ok (.iinc 1 1, 3) := by decide +kernel
theorem dX1_init_49 : decode cX1_init 49 = .ok (.goto (-25), 3) := by decide +kernel
theorem dX1_init_52 : decode cX1_init 52 = .ok (.return_, 1) := by decide +kernel
set_option maxRecDepth 20000 in
theorem ggX1_remember_X1_stateAt : GoodIn wsX1_remember wsX1_stateAt := goodIn_r _ [11, 12, 41, 42, 43] (by decide +kernel) (by decide +kernel)
set_option maxRecDepth 20000 in
theorem gX1_remember_X1_stateAt : GoodIn wsX1_remember (wsV RX1 25 RX1 yX1_stateAt wsX1_stateAt) := goodIn_app (goodIn_of _ (by decide +kernel)) ggX1_remember_X1_stateAt
set_option maxRecDepth 20000 in
theorem ggX1_remember_X2_copyFrom : GoodIn wsX1_remember wsX2_copyFrom := goodIn_r _ [16, 17, 18, 19, 20, 21, 22, 23, 24, 25, 26, 27, 28, 29, 30, 31, 32, 33, 34, 35, 36, 37, 38, 39, 40, 44, 45, 46, 47, 48, 49, 50, 51, 52, 53, 54, 55, 56, 57, 58] (by decide +kernel) (by decide +kernel)
set_option maxRecDepth 20000 in
theorem gX1_remember_X2_copyFrom_n29 : GoodIn wsX1_remember (wsX2_copyFrom) := ggX1_remember_X2_copyFrom
theorem dX1_remember_0 : decode cX1_remember 0 = .ok (.aload_n 0, 1) := by decide +kernel
theorem dX1_remember_1 : decode cX1_remember 1 = .ok (.aload_n 0, 1) := by decide +kernel
theorem dX1_remember_2 : decode cX1_remember 2 = .ok (.getfield 17, 3) := by decide +kernel
theorem dX1_remember_5 : decode cX1_remember 5 = .ok (.invokevirtual 25, 3) := by decide +kernel
theorem dX1_remember_8 : decode cX1_remember 8 = .ok (.astore_n 2, 1) := by decide +kernel
theorem dX1_remember_9 : decode cX1_remember 9 = .ok (.aload_n 2, 1) := by decide +kernel
theorem dX1_remember_10 : decode cX1_remember 10 = .ok (.ifnull 34, 3) := by decide +kernel
theorem dX1_remember_13 : decode cX1_remember 13 = .ok (.aload_n 2, 1) := by decide +kernel
theorem dX1_remember_14 : decode cX1_remember 14 = .ok (.aload_n 1, 1) := by decide +kernel
theorem dX1_remember_15 : decode cX1_remember 15 = .ok (.invokevirtual 29, 3) := by decide +kernel
theorem dX1_remember_18 : decode cX1_remember 18 = .ok (.aload_n 0, 1) := by decide +kernel
theorem dX1_remember_19 : decode cX1_remember 19 = .ok (.aload_n 0, 1) := by decide +kernel
theorem dX1_remember_20 : decode cX1_remember 20 = .ok (.getfield 17, 3) := by decide +kernel
theorem dX1_remember_23 : decode cX1_remember 23 = .ok (.iconst 1, 1) := by decide +kernel
theorem dX1_remember_24 : decode cX1_remember 24 = .ok (.iadd, 1) := by decide +kernel
theorem dX1_remember_25 : decode cX1_remember 25 = .ok (.iconst 4, 1) := by decide +kernel
theorem dX1_remember_26 : decode cX1_remember 26 = .ok (.irem, 1) := by decide +kernel
theorem dX1_remember_27 : decode cX1_remember 27 = .ok (.putfield 17, 3) := by decide +kernel
theorem dX1_remember_30 : decode cX1_remember 30 = .ok (.aload_n 0, 1) := by decide +kernel
theorem dX1_remember_31 : decode cX1_remember 31 = .ok (.aload_n 0, 1) := by decide +kernel
theorem dX1_remember_32 : decode cX1_remember 32 = .ok (.getfield 21, 3) := by decide +kernel
theorem dX1_remember_35 : decode cX1_remember 35 = .ok (.iconst 1, 1) := by decide +kernel
theorem dX1_remember_36 : decode cX1_remember 36 = .ok (.iadd, 1) := by decide +kernel
theorem dX1_remember_37 : decode cX1_remember 37 = .ok (.iconst 4, 1) := by decide +kernel
theorem dX1_remember_38 : decode cX1_remember 38 = .ok (.invokestatic 33, 3) := by decide +kernel
theorem dX1_remember_41 : decode cX1_remember 41 = .ok (.putfield 21, 3) := by decide +kernel
theorem dX1_remember_44 : decode cX1_remember 44 = .ok (.return_, 1) := by decide +kernel
theorem dX1_stateAt_0 : decode cX1_stateAt 0 = .ok (.iload_n 1, 1) := by decide +kernel
theorem dX1_stateAt_1 : decode cX1_stateAt 1 = .ok (.ifCond .lt 21, 3) := by decide +kernel
theorem dX1_stateAt_4 : decode cX1_stateAt 4 = .ok (.iload_n 1, 1) := by decide +kernel
theorem dX1_stateAt_5 : decode cX1_stateAt 5 = .ok (.aload_n 0, 1) := by decide +kernel
theorem dX1_stateAt_6 : decode cX1_stateAt 6 = .ok (.getfield 11, 3) := by decide +kernel
theorem dX1_stateAt_9 : decode cX1_stateAt 9 = .ok (.arraylength, 1) := by decide +kernel
theorem dX1_stateAt_10 : decode cX1_stateAt 10 = .ok (.if_icmp .ge 12, 3) := by decide +kernel
theorem dX1_stateAt_13 : decode cX1_stateAt 13 = .ok (.aload_n 0, 1) := by decide +kernel
theorem dX1_stateAt_14 : decode cX1_stateAt 14 = .ok (.getfield 11, 3) := by decide +kernel
theorem dX1_stateAt_17 : decode cX1_stateAt 17 = .ok (.iload_n 1, 1) := by decide +kernel
theorem dX1_stateAt_18 : decode cX1_stateAt 18 = .ok (.aaload, 1) := by decide +kernel
theorem dX1_stateAt_19 : decode cX1_stateAt 19 = .ok (.goto 4, 3) := by decide +kernel
theorem dX1_stateAt_22 : decode cX1_stateAt 22 = .ok (.aconst_null, 1) := by decide +kernel
theorem dX1_stateAt_23 : decode cX1_stateAt 23 = .ok (.areturn, 1) := by decide +kernel
set_option maxRecDepth 20000 in
theorem ggX2_init_X3_init : GoodIn wsX2_init wsX3_init := goodIn_r _ [26, 27, 2, 3, 8, 28, 29, 30, 31, 32, 33, 34, 35] (by decide +kernel) (by decide +kernel)
set_option maxRecDepth 20000 in
theorem gX2_init_X3_init_n11 : GoodIn wsX2_init (wsX3_init) := ggX2_init_X3_init
theorem dX2_init_0 : decode cX2_init 0 = .ok (.aload_n 0, 1) := by decide +kernel
theorem dX2_init_1 : decode cX2_init 1 = .ok (.invokespecial 3, 3) := by decide +kernel
theorem dX2_init_4 : decode cX2_init 4 = .ok (.aload_n 0, 1) := by decide +kernel
theorem dX2_init_5 : decode cX2_init 5 = .ok (.new 9, 3) := by decide +kernel
theorem dX2_init_8 : decode cX2_init 8 = .ok (.dup, 1) := by decide +kernel
theorem dX2_init_9 : decode cX2_init 9 = .ok (.invokespecial 11, 3) := by decide +kernel
theorem dX2_init_12 : decode cX2_init 12 = .ok (.putfield 12, 3) := by decide +kernel
theorem dX2_init_15 : decode cX2_init 15 = .ok (.aload_n 0, 1) := by decide +kernel
theorem dX2_init_16 : decode cX2_init 16 = .ok (.bipush 12, 2) := by decide +kernel
theorem dX2_init_18 : decode cX2_init 18 = .ok (.newarray .int, 2) := by decide +kernel
theorem dX2_init_20 : decode cX2_init 20 = .ok (.putfield 18, 3) := by decide +kernel
theorem dX2_init_23 : decode cX2_init 23 = .ok (.aload_n 0, 1) := by decide +kernel
theorem dX2_init_24 : decode cX2_init 24 = .ok (.getstatic 22, 3) := by decide +kernel
theorem dX2_init_27 : decode cX2_init 27 = .ok (.invokevirtual 25, 3) := by decide +kernel
theorem dX2_init_30 : decode cX2_init 30 = .ok (.checkcast 26, 3) := by decide +kernel
theorem dX2_init_33 : decode cX2_init 33 = .ok (.putfield 30, 3) := by decide +kernel
theorem dX2_init_36 : decode cX2_init 36 = .ok (.aload_n 0, 1) := by decide +kernel
theorem dX2_init_37 : decode cX2_init 37 = .ok (.sipush 5000, 3) := by decide +kernel
theorem dX2_init_40 : decode cX2_init 40 = .ok (.putfield 33, 3) := by decide +kernel
theorem dX2_init_43 : decode cX2_init 43 = .ok (.aload_n 0, 1) := by decide +kernel
theorem dX2_init_44 : decode cX2_init 44 = .ok (.iconst 0, 1) := by decide +kernel
theorem dX2_init_45 : decode cX2_init 45 = .ok (.putfield 37, 3) := by decide +kernel
theorem dX2_init_48 : decode cX2_init 48 = .ok (.aload_n 0, 1) := by decide +kernel
theorem dX2_init_49 : decode cX2_init 49 = .ok (.iconst 0, 1) := by decide +kernel
theorem dX2_init_50 : decode cX2_init 50 = .ok (.putfield 40, 3) := by decide +kernel
theorem dX2_init_53 : decode cX2_init 53 = .ok (.aload_n 0, 1) := by decide +kernel
theorem dX2_init_54 : decode cX2_init 54 = .ok (.iconst (-1), 1) := by decide +kernel
theorem dX2_init_55 : decode cX2_init 55 = .ok (.putfield 44, 3) := by decide +kernel
theorem dX2_init_58 : decode cX2_init 58 = .ok (.aload_n 0, 1) := by decide +kernel
theorem dX2_init_59 : decode cX2_init 59 = .ok (.iconst 0, 1) := by decide +kernel
theorem dX2_init_60 : decode cX2_init 60 = .ok (.putfield 47, 3) := by decide +kernel
theorem dX2_init_63 : decode cX2_init 63 = .ok (.aload_n 0, 1) := by decide +kernel
theorem dX2_init_64 : decode cX2_init 64 = .ok (.iconst 0, 1) := by decide +kernel
theorem dX2_init_65 : decode cX2_init 65 = .ok (.putfield 50, 3) := by decide +kernel
theorem dX2_init_68 : decode cX2_init 68 = .ok (.aload_n 0, 1) := by decide +kernel
theorem dX2_init_69 : decode cX2_init 69 = .ok (.iconst 0, 1) := by decide +kernel
theorem dX2_init_70 : decode cX2_init 70 = .ok (.putfield 53, 3) := by decide +kernel
theorem dX2_init_73 : decode cX2_init 73 = .ok (.aload_n 0, 1) := by decide +kernel
theorem dX2_init_74 : decode cX2_init 74 = .ok (.iconst 0, 1) := by decide +kernel
theorem dX2_init_75 : decode cX2_init 75 = .ok (.putfield 56, 3) := by decide +kernel
theorem dX2_init_78 : decode cX2_init 78 = .ok (.return_, 1) := by decide +kernel
set_option maxRecDepth 20000 in
theorem ggX2_copyFrom_X3_copyFrom : GoodIn wsX2_copyFrom wsX3_copyFrom := goodIn_r _ [19, 20, 21, 4, 5, 6, 22, 23, 24, 36, 37, 38, 39] (by decide +kernel) (by decide +kernel)
set_option maxRecDepth 20000 in
theorem gX2_copyFrom_X3_copyFrom_n59 : GoodIn wsX2_copyFrom (wsX3_copyFrom) := ggX2_copyFrom_X3_copyFrom
theorem dX2_copyFrom_0 : decode cX2_copyFrom 0 = .ok (.aload_n 0, 1) := by decide +kernel
theorem dX2_copyFrom_1 : decode cX2_copyFrom 1 = .ok (.getfield 12, 3) := by decide +kernel
theorem dX2_copyFrom_4 : decode cX2_copyFrom 4 = .ok (.aload_n 1, 1) := by decide +kernel
theorem dX2_copyFrom_5 : decode cX2_copyFrom 5 = .ok (.getfield 12, 3) := by decide +kernel
theorem dX2_copyFrom_8 : decode cX2_copyFrom 8 = .ok (.invokevirtual 59, 3) := by decide +kernel
theorem dX2_copyFrom_11 : decode cX2_copyFrom 11 = .ok (.aload_n 1, 1) := by decide +kernel
theorem dX2_copyFrom_12 : decode cX2_copyFrom 12 = .ok (.getfield 18, 3) := by decide +kernel
theorem dX2_copyFrom_15 : decode cX2_copyFrom 15 = .ok (.iconst 0, 1) := by decide +kernel
theorem dX2_copyFrom_16 : decode cX2_copyFrom 16 = .ok (.aload_n 0, 1) := by decide +kernel
theorem dX2_copyFrom_17 : decode cX2_copyFrom 17 = .ok (.getfield 18, 3) := by decide +kernel
theorem dX2_copyFrom_20 : decode cX2_copyFrom 20 = .ok (.iconst 0, 1) := by decide +kernel
theorem dX2_copyFrom_21 : decode cX2_copyFrom 21 = .ok (.bipush 12, 2) := by decide +kernel
theorem dX2_copyFrom_23 : decode cX2_copyFrom 23 = .ok (.invokestatic 63, 3) := by decide +kernel
theorem dX2_copyFrom_26 : decode cX2_copyFrom 26 = .ok (.aload_n 1, 1) := by decide +kernel
theorem dX2_copyFrom_27 : decode cX2_copyFrom 27 = .ok (.getfield 30, 3) := by decide +kernel
theorem dX2_copyFrom_30 : decode cX2_copyFrom 30 = .ok (.iconst 0, 1) := by decide +kernel
theorem dX2_copyFrom_31 : decode cX2_copyFrom 31 = .ok (.aload_n 0, 1) := by decide +kernel
theorem dX2_copyFrom_32 : decode cX2_copyFrom 32 = .ok (.getfield 30, 3) := by decide +kernel
theorem dX2_copyFrom_35 : decode cX2_copyFrom 35 = .ok (.iconst 0, 1) := by decide +kernel
theorem dX2_copyFrom_36 : decode cX2_copyFrom 36 = .ok (.getstatic 22, 3) := by decide +kernel
theorem dX2_copyFrom_39 : decode cX2_copyFrom 39 = .ok (.arraylength, 1) := by decide +kernel
theorem dX2_copyFrom_40 : decode cX2_copyFrom 40 = .ok (.invokestatic 63, 3) := by decide +kernel
theorem dX2_copyFrom_43 : decode cX2_copyFrom 43 = .ok (.aload_n 0, 1) := by decide +kernel
theorem dX2_copyFrom_44 : decode cX2_copyFrom 44 = .ok (.aload_n 1, 1) := by decide +kernel
theorem dX2_copyFrom_45 : decode cX2_copyFrom 45 = .ok (.getfield 33, 3) := by decide +kernel
theorem dX2_copyFrom_48 : decode cX2_copyFrom 48 = .ok (.putfield 33, 3) := by decide +kernel
theorem dX2_copyFrom_51 : decode cX2_copyFrom 51 = .ok (.aload_n 0, 1) := by decide +kernel
theorem dX2_copyFrom_52 : decode cX2_copyFrom 52 = .ok (.aload_n 1, 1) := by decide +kernel
theorem dX2_copyFrom_53 : decode cX2_copyFrom 53 = .ok (.getfield 37, 3) := by decide +kernel
theorem dX2_copyFrom_56 : decode cX2_copyFrom 56 = .ok (.putfield 37, 3) := by decide +kernel
theorem dX2_copyFrom_59 : decode cX2_copyFrom 59 = .ok (.aload_n 0, 1) := by decide +kernel
theorem dX2_copyFrom_60 : decode cX2_copyFrom 60 = .ok (.aload_n 1, 1) := by decide +kernel
theorem dX2_copyFrom_61 : decode cX2_copyFrom 61 = .ok (.getfield 40, 3) := by decide +kernel
theorem dX2_copyFrom_64 : decode cX2_copyFrom 64 = .ok (.putfield 40, 3) := by decide +kernel
theorem dX2_copyFrom_67 : decode cX2_copyFrom 67 = .ok (.aload_n 0, 1) := by decide +kernel
theorem dX2_copyFrom_68 : decode cX2_copyFrom 68 = .ok (.aload_n 1, 1) := by decide +kernel
theorem dX2_copyFrom_69 : decode cX2_copyFrom 69 = .ok (.getfield 44, 3) := by decide +kernel
theorem dX2_copyFrom_72 : decode cX2_copyFrom 72 = .ok (.putfield 44, 3) := by decide +kernel
theorem dX2_copyFrom_75 : decode cX2_copyFrom 75 = .ok (.aload_n 0, 1) := by decide +kernel
theorem dX2_copyFrom_76 : decode cX2_copyFrom 76 = .ok (.aload_n 1, 1) := by decide +kernel
theorem dX2_copyFrom_77 : decode cX2_copyFrom 77 = .ok (.getfield 47, 3) := by decide +kernel
theorem dX2_copyFrom_80 : decode cX2_copyFrom 80 = .ok (.putfield 47, 3) := by decide +kernel
theorem dX2_copyFrom_83 : decode cX2_copyFrom 83 = .ok (.aload_n 0, 1) := by decide +kernel
theorem dX2_copyFrom_84 : decode cX2_copyFrom 84 = .ok (.aload_n 1, 1) := by decide +kernel
theorem dX2_copyFrom_85 : decode cX2_copyFrom 85 = .ok (.getfield 50, 3) := by decide +kernel
theorem dX2_copyFrom_88 : decode cX2_copyFrom 88 = .ok (.putfield 50, 3) := by decide +kernel
theorem dX2_copyFrom_91 : decode cX2_copyFrom 91 = .ok (.aload_n 0, 1) := by decide +kernel
theorem dX2_copyFrom_92 : decode cX2_copyFrom 92 = .ok (.aload_n 1, 1) := by decide +kernel
theorem dX2_copyFrom_93 : decode cX2_copyFrom 93 = .ok (.getfield 53, 3) := by decide +kernel
theorem dX2_copyFrom_96 : decode cX2_copyFrom 96 = .ok (.putfield 53, 3) := by decide +kernel
theorem dX2_copyFrom_99 : decode cX2_copyFrom 99 = .ok (.aload_n 0, 1) := by decide +kernel
theorem dX2_copyFrom_100 : decode cX2_copyFrom 100 = .ok (.aload_n 1, 1) := by decide +kernel
theorem dX2_copyFrom_101 : decode cX2_copyFrom 101 = .ok (.getfield 56, 3) := by decide +kernel
theorem dX2_copyFrom_104 : decode cX2_copyFrom 104 = .ok (.putfield 56, 3) := by decide +kernel
theorem dX2_copyFrom_107 : decode cX2_copyFrom 107 = .ok (.return_, 1) := by decide +kernel
set_option maxRecDepth 20000 in
theorem ggX2_changeNumber_X4_inRange : GoodIn wsX2_changeNumber wsX4_inRange := goodIn_r _ [4, 5, 6, 3, 7, 8, 9, 10, 11, 12] (by decide +kernel) (by decide +kernel)
set_option maxRecDepth 20000 in
theorem gX2_changeNumber_X4_inRange_n84 : GoodIn wsX2_changeNumber (wsX4_inRange) := ggX2_changeNumber_X4_inRange
theorem dX2_changeNumber_0 : decode cX2_changeNumber 0 = .ok (.iload_n 1, 1) := by decide +kernel
theorem dX2_changeNumber_1 : decode cX2_changeNumber 1 = .ok (.ifCond .lt 12, 3) := by decide +kernel
theorem dX2_changeNumber_4 : decode cX2_changeNumber 4 = .ok (.iload_n 1, 1) := by decide +kernel
theorem dX2_changeNumber_5 : decode cX2_changeNumber 5 = .ok (.aload_n 0, 1) := by decide +kernel
theorem dX2_changeNumber_6 : decode cX2_changeNumber 6 = .ok (.getfield 30, 3) := by decide +kernel
theorem dX2_changeNumber_9 : decode cX2_changeNumber 9 = .ok (.arraylength, 1) := by decide +kernel
theorem dX2_changeNumber_10 : decode cX2_changeNumber 10 = .ok (.if_icmp .lt 5, 3) := by decide +kernel
theorem dX2_changeNumber_13 : decode cX2_changeNumber 13 = .ok (.iconst (-1), 1) := by decide +kernel
theorem dX2_changeNumber_14 : decode cX2_changeNumber 14 = .ok (.ireturn, 1) := by decide +kernel
theorem dX2_changeNumber_15 : decode cX2_changeNumber 15 = .ok (.iload_n 1, 1) := by decide +kernel
theorem dX2_changeNumber_16 : decode cX2_changeNumber 16 = .ok (.iload_n 2, 1) := by decide +kernel
theorem dX2_changeNumber_17 : decode cX2_changeNumber 17 = .ok (.invokestatic 84, 3) := by decide +kernel
theorem dX2_changeNumber_20 : decode cX2_changeNumber 20 = .ok (.ifCond .ne 6, 3) := by decide +kernel
theorem dX2_changeNumber_23 : decode cX2_changeNumber 23 = .ok (.bipush (-2), 2) := by decide +kernel
theorem dX2_changeNumber_25 : decode cX2_changeNumber 25 = .ok (.ireturn, 1) := by decide +kernel
theorem dX2_changeNumber_26 : decode cX2_changeNumber 26 = .ok (.aload_n 0, 1) := by decide +kernel
theorem dX2_changeNumber_27 : decode cX2_changeNumber 27 = .ok (.getfield 30, 3) := by decide +kernel
theorem dX2_changeNumber_30 : decode cX2_changeNumber 30 = .ok (.iload_n 1, 1) := by decide +kernel
theorem dX2_changeNumber_31 : decode cX2_changeNumber 31 = .ok (.iaload, 1) := by decide +kernel
theorem dX2_changeNumber_32 : decode cX2_changeNumber 32 = .ok (.istore_n 3, 1) := by decide +kernel
theorem dX2_changeNumber_33 : decode cX2_changeNumber 33 = .ok (.iload_n 3, 1) := by decide +kernel
theorem dX2_changeNumber_34 : decode cX2_changeNumber 34 = .ok (.iload_n 2, 1) := by decide +kernel
theorem dX2_changeNumber_35 : decode cX2_changeNumber 35 = .ok (.if_icmp .ne 6, 3) := by decide +kernel
theorem dX2_changeNumber_38 : decode cX2_changeNumber 38 = .ok (.bipush (-5), 2) := by decide +kernel
theorem dX2_changeNumber_40 : decode cX2_changeNumber 40 = .ok (.ireturn, 1) := by decide +kernel
theorem dX2_changeNumber_41 : decode cX2_changeNumber 41 = .ok (.aload_n 0, 1) := by decide +kernel
theorem dX2_changeNumber_42 : decode cX2_changeNumber 42 = .ok (.getfield 30, 3) := by decide +kernel
theorem dX2_changeNumber_45 : decode cX2_changeNumber 45 = .ok (.iload_n 1, 1) := by decide +kernel
theorem dX2_changeNumber_46 : decode cX2_changeNumber 46 = .ok (.iload_n 2, 1) := by decide +kernel
theorem dX2_changeNumber_47 : decode cX2_changeNumber 47 = .ok (.iastore, 1) := by decide +kernel
theorem dX2_changeNumber_48 : decode cX2_changeNumber 48 = .ok (.iload_n 3, 1) := by decide +kernel
theorem dX2_changeNumber_49 : decode cX2_changeNumber 49 = .ok (.ireturn, 1) := by decide +kernel
set_option maxRecDepth 20000 in
theorem ggX2_turnOften_X4_inRange : GoodIn wsX2_turnOften wsX4_inRange := goodIn_r _ [4, 5, 6, 3, 7, 8, 9, 10, 11, 12] (by decide +kernel) (by decide +kernel)
set_option maxRecDepth 20000 in
theorem gX2_turnOften_X4_inRange_n84 : GoodIn wsX2_turnOften (wsX4_inRange) := ggX2_turnOften_X4_inRange
set_option maxRecDepth 20000 in
theorem ggX2_turnOften_X2_isIdle : GoodIn wsX2_turnOften wsX2_isIdle := goodIn_r _ [17, 18, 1, 19, 20, 21, 16, 22, 23, 24, 25, 26, 27, 28, 80, 81, 82, 83, 84, 85, 86, 87, 88, 89, 90, 91, 92, 93, 94] (by decide +kernel) (by decide +kernel)
set_option maxRecDepth 20000 in
theorem gX2_turnOften_X2_isIdle : GoodIn wsX2_turnOften (wsV RX2 88 RX2 yX2_isIdle wsX2_isIdle) := goodIn_app (goodIn_of _ (by decide +kernel)) ggX2_turnOften_X2_isIdle
set_option maxRecDepth 20000 in
theorem ggX2_turnOften_X2_turnOnce : GoodIn wsX2_turnOften wsX2_turnOnce := goodIn_r _ [32, 33, 1, 23, 34, 35, 18, 36, 13, 14, 15, 16, 17, 19, 20, 21, 22, 24, 25, 26, 27, 28, 37, 38, 39, 40, 41, 42, 43, 44, 45, 46, 47, 48, 49, 50, 51, 52, 53, 54, 55, 56, 57, 58, 59, 60, 61, 62, 63, 64, 65, 66, 67, 68, 69, 70, 71, 72, 73, 74, 75, 76, 77, 78, 3, 79, 80, 81, 82, 83, 84, 85, 86, 87, 88, 89, 90, 91, 92, 93, 94] (by decide +kernel) (by decide +kernel)
set_option maxRecDepth 20000 in
theorem gX2_turnOften_X2_turnOnce : GoodIn wsX2_turnOften (wsV RX2 95 RX2 yX2_turnOnce wsX2_turnOnce) := goodIn_app (goodIn_of _ (by decide +kernel)) ggX2_turnOften_X2_turnOnce
theorem dX2_turnOften_0 : decode cX2_turnOften 0 = .ok (.iconst 5, 1) := by decide +kernel
theorem dX2_turnOften_1 : decode cX2_turnOften 1 = .ok (.iload_n 1, 1) := by decide +kernel
theorem dX2_turnOften_2 : decode cX2_turnOften 2 = .ok (.invokestatic 84, 3) := by decide +kernel
theorem dX2_turnOften_5 : decode cX2_turnOften 5 = .ok (.ifCond .ne 6, 3) := by decide +kernel
theorem dX2_turnOften_8 : decode cX2_turnOften 8 = .ok (.bipush (-2), 2) := by decide +kernel
theorem dX2_turnOften_10 : decode cX2_turnOften 10 = .ok (.ireturn, 1) := by decide +kernel
theorem dX2_turnOften_11 : decode cX2_turnOften 11 = .ok (.aload_n 0, 1) := by decide +kernel
theorem dX2_turnOften_12 : decode cX2_turnOften 12 = .ok (.invokevirtual 88, 3) := by decide +kernel
theorem dX2_turnOften_15 : decode cX2_turnOften 15 = .ok (.ifCond .eq 6, 3) := by decide +kernel
theorem dX2_turnOften_18 : decode cX2_turnOften 18 = .ok (.bipush (-5), 2) := by decide +kernel
theorem dX2_turnOften_20 : decode cX2_turnOften 20 = .ok (.ireturn, 1) := by decide +kernel
theorem dX2_turnOften_21 : decode cX2_turnOften 21 = .ok (.aload_n 0, 1) := by decide +kernel
theorem dX2_turnOften_22 : decode cX2_turnOften 22 = .ok (.getfield 12, 3) := by decide +kernel
theorem dX2_turnOften_25 : decode cX2_turnOften 25 = .ok (.getfield 92, 3) := by decide +kernel
theorem dX2_turnOften_28 : decode cX2_turnOften 28 = .ok (.istore_n 2, 1) := by decide +kernel
theorem dX2_turnOften_29 : decode cX2_turnOften 29 = .ok (.iconst 0, 1) := by decide +kernel
theorem dX2_turnOften_30 : decode cX2_turnOften 30 = .ok (.istore_n 3, 1) := by decide +kernel
theorem dX2_turnOften_31 : decode cX2_turnOften 31 = .ok (.iload_n 3, 1) := by decide +kernel
theorem dX2_turnOften_32 : decode cX2_turnOften 32 = .ok (.iload_n 1, 1) := by decide +kernel
theorem dX2_turnOften_33 : decode cX2_turnOften 33 = .ok (.if_icmp .ge 20, 3) := by decide +kernel
theorem dX2_turnOften_36 : decode cX2_turnOften 36 = .ok (.aload_n 0, 1) := by decide +kernel
theorem dX2_turnOften_37 : decode cX2_turnOften 37 = .ok (.invokevirtual 88, 3) := by decide +kernel
theorem dX2_turnOften_40 : decode cX2_turnOften 40 = .ok (.ifCond .ne 13, 3) := by decide +kernel
theorem dX2_turnOften_43 : decode cX2_turnOften 43 = .ok (.aload_n 0, 1) := by decide +kernel
theorem dX2_turnOften_44 : decode cX2_turnOften 44 = .ok (.invokevirtual 95, 3) := by decide +kernel
theorem dX2_turnOften_47 : decode cX2_turnOften 47 = .ok (.iinc 3 1, 3) := by decide +kernel
theorem dX2_turnOften_50 : decode cX2_turnOften 50 = .ok (.goto (-19), 3) := by decide +kernel
theorem dX2_turnOften_53 : decode cX2_turnOften 53 = .ok (.aload_n 0, 1) := by decide +kernel
theorem dX2_turnOften_54 : decode cX2_turnOften 54 = .ok (.getfield 12, 3) := by decide +kernel
theorem dX2_turnOften_57 : decode cX2_turnOften 57 = .ok (.getfield 92, 3) := by decide +kernel
theorem dX2_turnOften_60 : decode cX2_turnOften 60 = .ok (.iload_n 2, 1) := by decide +kernel
theorem dX2_turnOften_61 : decode cX2_turnOften 61 = .ok (.isub, 1) := by decide +kernel
theorem dX2_turnOften_62 : decode cX2_turnOften 62 = .ok (.ireturn, 1) := by decide +kernel
set_option maxRecDepth 20000 in
theorem ggX2_turnOnce_X2_isIdle : GoodIn wsX2_turnOnce wsX2_isIdle := goodIn_r _ [12, 6, 2, 13, 14, 15, 11, 16, 3, 17, 18, 19, 20, 21, 66, 67, 68, 69, 70, 71, 72, 73, 74, 75, 76, 77, 78, 79, 80] (by decide +kernel) (by decide +kernel)
set_option maxRecDepth 20000 in
theorem gX2_turnOnce_X2_isIdle : GoodIn wsX2_turnOnce (wsV RX2 88 RX2 yX2_isIdle wsX2_isIdle) := goodIn_app (goodIn_of _ (by decide +kernel)) ggX2_turnOnce_X2_isIdle
set_option maxRecDepth 20000 in
theorem ggX2_turnOnce_X3_guidePlace : GoodIn wsX2_turnOnce wsX3_guidePlace := goodIn_r _ [24, 25, 77, 78, 79, 80] (by decide +kernel) (by decide +kernel)
set_option maxRecDepth 20000 in
theorem gX2_turnOnce_X3_guidePlace_n98 : GoodIn wsX2_turnOnce (wsX3_guidePlace) := ggX2_turnOnce_X3_guidePlace
set_option maxRecDepth 20000 in
theorem ggX2_turnOnce_X3_heightAt : GoodIn wsX2_turnOnce wsX3_heightAt := goodIn_r _ [28, 29, 77, 78, 79, 80] (by decide +kernel) (by decide +kernel)
set_option maxRecDepth 20000 in
theorem gX2_turnOnce_X3_heightAt_n101 : GoodIn wsX2_turnOnce (wsX3_heightAt) := ggX2_turnOnce_X3_heightAt
set_option maxRecDepth 20000 in
theorem ggX2_turnOnce_X3_layWrap : GoodIn wsX2_turnOnce wsX3_layWrap := goodIn_r _ [32, 29, 33, 21, 34, 35, 36, 37, 38, 22, 23, 18, 24, 25, 77, 78, 79, 80] (by decide +kernel) (by decide +kernel)
set_option maxRecDepth 20000 in
theorem gX2_turnOnce_X3_layWrap_n104 : GoodIn wsX2_turnOnce (wsX3_layWrap) := ggX2_turnOnce_X3_layWrap
set_option maxRecDepth 20000 in
theorem ggX2_turnOnce_X2_tensionAt : GoodIn wsX2_turnOnce wsX2_tensionAt := goodIn_r _ [42, 43, 5, 2, 44, 45, 36, 46, 47, 48, 49, 11, 50, 51, 26, 18, 27, 28, 29, 66, 67, 68, 69, 70, 71, 72, 73, 74, 75, 76, 77, 78, 79, 80] (by decide +kernel) (by decide +kernel)
set_option maxRecDepth 20000 in
theorem gX2_turnOnce_X2_tensionAt : GoodIn wsX2_turnOnce (wsV RX2 107 RX2 yX2_tensionAt wsX2_tensionAt) := goodIn_app (goodIn_of _ (by decide +kernel)) ggX2_turnOnce_X2_tensionAt
set_option maxRecDepth 20000 in
theorem ggX2_turnOnce_X2_warmDiscs : GoodIn wsX2_turnOnce wsX2_warmDiscs := goodIn_r _ [55, 43, 56, 57, 36, 58, 59, 35, 37, 47, 48, 49, 11, 50, 51, 66, 67, 68, 69, 70, 71, 72, 73, 74, 75, 76] (by decide +kernel) (by decide +kernel)
set_option maxRecDepth 20000 in
theorem gX2_turnOnce_X2_warmDiscs : GoodIn wsX2_turnOnce (wsV RX2 110 RX2 yX2_warmDiscs wsX2_warmDiscs) := goodIn_app (goodIn_of _ (by decide +kernel)) ggX2_turnOnce_X2_warmDiscs
set_option maxRecDepth 20000 in
theorem ggX2_turnOnce_X2_number : GoodIn wsX2_turnOnce wsX2_number := goodIn_r _ [50, 51, 66, 67, 68, 69, 70, 71, 72, 73, 74, 75, 76] (by decide +kernel) (by decide +kernel)
set_option maxRecDepth 20000 in
theorem gX2_turnOnce_X2_number : GoodIn wsX2_turnOnce (wsV RX2 113 RX2 yX2_number wsX2_number) := goodIn_app (goodIn_of _ (by decide +kernel)) ggX2_turnOnce_X2_number
set_option maxRecDepth 20000 in
theorem ggX2_turnOnce_X3_moveGuide : GoodIn wsX2_turnOnce wsX3_moveGuide := goodIn_r _ [62, 25, 63, 64, 65, 77, 78, 79, 80] (by decide +kernel) (by decide +kernel)
set_option maxRecDepth 20000 in
theorem gX2_turnOnce_X3_moveGuide_n116 : GoodIn wsX2_turnOnce (wsX3_moveGuide) := ggX2_turnOnce_X3_moveGuide
theorem dX2_turnOnce_0 : decode cX2_turnOnce 0 = .ok (.aload_n 0, 1) := by decide +kernel
theorem dX2_turnOnce_1 : decode cX2_turnOnce 1 = .ok (.invokevirtual 88, 3) := by decide +kernel
theorem dX2_turnOnce_4 : decode cX2_turnOnce 4 = .ok (.ifCond .eq 4, 3) := by decide +kernel
theorem dX2_turnOnce_7 : decode cX2_turnOnce 7 = .ok (.return_, 1) := by decide +kernel
theorem dX2_turnOnce_8 : decode cX2_turnOnce 8 = .ok (.aload_n 0, 1) := by decide +kernel
theorem dX2_turnOnce_9 : decode cX2_turnOnce 9 = .ok (.dup, 1) := by decide +kernel
theorem dX2_turnOnce_10 : decode cX2_turnOnce 10 = .ok (.getfield 50, 3) := by decide +kernel
theorem dX2_turnOnce_13 : decode cX2_turnOnce 13 = .ok (.iconst 1, 1) := by decide +kernel
theorem dX2_turnOnce_14 : decode cX2_turnOnce 14 = .ok (.iadd, 1) := by decide +kernel
theorem dX2_turnOnce_15 : decode cX2_turnOnce 15 = .ok (.putfield 50, 3) := by decide +kernel
theorem dX2_turnOnce_18 : decode cX2_turnOnce 18 = .ok (.aload_n 0, 1) := by decide +kernel
theorem dX2_turnOnce_19 : decode cX2_turnOnce 19 = .ok (.getfield 12, 3) := by decide +kernel
theorem dX2_turnOnce_22 : decode cX2_turnOnce 22 = .ok (.invokevirtual 98, 3) := by decide +kernel
theorem dX2_turnOnce_25 : decode cX2_turnOnce 25 = .ok (.istore_n 1, 1) := by decide +kernel
theorem dX2_turnOnce_26 : decode cX2_turnOnce 26 = .ok (.bipush 10, 2) := by decide +kernel
theorem dX2_turnOnce_28 : decode cX2_turnOnce 28 = .ok (.aload_n 0, 1) := by decide +kernel
theorem dX2_turnOnce_29 : decode cX2_turnOnce 29 = .ok (.getfield 12, 3) := by decide +kernel
theorem dX2_turnOnce_32 : decode cX2_turnOnce 32 = .ok (.iload_n 1, 1) := by decide +kernel
theorem dX2_turnOnce_33 : decode cX2_turnOnce 33 = .ok (.invokevirtual 101, 3) := by decide +kernel
theorem dX2_turnOnce_36 : decode cX2_turnOnce 36 = .ok (.iadd, 1) := by decide +kernel
theorem dX2_turnOnce_37 : decode cX2_turnOnce 37 = .ok (.istore_n 2, 1) := by decide +kernel
theorem dX2_turnOnce_38 : decode cX2_turnOnce 38 = .ok (.aload_n 0, 1) := by decide +kernel
theorem dX2_turnOnce_39 : decode cX2_turnOnce 39 = .ok (.getfield 33, 3) := by decide +kernel
theorem dX2_turnOnce_42 : decode cX2_turnOnce 42 = .ok (.iload_n 2, 1) := by decide +kernel
theorem dX2_turnOnce_43 : decode cX2_turnOnce 43 = .ok (.if_icmp .ge 9, 3) := by decide +kernel
theorem dX2_turnOnce_46 : decode cX2_turnOnce 46 = .ok (.aload_n 0, 1) := by decide +kernel
theorem dX2_turnOnce_47 : decode cX2_turnOnce 47 = .ok (.iconst 0, 1) := by decide +kernel
theorem dX2_turnOnce_48 : decode cX2_turnOnce 48 = .ok (.putfield 33, 3) := by decide +kernel
theorem dX2_turnOnce_51 : decode cX2_turnOnce 51 = .ok (.return_, 1) := by decide +kernel
theorem dX2_turnOnce_52 : decode cX2_turnOnce 52 = .ok (.aload_n 0, 1) := by decide +kernel
theorem dX2_turnOnce_53 : decode cX2_turnOnce 53 = .ok (.dup, 1) := by decide +kernel
theorem dX2_turnOnce_54 : decode cX2_turnOnce 54 = .ok (.getfield 33, 3) := by decide +kernel
theorem dX2_turnOnce_57 : decode cX2_turnOnce 57 = .ok (.iload_n 2, 1) := by decide +kernel
theorem dX2_turnOnce_58 : decode cX2_turnOnce 58 = .ok (.isub, 1) := by decide +kernel
theorem dX2_turnOnce_59 : decode cX2_turnOnce 59 = .ok (.putfield 33, 3) := by decide +kernel
theorem dX2_turnOnce_62 : decode cX2_turnOnce 62 = .ok (.aload_n 0, 1) := by decide +kernel
theorem dX2_turnOnce_63 : decode cX2_turnOnce 63 = .ok (.getfield 12, 3) := by decide +kernel
theorem dX2_turnOnce_66 : decode cX2_turnOnce 66 = .ok (.invokevirtual 104, 3) := by decide +kernel
theorem dX2_turnOnce_69 : decode cX2_turnOnce 69 = .ok (.aload_n 0, 1) := by decide +kernel
theorem dX2_turnOnce_70 : decode cX2_turnOnce 70 = .ok (.aload_n 0, 1) := by decide +kernel
theorem dX2_turnOnce_71 : decode cX2_turnOnce 71 = .ok (.iload_n 1, 1) := by decide +kernel
theorem dX2_turnOnce_72 : decode cX2_turnOnce 72 = .ok (.invokevirtual 107, 3) := by decide +kernel
theorem dX2_turnOnce_75 : decode cX2_turnOnce 75 = .ok (.putfield 47, 3) := by decide +kernel
theorem dX2_turnOnce_78 : decode cX2_turnOnce 78 = .ok (.aload_n 0, 1) := by decide +kernel
theorem dX2_turnOnce_79 : decode cX2_turnOnce 79 = .ok (.iload_n 1, 1) := by decide +kernel
theorem dX2_turnOnce_80 : decode cX2_turnOnce 80 = .ok (.putfield 44, 3) := by decide +kernel
theorem dX2_turnOnce_83 : decode cX2_turnOnce 83 = .ok (.aload_n 0, 1) := by decide +kernel
theorem dX2_turnOnce_84 : decode cX2_turnOnce 84 = .ok (.invokevirtual 110, 3) := by decide +kernel
theorem dX2_turnOnce_87 : decode cX2_turnOnce 87 = .ok (.aload_n 0, 1) := by decide +kernel
theorem dX2_turnOnce_88 : decode cX2_turnOnce 88 = .ok (.getfield 47, 3) := by decide +kernel
theorem dX2_turnOnce_91 : decode cX2_turnOnce 91 = .ok (.aload_n 0, 1) := by decide +kernel
theorem dX2_turnOnce_92 : decode cX2_turnOnce 92 = .ok (.iconst 4, 1) := by decide +kernel
theorem dX2_turnOnce_93 : decode cX2_turnOnce 93 = .ok (.invokevirtual 113, 3) := by decide +kernel
theorem dX2_turnOnce_96 : decode cX2_turnOnce 96 = .ok (.if_icmp .le 18, 3) := by decide +kernel
theorem dX2_turnOnce_99 : decode cX2_turnOnce 99 = .ok (.aload_n 0, 1) := by decide +kernel
theorem dX2_turnOnce_100 : decode cX2_turnOnce 100 = .ok (.iconst 1, 1) := by decide +kernel
theorem dX2_turnOnce_101 : decode cX2_turnOnce 101 = .ok (.putfield 40, 3) := by decide +kernel
theorem dX2_turnOnce_104 : decode cX2_turnOnce 104 = .ok (.aload_n 0, 1) := by decide +kernel
theorem dX2_turnOnce_105 : decode cX2_turnOnce 105 = .ok (.dup, 1) := by decide +kernel
theorem dX2_turnOnce_106 : decode cX2_turnOnce 106 = .ok (.getfield 53, 3) := by decide +kernel
theorem dX2_turnOnce_109 : decode cX2_turnOnce 109 = .ok (.iconst 1, 1) := by decide +kernel
theorem dX2_turnOnce_110 : decode cX2_turnOnce 110 = .ok (.iadd, 1) := by decide +kernel
theorem dX2_turnOnce_111 : decode cX2_turnOnce 111 = .ok (.putfield 53, 3) := by decide +kernel
theorem dX2_turnOnce_114 : decode cX2_turnOnce 114 = .ok (.aload_n 0, 1) := by decide +kernel
theorem dX2_turnOnce_115 : decode cX2_turnOnce 115 = .ok (.getfield 12, 3) := by decide +kernel
theorem dX2_turnOnce_118 : decode cX2_turnOnce 118 = .ok (.aload_n 0, 1) := by decide +kernel
theorem dX2_turnOnce_119 : decode cX2_turnOnce 119 = .ok (.iconst 0, 1) := by decide +kernel
theorem dX2_turnOnce_120 : decode cX2_turnOnce 120 = .ok (.invokevirtual 113, 3) := by decide +kernel
theorem dX2_turnOnce_123 : decode cX2_turnOnce 123 = .ok (.aload_n 0, 1) := by decide +kernel
theorem dX2_turnOnce_124 : decode cX2_turnOnce 124 = .ok (.iconst 2, 1) := by decide +kernel
theorem dX2_turnOnce_125 : decode cX2_turnOnce 125 = .ok (.invokevirtual 113, 3) := by decide +kernel
theorem dX2_turnOnce_128 : decode cX2_turnOnce 128 = .ok (.aload_n 0, 1) := by decide +kernel
theorem dX2_turnOnce_129 : decode cX2_turnOnce 129 = .ok (.getfield 50, 3) := by decide +kernel
theorem dX2_turnOnce_132 : decode cX2_turnOnce 132 = .ok (.invokevirtual 116, 3) := by decide +kernel
theorem dX2_turnOnce_135 : decode cX2_turnOnce 135 = .ok (.return_, 1) := by decide +kernel
set_option maxRecDepth 20000 in
theorem ggX2_tensionAt_X2_number : GoodIn wsX2_tensionAt wsX2_number := goodIn_r _ [12, 13, 19, 20, 21, 22, 23, 24, 25, 26, 27, 28, 29] (by decide +kernel) (by decide +kernel)
set_option maxRecDepth 20000 in
theorem gX2_tensionAt_X2_number : GoodIn wsX2_tensionAt (wsV RX2 113 RX2 yX2_number wsX2_number) := goodIn_app (goodIn_of _ (by decide +kernel)) ggX2_tensionAt_X2_number
set_option maxRecDepth 20000 in
theorem ggX2_tensionAt_X3_heightAt : GoodIn wsX2_tensionAt wsX3_heightAt := goodIn_r _ [17, 18, 30, 31, 32, 33] (by decide +kernel) (by decide +kernel)
set_option maxRecDepth 20000 in
theorem gX2_tensionAt_X3_heightAt_n101 : GoodIn wsX2_tensionAt (wsX3_heightAt) := ggX2_tensionAt_X3_heightAt
theorem dX2_tensionAt_0 : decode cX2_tensionAt 0 = .ok (.iconst 4, 1) := by decide +kernel
theorem dX2_tensionAt_1 : decode cX2_tensionAt 1 = .ok (.aload_n 0, 1) := by decide +kernel
theorem dX2_tensionAt_2 : decode cX2_tensionAt 2 = .ok (.iconst 1, 1) := by decide +kernel
theorem dX2_tensionAt_3 : decode cX2_tensionAt 3 = .ok (.invokevirtual 113, 3) := by decide +kernel
theorem dX2_tensionAt_6 : decode cX2_tensionAt 6 = .ok (.imul, 1) := by decide +kernel
theorem dX2_tensionAt_7 : decode cX2_tensionAt 7 = .ok (.aload_n 0, 1) := by decide +kernel
theorem dX2_tensionAt_8 : decode cX2_tensionAt 8 = .ok (.getfield 37, 3) := by decide +kernel
theorem dX2_tensionAt_11 : decode cX2_tensionAt 11 = .ok (.bipush 10, 2) := by decide +kernel
theorem dX2_tensionAt_13 : decode cX2_tensionAt 13 = .ok (.idiv, 1) := by decide +kernel
theorem dX2_tensionAt_14 : decode cX2_tensionAt 14 = .ok (.iadd, 1) := by decide +kernel
theorem dX2_tensionAt_15 : decode cX2_tensionAt 15 = .ok (.istore_n 2, 1) := by decide +kernel
theorem dX2_tensionAt_16 : decode cX2_tensionAt 16 = .ok (.aload_n 0, 1) := by decide +kernel
theorem dX2_tensionAt_17 : decode cX2_tensionAt 17 = .ok (.getfield 44, 3) := by decide +kernel
theorem dX2_tensionAt_20 : decode cX2_tensionAt 20 = .ok (.iconst (-1), 1) := by decide +kernel
theorem dX2_tensionAt_21 : decode cX2_tensionAt 21 = .ok (.if_icmp .ne 5, 3) := by decide +kernel
theorem dX2_tensionAt_24 : decode cX2_tensionAt 24 = .ok (.iload_n 2, 1) := by decide +kernel
theorem dX2_tensionAt_25 : decode cX2_tensionAt 25 = .ok (.ireturn, 1) := by decide +kernel
theorem dX2_tensionAt_26 : decode cX2_tensionAt 26 = .ok (.aload_n 0, 1) := by decide +kernel
theorem dX2_tensionAt_27 : decode cX2_tensionAt 27 = .ok (.getfield 12, 3) := by decide +kernel
theorem dX2_tensionAt_30 : decode cX2_tensionAt 30 = .ok (.iload_n 1, 1) := by decide +kernel
theorem dX2_tensionAt_31 : decode cX2_tensionAt 31 = .ok (.invokevirtual 101, 3) := by decide +kernel
theorem dX2_tensionAt_34 : decode cX2_tensionAt 34 = .ok (.aload_n 0, 1) := by decide +kernel
theorem dX2_tensionAt_35 : decode cX2_tensionAt 35 = .ok (.getfield 12, 3) := by decide +kernel
theorem dX2_tensionAt_38 : decode cX2_tensionAt 38 = .ok (.aload_n 0, 1) := by decide +kernel
theorem dX2_tensionAt_39 : decode cX2_tensionAt 39 = .ok (.getfield 44, 3) := by decide +kernel
theorem dX2_tensionAt_42 : decode cX2_tensionAt 42 = .ok (.invokevirtual 101, 3) := by decide +kernel
theorem dX2_tensionAt_45 : decode cX2_tensionAt 45 = .ok (.isub, 1) := by decide +kernel
theorem dX2_tensionAt_46 : decode cX2_tensionAt 46 = .ok (.invokestatic 120, 3) := by decide +kernel
theorem dX2_tensionAt_49 : decode cX2_tensionAt 49 = .ok (.istore_n 3, 1) := by decide +kernel
theorem dX2_tensionAt_50 : decode cX2_tensionAt 50 = .ok (.iload_n 2, 1) := by decide +kernel
theorem dX2_tensionAt_51 : decode cX2_tensionAt 51 = .ok (.iconst 2, 1) := by decide +kernel
theorem dX2_tensionAt_52 : decode cX2_tensionAt 52 = .ok (.iload_n 3, 1) := by decide +kernel
theorem dX2_tensionAt_53 : decode cX2_tensionAt 53 = .ok (.imul, 1) := by decide +kernel
theorem dX2_tensionAt_54 : decode cX2_tensionAt 54 = .ok (.iadd, 1) := by decide +kernel
theorem dX2_tensionAt_55 : decode cX2_tensionAt 55 = .ok (.ireturn, 1) := by decide +kernel
set_option maxRecDepth 20000 in
theorem ggX2_warmDiscs_X2_number : GoodIn wsX2_warmDiscs wsX2_number := goodIn_r _ [13, 14, 15, 16, 17, 18, 19, 20, 21, 22, 23, 24, 25] (by decide +kernel) (by decide +kernel)
set_option maxRecDepth 20000 in
theorem gX2_warmDiscs_X2_number : GoodIn wsX2_warmDiscs (wsV RX2 113 RX2 yX2_number wsX2_number) := goodIn_app (goodIn_of _ (by decide +kernel)) ggX2_warmDiscs_X2_number
theorem dX2_warmDiscs_0 : decode cX2_warmDiscs 0 = .ok (.aload_n 0, 1) := by decide +kernel
theorem dX2_warmDiscs_1 : decode cX2_warmDiscs 1 = .ok (.iconst 0, 1) := by decide +kernel
theorem dX2_warmDiscs_2 : decode cX2_warmDiscs 2 = .ok (.sipush 300, 3) := by decide +kernel
theorem dX2_warmDiscs_5 : decode cX2_warmDiscs 5 = .ok (.aload_n 0, 1) := by decide +kernel
theorem dX2_warmDiscs_6 : decode cX2_warmDiscs 6 = .ok (.getfield 37, 3) := by decide +kernel
theorem dX2_warmDiscs_9 : decode cX2_warmDiscs 9 = .ok (.aload_n 0, 1) := by decide +kernel
theorem dX2_warmDiscs_10 : decode cX2_warmDiscs 10 = .ok (.iconst 1, 1) := by decide +kernel
theorem dX2_warmDiscs_11 : decode cX2_warmDiscs 11 = .ok (.invokevirtual 113, 3) := by decide +kernel
theorem dX2_warmDiscs_14 : decode cX2_warmDiscs 14 = .ok (.iadd, 1) := by decide +kernel
theorem dX2_warmDiscs_15 : decode cX2_warmDiscs 15 = .ok (.iconst 1, 1) := by decide +kernel
theorem dX2_warmDiscs_16 : decode cX2_warmDiscs 16 = .ok (.isub, 1) := by decide +kernel
theorem dX2_warmDiscs_17 : decode cX2_warmDiscs 17 = .ok (.invokestatic 125, 3) := by decide +kernel
theorem dX2_warmDiscs_20 : decode cX2_warmDiscs 20 = .ok (.invokestatic 128, 3) := by decide +kernel
theorem dX2_warmDiscs_23 : decode cX2_warmDiscs 23 = .ok (.putfield 37, 3) := by decide +kernel
theorem dX2_warmDiscs_26 : decode cX2_warmDiscs 26 = .ok (.return_, 1) := by decide +kernel
set_option maxRecDepth 20000 in
theorem ggX2_tieKnot_X2_number : GoodIn wsX2_tieKnot wsX2_number := goodIn_r _ [9, 10, 11, 12, 13, 14, 15, 16, 17, 18, 19, 20, 21] (by decide +kernel) (by decide +kernel)
set_option maxRecDepth 20000 in
theorem gX2_tieKnot_X2_number : GoodIn wsX2_tieKnot (wsV RX2 113 RX2 yX2_number wsX2_number) := goodIn_app (goodIn_of _ (by decide +kernel)) ggX2_tieKnot_X2_number
theorem dX2_tieKnot_0 : decode cX2_tieKnot 0 = .ok (.aload_n 0, 1) := by decide +kernel
theorem dX2_tieKnot_1 : decode cX2_tieKnot 1 = .ok (.iconst 3, 1) := by decide +kernel
theorem dX2_tieKnot_2 : decode cX2_tieKnot 2 = .ok (.invokevirtual 113, 3) := by decide +kernel
theorem dX2_tieKnot_5 : decode cX2_tieKnot 5 = .ok (.istore_n 1, 1) := by decide +kernel
theorem dX2_tieKnot_6 : decode cX2_tieKnot 6 = .ok (.aload_n 0, 1) := by decide +kernel
theorem dX2_tieKnot_7 : decode cX2_tieKnot 7 = .ok (.getfield 33, 3) := by decide +kernel
theorem dX2_tieKnot_10 : decode cX2_tieKnot 10 = .ok (.iload_n 1, 1) := by decide +kernel
theorem dX2_tieKnot_11 : decode cX2_tieKnot 11 = .ok (.if_icmp .ge 6, 3) := by decide +kernel
theorem dX2_tieKnot_14 : decode cX2_tieKnot 14 = .ok (.bipush (-4), 2) := by decide +kernel
theorem dX2_tieKnot_16 : decode cX2_tieKnot 16 = .ok (.ireturn, 1) := by decide +kernel
theorem dX2_tieKnot_17 : decode cX2_tieKnot 17 = .ok (.aload_n 0, 1) := by decide +kernel
theorem dX2_tieKnot_18 : decode cX2_tieKnot 18 = .ok (.getfield 40, 3) := by decide +kernel
theorem dX2_tieKnot_21 : decode cX2_tieKnot 21 = .ok (.ifCond .eq 22, 3) := by decide +kernel
theorem dX2_tieKnot_24 : decode cX2_tieKnot 24 = .ok (.aload_n 0, 1) := by decide +kernel
theorem dX2_tieKnot_25 : decode cX2_tieKnot 25 = .ok (.getfield 44, 3) := by decide +kernel
theorem dX2_tieKnot_28 : decode cX2_tieKnot 28 = .ok (.ifCond .lt 15, 3) := by decide +kernel
theorem dX2_tieKnot_31 : decode cX2_tieKnot 31 = .ok (.aload_n 0, 1) := by decide +kernel
theorem dX2_tieKnot_32 : decode cX2_tieKnot 32 = .ok (.getfield 44, 3) := by decide +kernel
theorem dX2_tieKnot_35 : decode cX2_tieKnot 35 = .ok (.aload_n 0, 1) := by decide +kernel
theorem dX2_tieKnot_36 : decode cX2_tieKnot 36 = .ok (.getfield 18, 3) := by decide +kernel
theorem dX2_tieKnot_39 : decode cX2_tieKnot 39 = .ok (.arraylength, 1) := by decide +kernel
theorem dX2_tieKnot_40 : decode cX2_tieKnot 40 = .ok (.if_icmp .lt 6, 3) := by decide +kernel
theorem dX2_tieKnot_43 : decode cX2_tieKnot 43 = .ok (.bipush (-5), 2) := by decide +kernel
theorem dX2_tieKnot_45 : decode cX2_tieKnot 45 = .ok (.ireturn, 1) := by decide +kernel
theorem dX2_tieKnot_46 : decode cX2_tieKnot 46 = .ok (.aload_n 0, 1) := by decide +kernel
theorem dX2_tieKnot_47 : decode cX2_tieKnot 47 = .ok (.dup, 1) := by decide +kernel
theorem dX2_tieKnot_48 : decode cX2_tieKnot 48 = .ok (.getfield 33, 3) := by decide +kernel
theorem dX2_tieKnot_51 : decode cX2_tieKnot 51 = .ok (.iload_n 1, 1) := by decide +kernel
theorem dX2_tieKnot_52 : decode cX2_tieKnot 52 = .ok (.isub, 1) := by decide +kernel
theorem dX2_tieKnot_53 : decode cX2_tieKnot 53 = .ok (.putfield 33, 3) := by decide +kernel
theorem dX2_tieKnot_56 : decode cX2_tieKnot 56 = .ok (.aload_n 0, 1) := by decide +kernel
theorem dX2_tieKnot_57 : decode cX2_tieKnot 57 = .ok (.iconst 0, 1) := by decide +kernel
theorem dX2_tieKnot_58 : decode cX2_tieKnot 58 = .ok (.putfield 40, 3) := by decide +kernel
theorem dX2_tieKnot_61 : decode cX2_tieKnot 61 = .ok (.aload_n 0, 1) := by decide +kernel
theorem dX2_tieKnot_62 : decode cX2_tieKnot 62 = .ok (.getfield 18, 3) := by decide +kernel
theorem dX2_tieKnot_65 : decode cX2_tieKnot 65 = .ok (.aload_n 0, 1) := by decide +kernel
theorem dX2_tieKnot_66 : decode cX2_tieKnot 66 = .ok (.getfield 44, 3) := by decide +kernel
theorem dX2_tieKnot_69 : decode cX2_tieKnot 69 = .ok (.dup2, 1) := by decide +kernel
theorem dX2_tieKnot_70 : decode cX2_tieKnot 70 = .ok (.iaload, 1) := by decide +kernel
theorem dX2_tieKnot_71 : decode cX2_tieKnot 71 = .ok (.iconst 1, 1) := by decide +kernel
theorem dX2_tieKnot_72 : decode cX2_tieKnot 72 = .ok (.iadd, 1) := by decide +kernel
theorem dX2_tieKnot_73 : decode cX2_tieKnot 73 = .ok (.iastore, 1) := by decide +kernel
theorem dX2_tieKnot_74 : decode cX2_tieKnot 74 = .ok (.aload_n 0, 1) := by decide +kernel
theorem dX2_tieKnot_75 : decode cX2_tieKnot 75 = .ok (.getfield 18, 3) := by decide +kernel
theorem dX2_tieKnot_78 : decode cX2_tieKnot 78 = .ok (.aload_n 0, 1) := by decide +kernel
theorem dX2_tieKnot_79 : decode cX2_tieKnot 79 = .ok (.getfield 44, 3) := by decide +kernel
theorem dX2_tieKnot_82 : decode cX2_tieKnot 82 = .ok (.iaload, 1) := by decide +kernel
theorem dX2_tieKnot_83 : decode cX2_tieKnot 83 = .ok (.ireturn, 1) := by decide +kernel
set_option maxRecDepth 20000 in
theorem ggX2_changeCone_X4_inRange : GoodIn wsX2_changeCone wsX4_inRange := goodIn_r _ [6, 7, 8, 5, 9, 10, 11, 12, 13, 14] (by decide +kernel) (by decide +kernel)
set_option maxRecDepth 20000 in
theorem gX2_changeCone_X4_inRange_n84 : GoodIn wsX2_changeCone (wsX4_inRange) := ggX2_changeCone_X4_inRange
theorem dX2_changeCone_0 : decode cX2_changeCone 0 = .ok (.bipush 6, 2) := by decide +kernel
theorem dX2_changeCone_2 : decode cX2_changeCone 2 = .ok (.iload_n 1, 1) := by decide +kernel
theorem dX2_changeCone_3 : decode cX2_changeCone 3 = .ok (.invokestatic 84, 3) := by decide +kernel
theorem dX2_changeCone_6 : decode cX2_changeCone 6 = .ok (.ifCond .ne 6, 3) := by decide +kernel
theorem dX2_changeCone_9 : decode cX2_changeCone 9 = .ok (.bipush (-2), 2) := by decide +kernel
theorem dX2_changeCone_11 : decode cX2_changeCone 11 = .ok (.ireturn, 1) := by decide +kernel
theorem dX2_changeCone_12 : decode cX2_changeCone 12 = .ok (.aload_n 0, 1) := by decide +kernel
theorem dX2_changeCone_13 : decode cX2_changeCone 13 = .ok (.getfield 33, 3) := by decide +kernel
theorem dX2_changeCone_16 : decode cX2_changeCone 16 = .ok (.istore_n 2, 1) := by decide +kernel
theorem dX2_changeCone_17 : decode cX2_changeCone 17 = .ok (.aload_n 0, 1) := by decide +kernel
theorem dX2_changeCone_18 : decode cX2_changeCone 18 = .ok (.iload_n 1, 1) := by decide +kernel
theorem dX2_changeCone_19 : decode cX2_changeCone 19 = .ok (.putfield 33, 3) := by decide +kernel
theorem dX2_changeCone_22 : decode cX2_changeCone 22 = .ok (.aload_n 0, 1) := by decide +kernel
theorem dX2_changeCone_23 : decode cX2_changeCone 23 = .ok (.aload_n 0, 1) := by decide +kernel
theorem dX2_changeCone_24 : decode cX2_changeCone 24 = .ok (.getfield 12, 3) := by decide +kernel
theorem dX2_changeCone_27 : decode cX2_changeCone 27 = .ok (.getfield 92, 3) := by decide +kernel
theorem dX2_changeCone_30 : decode cX2_changeCone 30 = .ok (.ifCond .le 7, 3) := by decide +kernel
theorem dX2_changeCone_33 : decode cX2_changeCone 33 = .ok (.iconst 1, 1) := by decide +kernel
theorem dX2_changeCone_34 : decode cX2_changeCone 34 = .ok (.goto 4, 3) := by decide +kernel
theorem dX2_changeCone_37 : decode cX2_changeCone 37 = .ok (.iconst 0, 1) := by decide +kernel
theorem dX2_changeCone_38 : decode cX2_changeCone 38 = .ok (.putfield 40, 3) := by decide +kernel
theorem dX2_changeCone_41 : decode cX2_changeCone 41 = .ok (.iload_n 2, 1) := by decide +kernel
theorem dX2_changeCone_42 : decode cX2_changeCone 42 = .ok (.ireturn, 1) := by decide +kernel
set_option maxRecDepth 20000 in
theorem ggX2_takePackageOff_X3_clear : GoodIn wsX2_takePackageOff wsX3_clear := goodIn_r _ [10, 11, 12, 13, 14, 15, 16, 17, 18, 31, 32, 33, 34] (by decide +kernel) (by decide +kernel)
set_option maxRecDepth 20000 in
theorem gX2_takePackageOff_X3_clear_n131 : GoodIn wsX2_takePackageOff (wsX3_clear) := ggX2_takePackageOff_X3_clear
set_option maxRecDepth 20000 in
theorem ggX2_takePackageOff_J7_fill_53178 : GoodIn wsX2_takePackageOff wsJ7_fill_53178 := goodIn_r _ [18] (by decide +kernel) (by decide +kernel)
set_option maxRecDepth 20000 in
theorem gX2_takePackageOff_J7_fill_53178 : GoodIn wsX2_takePackageOff (va_wsS RX2 134 yJ7_fill_53178 wsJ7_fill_53178) := goodIn_app (goodIn_of _ (by decide +kernel)) ggX2_takePackageOff_J7_fill_53178
theorem dX2_takePackageOff_0 : decode cX2_takePackageOff 0 = .ok (.aload_n 0, 1) := by decide +kernel
theorem dX2_takePackageOff_1 : decode cX2_takePackageOff 1 = .ok (.getfield 12, 3) := by decide +kernel
theorem dX2_takePackageOff_4 : decode cX2_takePackageOff 4 = .ok (.getfield 92, 3) := by decide +kernel
theorem dX2_takePackageOff_7 : decode cX2_takePackageOff 7 = .ok (.istore_n 1, 1) := by decide +kernel
theorem dX2_takePackageOff_8 : decode cX2_takePackageOff 8 = .ok (.iload_n 1, 1) := by decide +kernel
theorem dX2_takePackageOff_9 : decode cX2_takePackageOff 9 = .ok (.ifCond .ne 6, 3) := by decide +kernel
theorem dX2_takePackageOff_12 : decode cX2_takePackageOff 12 = .ok (.bipush (-5), 2) := by decide +kernel
theorem dX2_takePackageOff_14 : decode cX2_takePackageOff 14 = .ok (.ireturn, 1) := by decide +kernel
theorem dX2_takePackageOff_15 : decode cX2_takePackageOff 15 = .ok (.aload_n 0, 1) := by decide +kernel
theorem dX2_takePackageOff_16 : decode cX2_takePackageOff 16 = .ok (.getfield 12, 3) := by decide +kernel
theorem dX2_takePackageOff_19 : decode cX2_takePackageOff 19 = .ok (.invokevirtual 131, 3) := by decide +kernel
theorem dX2_takePackageOff_22 : decode cX2_takePackageOff 22 = .ok (.aload_n 0, 1) := by decide +kernel
theorem dX2_takePackageOff_23 : decode cX2_takePackageOff 23 = .ok (.getfield 18, 3) := by decide +kernel
theorem dX2_takePackageOff_26 : decode cX2_takePackageOff 26 = .ok (.iconst 0, 1) := by decide +kernel
theorem dX2_takePackageOff_27 : decode cX2_takePackageOff 27 = .ok (.invokestatic 134, 3) := by decide +kernel
theorem dX2_takePackageOff_30 : decode cX2_takePackageOff 30 = .ok (.aload_n 0, 1) := by decide +kernel
theorem dX2_takePackageOff_31 : decode cX2_takePackageOff 31 = .ok (.iconst 0, 1) := by decide +kernel
theorem dX2_takePackageOff_32 : decode cX2_takePackageOff 32 = .ok (.putfield 40, 3) := by decide +kernel
theorem dX2_takePackageOff_35 : decode cX2_takePackageOff 35 = .ok (.aload_n 0, 1) := by decide +kernel
theorem dX2_takePackageOff_36 : decode cX2_takePackageOff 36 = .ok (.iconst (-1), 1) := by decide +kernel
theorem dX2_takePackageOff_37 : decode cX2_takePackageOff 37 = .ok (.putfield 44, 3) := by decide +kernel
theorem dX2_takePackageOff_40 : decode cX2_takePackageOff 40 = .ok (.aload_n 0, 1) := by decide +kernel
theorem dX2_takePackageOff_41 : decode cX2_takePackageOff 41 = .ok (.iconst 0, 1) := by decide +kernel
theorem dX2_takePackageOff_42 : decode cX2_takePackageOff 42 = .ok (.putfield 47, 3) := by decide +kernel
theorem dX2_takePackageOff_45 : decode cX2_takePackageOff 45 = .ok (.aload_n 0, 1) := by decide +kernel
theorem dX2_takePackageOff_46 : decode cX2_takePackageOff 46 = .ok (.dup, 1) := by decide +kernel
theorem dX2_takePackageOff_47 : decode cX2_takePackageOff 47 = .ok (.getfield 56, 3) := by decide +kernel
theorem dX2_takePackageOff_50 : decode cX2_takePackageOff 50 = .ok (.iconst 1, 1) := by decide +kernel
theorem dX2_takePackageOff_51 : decode cX2_takePackageOff 51 = .ok (.iadd, 1) := by decide +kernel
theorem dX2_takePackageOff_52 : decode cX2_takePackageOff 52 = .ok (.putfield 56, 3) := by decide +kernel
theorem dX2_takePackageOff_55 : decode cX2_takePackageOff 55 = .ok (.iload_n 1, 1) := by decide +kernel
theorem dX2_takePackageOff_56 : decode cX2_takePackageOff 56 = .ok (.ireturn, 1) := by decide +kernel
set_option maxRecDepth 20000 in
theorem ggX2_isIdle_X2_isConeEmpty : GoodIn wsX2_isIdle wsX2_isConeEmpty := goodIn_r _ [7, 8, 14, 15, 16, 17, 18, 19, 20, 21, 22, 23, 24] (by decide +kernel) (by decide +kernel)
set_option maxRecDepth 20000 in
theorem gX2_isIdle_X2_isConeEmpty : GoodIn wsX2_isIdle (wsV RX2 140 RX2 yX2_isConeEmpty wsX2_isConeEmpty) := goodIn_app (goodIn_of _ (by decide +kernel)) ggX2_isIdle_X2_isConeEmpty
set_option maxRecDepth 20000 in
theorem ggX2_isIdle_X3_isFull : GoodIn wsX2_isIdle wsX3_isFull := goodIn_r _ [12, 13, 25, 26, 27, 28] (by decide +kernel) (by decide +kernel)
set_option maxRecDepth 20000 in
theorem gX2_isIdle_X3_isFull_n143 : GoodIn wsX2_isIdle (wsX3_isFull) := ggX2_isIdle_X3_isFull
theorem dX2_isIdle_0 : decode cX2_isIdle 0 = .ok (.aload_n 0, 1) := by decide +kernel
theorem dX2_isIdle_1 : decode cX2_isIdle 1 = .ok (.getfield 40, 3) := by decide +kernel
theorem dX2_isIdle_4 : decode cX2_isIdle 4 = .ok (.ifCond .ne 20, 3) := by decide +kernel
theorem dX2_isIdle_7 : decode cX2_isIdle 7 = .ok (.aload_n 0, 1) := by decide +kernel
theorem dX2_isIdle_8 : decode cX2_isIdle 8 = .ok (.invokevirtual 140, 3) := by decide +kernel
theorem dX2_isIdle_11 : decode cX2_isIdle 11 = .ok (.ifCond .ne 13, 3) := by decide +kernel
theorem dX2_isIdle_14 : decode cX2_isIdle 14 = .ok (.aload_n 0, 1) := by decide +kernel
theorem dX2_isIdle_15 : decode cX2_isIdle 15 = .ok (.getfield 12, 3) := by decide +kernel
theorem dX2_isIdle_18 : decode cX2_isIdle 18 = .ok (.invokevirtual 143, 3) := by decide +kernel
theorem dX2_isIdle_21 : decode cX2_isIdle 21 = .ok (.ifCond .eq 7, 3) := by decide +kernel
theorem dX2_isIdle_24 : decode cX2_isIdle 24 = .ok (.iconst 1, 1) := by decide +kernel
theorem dX2_isIdle_25 : decode cX2_isIdle 25 = .ok (.goto 4, 3) := by decide +kernel
theorem dX2_isIdle_28 : decode cX2_isIdle 28 = .ok (.iconst 0, 1) := by decide +kernel
theorem dX2_isIdle_29 : decode cX2_isIdle 29 = .ok (.ireturn, 1) := by decide +kernel
theorem dX2_isConeEmpty_0 : decode cX2_isConeEmpty 0 = .ok (.aload_n 0, 1) := by decide +kernel
theorem dX2_isConeEmpty_1 : decode cX2_isConeEmpty 1 = .ok (.getfield 33, 3) := by decide +kernel
theorem dX2_isConeEmpty_4 : decode cX2_isConeEmpty 4 = .ok (.ifCond .ne 7, 3) := by decide +kernel
theorem dX2_isConeEmpty_7 : decode cX2_isConeEmpty 7 = .ok (.iconst 1, 1) := by decide +kernel
theorem dX2_isConeEmpty_8 : decode cX2_isConeEmpty 8 = .ok (.goto 4, 3) := by decide +kernel
theorem dX2_isConeEmpty_11 : decode cX2_isConeEmpty 11 = .ok (.iconst 0, 1) := by decide +kernel
theorem dX2_isConeEmpty_12 : decode cX2_isConeEmpty 12 = .ok (.ireturn, 1) := by decide +kernel
theorem dX2_number_0 : decode cX2_number 0 = .ok (.iload_n 1, 1) := by decide +kernel
theorem dX2_number_1 : decode cX2_number 1 = .ok (.ifCond .lt 21, 3) := by decide +kernel
theorem dX2_number_4 : decode cX2_number 4 = .ok (.iload_n 1, 1) := by decide +kernel
theorem dX2_number_5 : decode cX2_number 5 = .ok (.aload_n 0, 1) := by decide +kernel
theorem dX2_number_6 : decode cX2_number 6 = .ok (.getfield 30, 3) := by decide +kernel
theorem dX2_number_9 : decode cX2_number 9 = .ok (.arraylength, 1) := by decide +kernel
theorem dX2_number_10 : decode cX2_number 10 = .ok (.if_icmp .ge 12, 3) := by decide +kernel
theorem dX2_number_13 : decode cX2_number 13 = .ok (.aload_n 0, 1) := by decide +kernel
theorem dX2_number_14 : decode cX2_number 14 = .ok (.getfield 30, 3) := by decide +kernel
theorem dX2_number_17 : decode cX2_number 17 = .ok (.iload_n 1, 1) := by decide +kernel
theorem dX2_number_18 : decode cX2_number 18 = .ok (.iaload, 1) := by decide +kernel
theorem dX2_number_19 : decode cX2_number 19 = .ok (.goto 4, 3) := by decide +kernel
theorem dX2_number_22 : decode cX2_number 22 = .ok (.iconst 0, 1) := by decide +kernel
theorem dX2_number_23 : decode cX2_number 23 = .ok (.ireturn, 1) := by decide +kernel
theorem dX2_knotsAt_0 : decode cX2_knotsAt 0 = .ok (.iload_n 1, 1) := by decide +kernel
theorem dX2_knotsAt_1 : decode cX2_knotsAt 1 = .ok (.ifCond .lt 21, 3) := by decide +kernel
theorem dX2_knotsAt_4 : decode cX2_knotsAt 4 = .ok (.iload_n 1, 1) := by decide +kernel
theorem dX2_knotsAt_5 : decode cX2_knotsAt 5 = .ok (.aload_n 0, 1) := by decide +kernel
theorem dX2_knotsAt_6 : decode cX2_knotsAt 6 = .ok (.getfield 18, 3) := by decide +kernel
theorem dX2_knotsAt_9 : decode cX2_knotsAt 9 = .ok (.arraylength, 1) := by decide +kernel
theorem dX2_knotsAt_10 : decode cX2_knotsAt 10 = .ok (.if_icmp .ge 12, 3) := by decide +kernel
theorem dX2_knotsAt_13 : decode cX2_knotsAt 13 = .ok (.aload_n 0, 1) := by decide +kernel
theorem dX2_knotsAt_14 : decode cX2_knotsAt 14 = .ok (.getfield 18, 3) := by decide +kernel
theorem dX2_knotsAt_17 : decode cX2_knotsAt 17 = .ok (.iload_n 1, 1) := by decide +kernel
theorem dX2_knotsAt_18 : decode cX2_knotsAt 18 = .ok (.iaload, 1) := by decide +kernel
theorem dX2_knotsAt_19 : decode cX2_knotsAt 19 = .ok (.goto 4, 3) := by decide +kernel
theorem dX2_knotsAt_22 : decode cX2_knotsAt 22 = .ok (.iconst 0, 1) := by decide +kernel
theorem dX2_knotsAt_23 : decode cX2_knotsAt 23 = .ok (.ireturn, 1) := by decide +kernel
set_option maxRecDepth 20000 in
theorem ggX2_isBad_X2_knotsAt : GoodIn wsX2_isBad wsX2_knotsAt := goodIn_r _ [5, 6, 7, 8, 9, 10, 11, 12, 13, 14, 15, 16, 17] (by decide +kernel) (by decide +kernel)
set_option maxRecDepth 20000 in
theorem gX2_isBad_X2_knotsAt : GoodIn wsX2_isBad (wsV RX2 146 RX2 yX2_knotsAt wsX2_knotsAt) := goodIn_app (goodIn_of _ (by decide +kernel)) ggX2_isBad_X2_knotsAt
theorem dX2_isBad_0 : decode cX2_isBad 0 = .ok (.aload_n 0, 1) := by decide +kernel
theorem dX2_isBad_1 : decode cX2_isBad 1 = .ok (.iload_n 1, 1) := by decide +kernel
theorem dX2_isBad_2 : decode cX2_isBad 2 = .ok (.invokevirtual 146, 3) := by decide +kernel
theorem dX2_isBad_5 : decode cX2_isBad 5 = .ok (.iconst 2, 1) := by decide +kernel
theorem dX2_isBad_6 : decode cX2_isBad 6 = .ok (.if_icmp .le 7, 3) := by decide +kernel
theorem dX2_isBad_9 : decode cX2_isBad 9 = .ok (.iconst 1, 1) := by decide +kernel
theorem dX2_isBad_10 : decode cX2_isBad 10 = .ok (.goto 4, 3) := by decide +kernel
theorem dX2_isBad_13 : decode cX2_isBad 13 = .ok (.iconst 0, 1) := by decide +kernel
theorem dX2_isBad_14 : decode cX2_isBad 14 = .ok (.ireturn, 1) := by decide +kernel
set_option maxRecDepth 20000 in
theorem ggX2_hasBadPlace_X2_isBad : GoodIn wsX2_hasBadPlace wsX2_isBad := goodIn_r _ [5, 6, 7, 8, 4, 9, 10, 11, 12, 13, 14, 15, 16, 17, 18, 19, 20, 21] (by decide +kernel) (by decide +kernel)
set_option maxRecDepth 20000 in
theorem gX2_hasBadPlace_X2_isBad : GoodIn wsX2_hasBadPlace (wsV RX2 149 RX2 yX2_isBad wsX2_isBad) := goodIn_app (goodIn_of _ (by decide +kernel)) ggX2_hasBadPlace_X2_isBad
theorem dX2_hasBadPlace_0 : decode cX2_hasBadPlace 0 = .ok (.iconst 0, 1) := by decide +kernel
theorem dX2_hasBadPlace_1 : decode cX2_hasBadPlace 1 = .ok (.istore_n 1, 1) := by decide +kernel
theorem dX2_hasBadPlace_2 : decode cX2_hasBadPlace 2 = .ok (.iconst 0, 1) := by decide +kernel
theorem dX2_hasBadPlace_3 : decode cX2_hasBadPlace 3 = .ok (.istore_n 2, 1) := by decide +kernel
theorem dX2_hasBadPlace_4 : decode cX2_hasBadPlace 4 = .ok (.iload_n 2, 1) := by decide +kernel
theorem dX2_hasBadPlace_5 : decode cX2_hasBadPlace 5 = .ok (.bipush 12, 2) := by decide +kernel
theorem dX2_hasBadPlace_7 : decode cX2_hasBadPlace 7 = .ok (.if_icmp .ge 27, 3) := by decide +kernel
theorem dX2_hasBadPlace_10 : decode cX2_hasBadPlace 10 = .ok (.iload_n 1, 1) := by decide +kernel
theorem dX2_hasBadPlace_11 : decode cX2_hasBadPlace 11 = .ok (.ifCond .ne 11, 3) := by decide +kernel
theorem dX2_hasBadPlace_14 : decode cX2_hasBadPlace 14 = .ok (.aload_n 0, 1) := by decide +kernel
theorem dX2_hasBadPlace_15 : decode cX2_hasBadPlace 15 = .ok (.iload_n 2, 1) := by decide +kernel
theorem dX2_hasBadPlace_16 : decode cX2_hasBadPlace 16 = .ok (.invokevirtual 149, 3) := by decide +kernel
theorem dX2_hasBadPlace_19 : decode cX2_hasBadPlace 19 = .ok (.ifCond .eq 7, 3) := by decide +kernel
theorem dX2_hasBadPlace_22 : decode cX2_hasBadPlace 22 = .ok (.iconst 1, 1) := by decide +kernel
theorem dX2_hasBadPlace_23 : decode cX2_hasBadPlace 23 = .ok (.goto 4, 3) := by decide +kernel
theorem dX2_hasBadPlace_26 : decode cX2_hasBadPlace 26 = .ok (.iconst 0, 1) := by decide +kernel
theorem dX2_hasBadPlace_27 : decode cX2_hasBadPlace 27 = .ok (.istore_n 1, 1) := by decide +kernel
theorem dX2_hasBadPlace_28 : decode cX2_hasBadPlace 28 = .ok (.iinc 2 1, 3) := by decide +kernel
theorem dX2_hasBadPlace_31 : decode cX2_hasBadPlace 31 = .ok (.goto (-27), 3) := by decide +kernel
theorem dX2_hasBadPlace_34 : decode cX2_hasBadPlace 34 = .ok (.iload_n 1, 1) := by decide +kernel
theorem dX2_hasBadPlace_35 : decode cX2_hasBadPlace 35 = .ok (.ireturn, 1) := by decide +kernel
theorem dX2_allKnots_0 : decode cX2_allKnots 0 = .ok (.iconst 0, 1) := by decide +kernel
theorem dX2_allKnots_1 : decode cX2_allKnots 1 = .ok (.istore_n 1, 1) := by decide +kernel
theorem dX2_allKnots_2 : decode cX2_allKnots 2 = .ok (.aload_n 0, 1) := by decide +kernel
theorem dX2_allKnots_3 : decode cX2_allKnots 3 = .ok (.getfield 18, 3) := by decide +kernel
theorem dX2_allKnots_6 : decode cX2_allKnots 6 = .ok (.astore_n 2, 1) := by decide +kernel
theorem dX2_allKnots_7 : decode cX2_allKnots 7 = .ok (.aload_n 2, 1) := by decide +kernel
theorem dX2_allKnots_8 : decode cX2_allKnots 8 = .ok (.arraylength, 1) := by decide +kernel
theorem dX2_allKnots_9 : decode cX2_allKnots 9 = .ok (.istore_n 3, 1) := by decide +kernel
theorem dX2_allKnots_10 : decode cX2_allKnots 10 = .ok (.iconst 0, 1) := by decide +kernel
theorem dX2_allKnots_11 : decode cX2_allKnots 11 = .ok (.istore 4, 2) := by decide +kernel
theorem dX2_allKnots_13 : decode cX2_allKnots 13 = .ok (.iload 4, 2) := by decide +kernel
theorem dX2_allKnots_15 : decode cX2_allKnots 15 = .ok (.iload_n 3, 1) := by decide +kernel
theorem dX2_allKnots_16 : decode cX2_allKnots 16 = .ok (.if_icmp .ge 20, 3) := by decide +kernel
theorem dX2_allKnots_19 : decode cX2_allKnots 19 = .ok (.aload_n 2, 1) := by decide +kernel
theorem dX2_allKnots_20 : decode cX2_allKnots 20 = .ok (.iload 4, 2) := by decide +kernel
theorem dX2_allKnots_22 : decode cX2_allKnots 22 = .ok (.iaload, 1) := by decide +kernel
theorem dX2_allKnots_23 : decode cX2_allKnots 23 = .ok (.istore 5, 2) := by decide +kernel
theorem dX2_allKnots_25 : decode cX2_allKnots 25 = .ok (.iload_n 1, 1) := by decide +kernel
theorem dX2_allKnots_26 : decode cX2_allKnots 26 = .ok (.iload 5, 2) := by decide +kernel
theorem dX2_allKnots_28 : decode cX2_allKnots 28 = .ok (.iadd, 1) := by decide +kernel
theorem dX2_allKnots_29 : decode cX2_allKnots 29 = .ok (.istore_n 1, 1) := by decide +kernel
theorem dX2_allKnots_30 : decode cX2_allKnots 30 = .ok (.iinc 4 1, 3) := by decide +kernel
theorem dX2_allKnots_33 : decode cX2_allKnots 33 = .ok (.goto (-20), 3) := by decide +kernel
theorem dX2_allKnots_36 : decode cX2_allKnots 36 = .ok (.iload_n 1, 1) := by decide +kernel
theorem dX2_allKnots_37 : decode cX2_allKnots 37 = .ok (.ireturn, 1) := by decide +kernel
