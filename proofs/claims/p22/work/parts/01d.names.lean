set_option maxRecDepth 20000 in
theorem ggX4_init_X2_init : GoodIn wsX4_init wsX2_init := goodIn_r _ [25, 26, 2, 3, 27, 11, 12, 28, 29, 30, 31, 32, 33, 34, 35, 36, 37, 38, 39, 40, 41, 42, 43, 44, 45, 46, 47, 48, 49, 50, 51, 52, 90, 91, 92, 93, 71, 72, 73, 74, 75, 76, 77, 78, 79, 80, 81] (by decide +kernel) (by decide +kernel)
set_option maxRecDepth 20000 in
theorem gX4_init_X2_init_n11 : GoodIn wsX4_init (wsX2_init) := ggX4_init_X2_init
set_option maxRecDepth 20000 in
theorem ggX4_init_X3_init : GoodIn wsX4_init wsX3_init := goodIn_r _ [47, 48, 2, 3, 29, 49, 50, 51, 52, 90, 91, 92, 93] (by decide +kernel) (by decide +kernel)
set_option maxRecDepth 20000 in
theorem gX4_init_X3_init_n24 : GoodIn wsX4_init (wsX3_init) := ggX4_init_X3_init
set_option maxRecDepth 20000 in
theorem ggX4_init_X1_init : GoodIn wsX4_init wsX1_init := goodIn_r _ [54, 55, 2, 3, 56, 57, 58, 59, 5, 6, 24, 25, 26, 27, 11, 12, 28, 29, 30, 31, 32, 33, 34, 35, 36, 37, 38, 39, 40, 41, 42, 43, 44, 45, 46, 47, 48, 49, 50, 51, 52, 94, 95, 96, 71, 72, 73, 74, 75, 76, 77, 78, 79, 80, 81, 90, 91, 92, 93] (by decide +kernel) (by decide +kernel)
set_option maxRecDepth 20000 in
theorem gX4_init_X1_init_n31 : GoodIn wsX4_init (wsX1_init) := ggX4_init_X1_init
set_option maxRecDepth 20000 in
theorem ggX4_init_X0_init : GoodIn wsX4_init wsX0_init := goodIn_r _ [61, 62, 2, 3, 63, 64, 29, 65, 66, 67, 68, 69, 70, 97, 98, 99, 100, 101, 102, 103] (by decide +kernel) (by decide +kernel)
set_option maxRecDepth 20000 in
theorem gX4_init_X0_init_n38 : GoodIn wsX4_init (wsX0_init) := ggX4_init_X0_init
theorem dX4_init_0 : decode cX4_init 0 = .ok (.aload_n 0, 1) := by decide +kernel
theorem dX4_init_1 : decode cX4_init 1 = .ok (.invokespecial 3, 3) := by decide +kernel
theorem dX4_init_4 : decode cX4_init 4 = .ok (.aload_n 0, 1) := by decide +kernel
theorem dX4_init_5 : decode cX4_init 5 = .ok (.new 9, 3) := by decide +kernel
theorem dX4_init_8 : decode cX4_init 8 = .ok (.dup, 1) := by decide +kernel
theorem dX4_init_9 : decode cX4_init 9 = .ok (.invokespecial 11, 3) := by decide +kernel
theorem dX4_init_12 : decode cX4_init 12 = .ok (.putfield 12, 3) := by decide +kernel
theorem dX4_init_15 : decode cX4_init 15 = .ok (.aload_n 0, 1) := by decide +kernel
theorem dX4_init_16 : decode cX4_init 16 = .ok (.new 9, 3) := by decide +kernel
theorem dX4_init_19 : decode cX4_init 19 = .ok (.dup, 1) := by decide +kernel
theorem dX4_init_20 : decode cX4_init 20 = .ok (.invokespecial 11, 3) := by decide +kernel
theorem dX4_init_23 : decode cX4_init 23 = .ok (.putfield 16, 3) := by decide +kernel
theorem dX4_init_26 : decode cX4_init 26 = .ok (.aload_n 0, 1) := by decide +kernel
theorem dX4_init_27 : decode cX4_init 27 = .ok (.new 9, 3) := by decide +kernel
theorem dX4_init_30 : decode cX4_init 30 = .ok (.dup, 1) := by decide +kernel
theorem dX4_init_31 : decode cX4_init 31 = .ok (.invokespecial 11, 3) := by decide +kernel
theorem dX4_init_34 : decode cX4_init 34 = .ok (.putfield 19, 3) := by decide +kernel
theorem dX4_init_37 : decode cX4_init 37 = .ok (.aload_n 0, 1) := by decide +kernel
theorem dX4_init_38 : decode cX4_init 38 = .ok (.new 22, 3) := by decide +kernel
theorem dX4_init_41 : decode cX4_init 41 = .ok (.dup, 1) := by decide +kernel
theorem dX4_init_42 : decode cX4_init 42 = .ok (.invokespecial 24, 3) := by decide +kernel
theorem dX4_init_45 : decode cX4_init 45 = .ok (.putfield 25, 3) := by decide +kernel
theorem dX4_init_48 : decode cX4_init 48 = .ok (.aload_n 0, 1) := by decide +kernel
theorem dX4_init_49 : decode cX4_init 49 = .ok (.new 29, 3) := by decide +kernel
theorem dX4_init_52 : decode cX4_init 52 = .ok (.dup, 1) := by decide +kernel
theorem dX4_init_53 : decode cX4_init 53 = .ok (.invokespecial 31, 3) := by decide +kernel
theorem dX4_init_56 : decode cX4_init 56 = .ok (.putfield 32, 3) := by decide +kernel
theorem dX4_init_59 : decode cX4_init 59 = .ok (.aload_n 0, 1) := by decide +kernel
theorem dX4_init_60 : decode cX4_init 60 = .ok (.new 36, 3) := by decide +kernel
theorem dX4_init_63 : decode cX4_init 63 = .ok (.dup, 1) := by decide +kernel
theorem dX4_init_64 : decode cX4_init 64 = .ok (.invokespecial 38, 3) := by decide +kernel
theorem dX4_init_67 : decode cX4_init 67 = .ok (.putfield 39, 3) := by decide +kernel
theorem dX4_init_70 : decode cX4_init 70 = .ok (.aload_n 0, 1) := by decide +kernel
theorem dX4_init_71 : decode cX4_init 71 = .ok (.iconst 0, 1) := by decide +kernel
theorem dX4_init_72 : decode cX4_init 72 = .ok (.putfield 43, 3) := by decide +kernel
theorem dX4_init_75 : decode cX4_init 75 = .ok (.aload_n 0, 1) := by decide +kernel
theorem dX4_init_76 : decode cX4_init 76 = .ok (.bipush (-5), 2) := by decide +kernel
theorem dX4_init_78 : decode cX4_init 78 = .ok (.putfield 47, 3) := by decide +kernel
theorem dX4_init_81 : decode cX4_init 81 = .ok (.return_, 1) := by decide +kernel
set_option maxRecDepth 20000 in
theorem ggX4_set_X2_copyFrom : GoodIn wsX4_set wsX2_copyFrom := goodIn_r _ [6, 7, 8, 9, 10, 11, 12, 13, 14, 15, 16, 17, 18, 19, 20, 21, 22, 23, 24, 25, 26, 27, 28, 29, 30, 73, 74, 75, 76, 77, 78, 79, 80, 81, 82, 83, 84, 85, 86, 87] (by decide +kernel) (by decide +kernel)
set_option maxRecDepth 20000 in
theorem gX4_set_X2_copyFrom_n51 : GoodIn wsX4_set (wsX2_copyFrom) := ggX4_set_X2_copyFrom
set_option maxRecDepth 20000 in
theorem ggX4_set_X2_changeNumber : GoodIn wsX4_set wsX2_changeNumber := goodIn_r _ [33, 13, 34, 35, 36, 37, 38, 39, 40, 41, 42, 43, 44, 73, 74, 75, 76, 77, 78, 79, 80, 81, 82, 83] (by decide +kernel) (by decide +kernel)
set_option maxRecDepth 20000 in
theorem gX4_set_X2_changeNumber_n55 : GoodIn wsX4_set (wsX2_changeNumber) := ggX4_set_X2_changeNumber
set_option maxRecDepth 20000 in
theorem ggX4_set_X4_finishAct : GoodIn wsX4_set wsX4_finishAct := goodIn_r _ [48, 49, 2, 1, 50, 51, 52, 53, 54, 55, 56, 57, 58, 59, 60, 61, 62, 63, 64, 3, 4, 5, 6, 7, 8, 9, 10, 11, 12, 13, 14, 15, 16, 17, 18, 19, 20, 21, 22, 23, 24, 25, 26, 27, 28, 29, 30, 65, 66, 67, 68, 69, 70, 71, 72, 88, 89, 90, 73, 74, 75, 76, 77, 78, 79, 80, 81, 82, 83, 84, 85, 86, 87] (by decide +kernel) (by decide +kernel)
set_option maxRecDepth 20000 in
theorem gX4_set_X4_finishAct : GoodIn wsX4_set (wsV RX4 59 RX4 yX4_finishAct wsX4_finishAct) := goodIn_app (goodIn_of _ (by decide +kernel)) ggX4_set_X4_finishAct
theorem dX4_set_0 : decode cX4_set 0 = .ok (.aload_n 0, 1) := by decide +kernel
theorem dX4_set_1 : decode cX4_set 1 = .ok (.getfield 16, 3) := by decide +kernel
theorem dX4_set_4 : decode cX4_set 4 = .ok (.aload_n 0, 1) := by decide +kernel
theorem dX4_set_5 : decode cX4_set 5 = .ok (.getfield 12, 3) := by decide +kernel
theorem dX4_set_8 : decode cX4_set 8 = .ok (.invokevirtual 51, 3) := by decide +kernel
theorem dX4_set_11 : decode cX4_set 11 = .ok (.aload_n 0, 1) := by decide +kernel
theorem dX4_set_12 : decode cX4_set 12 = .ok (.aload_n 0, 1) := by decide +kernel
theorem dX4_set_13 : decode cX4_set 13 = .ok (.getfield 16, 3) := by decide +kernel
theorem dX4_set_16 : decode cX4_set 16 = .ok (.iload_n 1, 1) := by decide +kernel
theorem dX4_set_17 : decode cX4_set 17 = .ok (.iload_n 2, 1) := by decide +kernel
theorem dX4_set_18 : decode cX4_set 18 = .ok (.invokevirtual 55, 3) := by decide +kernel
theorem dX4_set_21 : decode cX4_set 21 = .ok (.invokevirtual 59, 3) := by decide +kernel
theorem dX4_set_24 : decode cX4_set 24 = .ok (.ireturn, 1) := by decide +kernel
set_option maxRecDepth 20000 in
theorem ggX4_wind_X2_copyFrom : GoodIn wsX4_wind wsX2_copyFrom := goodIn_r _ [6, 7, 8, 9, 10, 11, 12, 13, 14, 15, 16, 17, 18, 19, 20, 21, 22, 23, 24, 25, 26, 27, 28, 29, 30, 123, 124, 125, 126, 127, 128, 129, 130, 131, 132, 133, 134, 135, 136, 137] (by decide +kernel) (by decide +kernel)
set_option maxRecDepth 20000 in
theorem gX4_wind_X2_copyFrom_n51 : GoodIn wsX4_wind (wsX2_copyFrom) := ggX4_wind_X2_copyFrom
set_option maxRecDepth 20000 in
theorem ggX4_wind_X2_turnOften : GoodIn wsX4_wind wsX2_turnOften := goodIn_r _ [33, 7, 34, 35, 36, 37, 38, 39, 40, 41, 42, 43, 44, 45, 46, 47, 4, 48, 16, 49, 50, 51, 52, 14, 53, 23, 54, 55, 29, 56, 57, 58, 59, 19, 18, 17, 20, 60, 61, 62, 30, 63, 64, 65, 26, 66, 67, 68, 28, 69, 70, 71, 72, 73, 74, 75, 76, 77, 15, 78, 79, 80, 81, 82, 83, 84, 13, 85, 86, 87, 88, 89, 90, 91, 92, 93, 94, 95, 96, 97, 123, 124, 125, 126, 127, 128, 129, 130, 131, 132, 133, 134, 135, 136, 137] (by decide +kernel) (by decide +kernel)
set_option maxRecDepth 20000 in
theorem gX4_wind_X2_turnOften_n63 : GoodIn wsX4_wind (wsX2_turnOften) := ggX4_wind_X2_turnOften
set_option maxRecDepth 20000 in
theorem ggX4_wind_X4_finishAct : GoodIn wsX4_wind wsX4_finishAct := goodIn_r _ [101, 102, 2, 1, 103, 104, 105, 106, 107, 108, 109, 90, 71, 91, 110, 111, 112, 113, 114, 3, 4, 5, 6, 7, 8, 9, 10, 11, 12, 13, 14, 15, 16, 17, 18, 19, 20, 21, 22, 23, 24, 25, 26, 27, 28, 29, 30, 115, 116, 117, 118, 119, 120, 121, 122, 138, 139, 140, 123, 124, 125, 126, 127, 128, 129, 130, 131, 132, 133, 134, 135, 136, 137] (by decide +kernel) (by decide +kernel)
set_option maxRecDepth 20000 in
theorem gX4_wind_X4_finishAct : GoodIn wsX4_wind (wsV RX4 59 RX4 yX4_finishAct wsX4_finishAct) := goodIn_app (goodIn_of _ (by decide +kernel)) ggX4_wind_X4_finishAct
theorem dX4_wind_0 : decode cX4_wind 0 = .ok (.aload_n 0, 1) := by decide +kernel
theorem dX4_wind_1 : decode cX4_wind 1 = .ok (.getfield 16, 3) := by decide +kernel
theorem dX4_wind_4 : decode cX4_wind 4 = .ok (.aload_n 0, 1) := by decide +kernel
theorem dX4_wind_5 : decode cX4_wind 5 = .ok (.getfield 12, 3) := by decide +kernel
theorem dX4_wind_8 : decode cX4_wind 8 = .ok (.invokevirtual 51, 3) := by decide +kernel
theorem dX4_wind_11 : decode cX4_wind 11 = .ok (.aload_n 0, 1) := by decide +kernel
theorem dX4_wind_12 : decode cX4_wind 12 = .ok (.aload_n 0, 1) := by decide +kernel
theorem dX4_wind_13 : decode cX4_wind 13 = .ok (.getfield 16, 3) := by decide +kernel
theorem dX4_wind_16 : decode cX4_wind 16 = .ok (.iload_n 1, 1) := by decide +kernel
theorem dX4_wind_17 : decode cX4_wind 17 = .ok (.invokevirtual 63, 3) := by decide +kernel
theorem dX4_wind_20 : decode cX4_wind 20 = .ok (.invokevirtual 59, 3) := by decide +kernel
theorem dX4_wind_23 : decode cX4_wind 23 = .ok (.ireturn, 1) := by decide +kernel
set_option maxRecDepth 20000 in
theorem ggX4_knot_X2_copyFrom : GoodIn wsX4_knot wsX2_copyFrom := goodIn_r _ [6, 7, 8, 9, 10, 11, 12, 13, 14, 15, 16, 17, 18, 19, 20, 21, 22, 23, 24, 25, 26, 27, 28, 29, 30, 67, 68, 69, 70, 71, 72, 73, 74, 75, 76, 77, 78, 79, 80, 81] (by decide +kernel) (by decide +kernel)
set_option maxRecDepth 20000 in
theorem gX4_knot_X2_copyFrom_n51 : GoodIn wsX4_knot (wsX2_copyFrom) := ggX4_knot_X2_copyFrom
set_option maxRecDepth 20000 in
theorem ggX4_knot_X2_tieKnot : GoodIn wsX4_knot wsX2_tieKnot := goodIn_r _ [33, 14, 16, 17, 8, 34, 35, 36, 4, 37, 13, 67, 68, 69, 70, 71, 72, 73, 74, 75, 76, 77] (by decide +kernel) (by decide +kernel)
set_option maxRecDepth 20000 in
theorem gX4_knot_X2_tieKnot_n66 : GoodIn wsX4_knot (wsX2_tieKnot) := ggX4_knot_X2_tieKnot
set_option maxRecDepth 20000 in
theorem ggX4_knot_X4_finishAct : GoodIn wsX4_knot wsX4_finishAct := goodIn_r _ [42, 43, 2, 1, 44, 45, 46, 47, 48, 49, 50, 51, 52, 53, 54, 55, 56, 57, 58, 3, 4, 5, 6, 7, 8, 9, 10, 11, 12, 13, 14, 15, 16, 17, 18, 19, 20, 21, 22, 23, 24, 25, 26, 27, 28, 29, 30, 59, 60, 61, 62, 63, 64, 65, 66, 82, 83, 84, 67, 68, 69, 70, 71, 72, 73, 74, 75, 76, 77, 78, 79, 80, 81] (by decide +kernel) (by decide +kernel)
set_option maxRecDepth 20000 in
theorem gX4_knot_X4_finishAct : GoodIn wsX4_knot (wsV RX4 59 RX4 yX4_finishAct wsX4_finishAct) := goodIn_app (goodIn_of _ (by decide +kernel)) ggX4_knot_X4_finishAct
theorem dX4_knot_0 : decode cX4_knot 0 = .ok (.aload_n 0, 1) := by decide +kernel
theorem dX4_knot_1 : decode cX4_knot 1 = .ok (.getfield 16, 3) := by decide +kernel
theorem dX4_knot_4 : decode cX4_knot 4 = .ok (.aload_n 0, 1) := by decide +kernel
theorem dX4_knot_5 : decode cX4_knot 5 = .ok (.getfield 12, 3) := by decide +kernel
theorem dX4_knot_8 : decode cX4_knot 8 = .ok (.invokevirtual 51, 3) := by decide +kernel
theorem dX4_knot_11 : decode cX4_knot 11 = .ok (.aload_n 0, 1) := by decide +kernel
theorem dX4_knot_12 : decode cX4_knot 12 = .ok (.aload_n 0, 1) := by decide +kernel
theorem dX4_knot_13 : decode cX4_knot 13 = .ok (.getfield 16, 3) := by decide +kernel
theorem dX4_knot_16 : decode cX4_knot 16 = .ok (.invokevirtual 66, 3) := by decide +kernel
theorem dX4_knot_19 : decode cX4_knot 19 = .ok (.invokevirtual 59, 3) := by decide +kernel
theorem dX4_knot_22 : decode cX4_knot 22 = .ok (.ireturn, 1) := by decide +kernel
set_option maxRecDepth 20000 in
theorem ggX4_cone_X2_copyFrom : GoodIn wsX4_cone wsX2_copyFrom := goodIn_r _ [6, 7, 8, 9, 10, 11, 12, 13, 14, 15, 16, 17, 18, 19, 20, 21, 22, 23, 24, 25, 26, 27, 28, 29, 30, 73, 74, 75, 76, 77, 78, 79, 80, 81, 82, 83, 84, 85, 86, 87] (by decide +kernel) (by decide +kernel)
set_option maxRecDepth 20000 in
theorem gX4_cone_X2_copyFrom_n51 : GoodIn wsX4_cone (wsX2_copyFrom) := ggX4_cone_X2_copyFrom
set_option maxRecDepth 20000 in
theorem ggX4_cone_X2_changeCone : GoodIn wsX4_cone wsX2_changeCone := goodIn_r _ [33, 14, 7, 16, 34, 35, 36, 37, 38, 39, 40, 41, 42, 43, 44, 73, 74, 75, 76, 77, 78, 79, 80, 81, 82, 83, 84, 85, 86, 87] (by decide +kernel) (by decide +kernel)
set_option maxRecDepth 20000 in
theorem gX4_cone_X2_changeCone_n70 : GoodIn wsX4_cone (wsX2_changeCone) := ggX4_cone_X2_changeCone
set_option maxRecDepth 20000 in
theorem ggX4_cone_X4_finishAct : GoodIn wsX4_cone wsX4_finishAct := goodIn_r _ [48, 49, 2, 1, 50, 51, 52, 53, 54, 55, 56, 57, 58, 59, 60, 61, 62, 63, 64, 3, 4, 5, 6, 7, 8, 9, 10, 11, 12, 13, 14, 15, 16, 17, 18, 19, 20, 21, 22, 23, 24, 25, 26, 27, 28, 29, 30, 65, 66, 67, 68, 69, 70, 71, 72, 88, 89, 90, 73, 74, 75, 76, 77, 78, 79, 80, 81, 82, 83, 84, 85, 86, 87] (by decide +kernel) (by decide +kernel)
set_option maxRecDepth 20000 in
theorem gX4_cone_X4_finishAct : GoodIn wsX4_cone (wsV RX4 59 RX4 yX4_finishAct wsX4_finishAct) := goodIn_app (goodIn_of _ (by decide +kernel)) ggX4_cone_X4_finishAct
theorem dX4_cone_0 : decode cX4_cone 0 = .ok (.aload_n 0, 1) := by decide +kernel
theorem dX4_cone_1 : decode cX4_cone 1 = .ok (.getfield 16, 3) := by decide +kernel
theorem dX4_cone_4 : decode cX4_cone 4 = .ok (.aload_n 0, 1) := by decide +kernel
theorem dX4_cone_5 : decode cX4_cone 5 = .ok (.getfield 12, 3) := by decide +kernel
theorem dX4_cone_8 : decode cX4_cone 8 = .ok (.invokevirtual 51, 3) := by decide +kernel
theorem dX4_cone_11 : decode cX4_cone 11 = .ok (.aload_n 0, 1) := by decide +kernel
theorem dX4_cone_12 : decode cX4_cone 12 = .ok (.aload_n 0, 1) := by decide +kernel
theorem dX4_cone_13 : decode cX4_cone 13 = .ok (.getfield 16, 3) := by decide +kernel
theorem dX4_cone_16 : decode cX4_cone 16 = .ok (.iload_n 1, 1) := by decide +kernel
theorem dX4_cone_17 : decode cX4_cone 17 = .ok (.invokevirtual 70, 3) := by decide +kernel
theorem dX4_cone_20 : decode cX4_cone 20 = .ok (.invokevirtual 59, 3) := by decide +kernel
theorem dX4_cone_23 : decode cX4_cone 23 = .ok (.ireturn, 1) := by decide +kernel
set_option maxRecDepth 20000 in
theorem ggX4_doff_X2_copyFrom : GoodIn wsX4_doff wsX2_copyFrom := goodIn_r _ [6, 7, 8, 9, 10, 11, 12, 13, 14, 15, 16, 17, 18, 19, 20, 21, 22, 23, 24, 25, 26, 27, 28, 29, 30, 71, 72, 73, 74, 75, 76, 77, 78, 79, 80, 81, 82, 83, 84, 85] (by decide +kernel) (by decide +kernel)
set_option maxRecDepth 20000 in
theorem gX4_doff_X2_copyFrom_n51 : GoodIn wsX4_doff (wsX2_copyFrom) := ggX4_doff_X2_copyFrom
set_option maxRecDepth 20000 in
theorem ggX4_doff_X2_takePackageOff : GoodIn wsX4_doff wsX2_takePackageOff := goodIn_r _ [33, 7, 8, 16, 17, 18, 21, 34, 23, 35, 36, 26, 28, 29, 30, 37, 38, 39, 40, 41, 71, 72, 73, 74, 75, 76, 77, 78, 79, 80, 81, 82, 83, 84, 85] (by decide +kernel) (by decide +kernel)
set_option maxRecDepth 20000 in
theorem gX4_doff_X2_takePackageOff_n73 : GoodIn wsX4_doff (wsX2_takePackageOff) := ggX4_doff_X2_takePackageOff
set_option maxRecDepth 20000 in
theorem ggX4_doff_X4_finishAct : GoodIn wsX4_doff wsX4_finishAct := goodIn_r _ [46, 47, 2, 1, 48, 49, 50, 51, 52, 53, 54, 55, 56, 57, 58, 59, 60, 61, 62, 3, 4, 5, 6, 7, 8, 9, 10, 11, 12, 13, 14, 15, 16, 17, 18, 19, 20, 21, 22, 23, 24, 25, 26, 27, 28, 29, 30, 63, 64, 65, 66, 67, 68, 69, 70, 86, 87, 88, 71, 72, 73, 74, 75, 76, 77, 78, 79, 80, 81, 82, 83, 84, 85] (by decide +kernel) (by decide +kernel)
set_option maxRecDepth 20000 in
theorem gX4_doff_X4_finishAct : GoodIn wsX4_doff (wsV RX4 59 RX4 yX4_finishAct wsX4_finishAct) := goodIn_app (goodIn_of _ (by decide +kernel)) ggX4_doff_X4_finishAct
theorem dX4_doff_0 : decode cX4_doff 0 = .ok (.aload_n 0, 1) := by decide +kernel
theorem dX4_doff_1 : decode cX4_doff 1 = .ok (.getfield 16, 3) := by decide +kernel
theorem dX4_doff_4 : decode cX4_doff 4 = .ok (.aload_n 0, 1) := by decide +kernel
theorem dX4_doff_5 : decode cX4_doff 5 = .ok (.getfield 12, 3) := by decide +kernel
theorem dX4_doff_8 : decode cX4_doff 8 = .ok (.invokevirtual 51, 3) := by decide +kernel
theorem dX4_doff_11 : decode cX4_doff 11 = .ok (.aload_n 0, 1) := by decide +kernel
theorem dX4_doff_12 : decode cX4_doff 12 = .ok (.aload_n 0, 1) := by decide +kernel
theorem dX4_doff_13 : decode cX4_doff 13 = .ok (.getfield 16, 3) := by decide +kernel
theorem dX4_doff_16 : decode cX4_doff 16 = .ok (.invokevirtual 73, 3) := by decide +kernel
theorem dX4_doff_19 : decode cX4_doff 19 = .ok (.invokevirtual 59, 3) := by decide +kernel
theorem dX4_doff_22 : decode cX4_doff 22 = .ok (.ireturn, 1) := by decide +kernel
set_option maxRecDepth 20000 in
theorem ggX4_place_X3_heightAt : GoodIn wsX4_place wsX3_heightAt := goodIn_r _ [5, 6, 47, 48, 49, 50] (by decide +kernel) (by decide +kernel)
set_option maxRecDepth 20000 in
theorem gX4_place_X3_heightAt_n108 : GoodIn wsX4_place (wsX3_heightAt) := ggX4_place_X3_heightAt
set_option maxRecDepth 20000 in
theorem ggX4_place_X2_knotsAt : GoodIn wsX4_place wsX2_knotsAt := goodIn_r _ [10, 11, 36, 37, 38, 39, 40, 41, 42, 43, 44, 45, 46] (by decide +kernel) (by decide +kernel)
set_option maxRecDepth 20000 in
theorem gX4_place_X2_knotsAt_n111 : GoodIn wsX4_place (wsX2_knotsAt) := ggX4_place_X2_knotsAt
set_option maxRecDepth 20000 in
theorem ggX4_place_X3_isRibbon : GoodIn wsX4_place wsX3_isRibbon := goodIn_r _ [14, 15, 16, 17, 3, 18, 19, 2, 4, 5, 6, 47, 48, 49, 50] (by decide +kernel) (by decide +kernel)
set_option maxRecDepth 20000 in
theorem gX4_place_X3_isRibbon_n114 : GoodIn wsX4_place (wsX3_isRibbon) := ggX4_place_X3_isRibbon
set_option maxRecDepth 20000 in
theorem ggX4_place_X4_oneIf : GoodIn wsX4_place wsX4_oneIf := goodIn_r _ [23] (by decide +kernel) (by decide +kernel)
set_option maxRecDepth 20000 in
theorem gX4_place_X4_oneIf : GoodIn wsX4_place (va_wsS RX4 118 yX4_oneIf wsX4_oneIf) := goodIn_app (goodIn_of _ (by decide +kernel)) ggX4_place_X4_oneIf
set_option maxRecDepth 20000 in
theorem ggX4_place_X2_isBad : GoodIn wsX4_place wsX2_isBad := goodIn_r _ [26, 27, 7, 9, 8, 10, 11, 36, 37, 38, 39, 40, 41, 42, 43, 44, 45, 46] (by decide +kernel) (by decide +kernel)
set_option maxRecDepth 20000 in
theorem gX4_place_X2_isBad_n122 : GoodIn wsX4_place (wsX2_isBad) := ggX4_place_X2_isBad
theorem dX4_place_0 : decode cX4_place 0 = .ok (.iload_n 1, 1) := by decide +kernel
theorem dX4_place_1 : decode cX4_place 1 = .ok (.ifCond .lt 9, 3) := by decide +kernel
theorem dX4_place_4 : decode cX4_place 4 = .ok (.iload_n 1, 1) := by decide +kernel
theorem dX4_place_5 : decode cX4_place 5 = .ok (.bipush 12, 2) := by decide +kernel
theorem dX4_place_7 : decode cX4_place 7 = .ok (.if_icmp .lt 5, 3) := by decide +kernel
theorem dX4_place_10 : decode cX4_place 10 = .ok (.iconst (-1), 1) := by decide +kernel
theorem dX4_place_11 : decode cX4_place 11 = .ok (.ireturn, 1) := by decide +kernel
theorem dX4_place_12 : decode cX4_place 12 = .ok (.iload_n 2, 1) := by decide +kernel
theorem dX4_place_13 : decode cX4_place 13 = .ok (.tableswitch 79 0 3 #[31, 43, 52, 67], 31) := by decide +kernel
theorem dX4_place_44 : decode cX4_place 44 = .ok (.aload_n 0, 1) := by decide +kernel
theorem dX4_place_45 : decode cX4_place 45 = .ok (.getfield 12, 3) := by decide +kernel
theorem dX4_place_48 : decode cX4_place 48 = .ok (.getfield 102, 3) := by decide +kernel
theorem dX4_place_51 : decode cX4_place 51 = .ok (.iload_n 1, 1) := by decide +kernel
theorem dX4_place_52 : decode cX4_place 52 = .ok (.invokevirtual 108, 3) := by decide +kernel
theorem dX4_place_55 : decode cX4_place 55 = .ok (.ireturn, 1) := by decide +kernel
theorem dX4_place_56 : decode cX4_place 56 = .ok (.aload_n 0, 1) := by decide +kernel
theorem dX4_place_57 : decode cX4_place 57 = .ok (.getfield 12, 3) := by decide +kernel
theorem dX4_place_60 : decode cX4_place 60 = .ok (.iload_n 1, 1) := by decide +kernel
theorem dX4_place_61 : decode cX4_place 61 = .ok (.invokevirtual 111, 3) := by decide +kernel
theorem dX4_place_64 : decode cX4_place 64 = .ok (.ireturn, 1) := by decide +kernel
theorem dX4_place_65 : decode cX4_place 65 = .ok (.aload_n 0, 1) := by decide +kernel
theorem dX4_place_66 : decode cX4_place 66 = .ok (.getfield 12, 3) := by decide +kernel
theorem dX4_place_69 : decode cX4_place 69 = .ok (.getfield 102, 3) := by decide +kernel
theorem dX4_place_72 : decode cX4_place 72 = .ok (.iload_n 1, 1) := by decide +kernel
theorem dX4_place_73 : decode cX4_place 73 = .ok (.invokevirtual 114, 3) := by decide +kernel
theorem dX4_place_76 : decode cX4_place 76 = .ok (.invokestatic 118, 3) := by decide +kernel
theorem dX4_place_79 : decode cX4_place 79 = .ok (.ireturn, 1) := by decide +kernel
theorem dX4_place_80 : decode cX4_place 80 = .ok (.aload_n 0, 1) := by decide +kernel
theorem dX4_place_81 : decode cX4_place 81 = .ok (.getfield 12, 3) := by decide +kernel
theorem dX4_place_84 : decode cX4_place 84 = .ok (.iload_n 1, 1) := by decide +kernel
theorem dX4_place_85 : decode cX4_place 85 = .ok (.invokevirtual 122, 3) := by decide +kernel
theorem dX4_place_88 : decode cX4_place 88 = .ok (.invokestatic 118, 3) := by decide +kernel
theorem dX4_place_91 : decode cX4_place 91 = .ok (.ireturn, 1) := by decide +kernel
theorem dX4_place_92 : decode cX4_place 92 = .ok (.bipush (-2), 2) := by decide +kernel
theorem dX4_place_94 : decode cX4_place 94 = .ok (.ireturn, 1) := by decide +kernel
set_option maxRecDepth 20000 in
theorem ggX4_wrong_X2_isConeEmpty : GoodIn wsX4_wrong wsX2_isConeEmpty := goodIn_r _ [5, 6, 55, 56, 57, 58, 59, 60, 61, 62, 63, 64, 65] (by decide +kernel) (by decide +kernel)
set_option maxRecDepth 20000 in
theorem gX4_wrong_X2_isConeEmpty_n128 : GoodIn wsX4_wrong (wsX2_isConeEmpty) := ggX4_wrong_X2_isConeEmpty
set_option maxRecDepth 20000 in
theorem ggX4_wrong_X2_hasBadPlace : GoodIn wsX4_wrong wsX2_hasBadPlace := goodIn_r _ [9, 10, 11, 12, 3, 13, 14, 15, 16, 17, 18, 55, 56, 57, 58, 59, 60, 61, 62, 63, 64, 65] (by decide +kernel) (by decide +kernel)
set_option maxRecDepth 20000 in
theorem gX4_wrong_X2_hasBadPlace_n132 : GoodIn wsX4_wrong (wsX2_hasBadPlace) := ggX4_wrong_X2_hasBadPlace
set_option maxRecDepth 20000 in
theorem ggX4_wrong_X3_ribbons : GoodIn wsX4_wrong wsX3_ribbons := goodIn_r _ [22, 23, 24, 25, 20, 26, 27, 28, 29, 30, 31, 32, 33, 34, 35, 36, 37, 38, 66, 67, 68, 69] (by decide +kernel) (by decide +kernel)
set_option maxRecDepth 20000 in
theorem gX4_wrong_X3_ribbons_n135 : GoodIn wsX4_wrong (wsX3_ribbons) := ggX4_wrong_X3_ribbons
set_option maxRecDepth 20000 in
theorem ggX4_wrong_X3_evenness : GoodIn wsX4_wrong wsX3_evenness := goodIn_r _ [41, 42, 35, 43, 44, 45, 46, 66, 67, 68, 69] (by decide +kernel) (by decide +kernel)
set_option maxRecDepth 20000 in
theorem gX4_wrong_X3_evenness_n138 : GoodIn wsX4_wrong (wsX3_evenness) := ggX4_wrong_X3_evenness
theorem dX4_wrong_0 : decode cX4_wrong 0 = .ok (.aload_n 0, 1) := by decide +kernel
theorem dX4_wrong_1 : decode cX4_wrong 1 = .ok (.getfield 12, 3) := by decide +kernel
theorem dX4_wrong_4 : decode cX4_wrong 4 = .ok (.getfield 125, 3) := by decide +kernel
theorem dX4_wrong_7 : decode cX4_wrong 7 = .ok (.ifCond .eq 5, 3) := by decide +kernel
theorem dX4_wrong_10 : decode cX4_wrong 10 = .ok (.iconst 1, 1) := by decide +kernel
theorem dX4_wrong_11 : decode cX4_wrong 11 = .ok (.ireturn, 1) := by decide +kernel
theorem dX4_wrong_12 : decode cX4_wrong 12 = .ok (.aload_n 0, 1) := by decide +kernel
theorem dX4_wrong_13 : decode cX4_wrong 13 = .ok (.getfield 12, 3) := by decide +kernel
theorem dX4_wrong_16 : decode cX4_wrong 16 = .ok (.invokevirtual 128, 3) := by decide +kernel
theorem dX4_wrong_19 : decode cX4_wrong 19 = .ok (.ifCond .eq 5, 3) := by decide +kernel
theorem dX4_wrong_22 : decode cX4_wrong 22 = .ok (.iconst 2, 1) := by decide +kernel
theorem dX4_wrong_23 : decode cX4_wrong 23 = .ok (.ireturn, 1) := by decide +kernel
theorem dX4_wrong_24 : decode cX4_wrong 24 = .ok (.aload_n 0, 1) := by decide +kernel
theorem dX4_wrong_25 : decode cX4_wrong 25 = .ok (.getfield 12, 3) := by decide +kernel
theorem dX4_wrong_28 : decode cX4_wrong 28 = .ok (.invokevirtual 132, 3) := by decide +kernel
theorem dX4_wrong_31 : decode cX4_wrong 31 = .ok (.ifCond .eq 5, 3) := by decide +kernel
theorem dX4_wrong_34 : decode cX4_wrong 34 = .ok (.iconst 3, 1) := by decide +kernel
theorem dX4_wrong_35 : decode cX4_wrong 35 = .ok (.ireturn, 1) := by decide +kernel
theorem dX4_wrong_36 : decode cX4_wrong 36 = .ok (.aload_n 0, 1) := by decide +kernel
theorem dX4_wrong_37 : decode cX4_wrong 37 = .ok (.getfield 12, 3) := by decide +kernel
theorem dX4_wrong_40 : decode cX4_wrong 40 = .ok (.getfield 102, 3) := by decide +kernel
theorem dX4_wrong_43 : decode cX4_wrong 43 = .ok (.invokevirtual 135, 3) := by decide +kernel
theorem dX4_wrong_46 : decode cX4_wrong 46 = .ok (.ifCond .le 5, 3) := by decide +kernel
theorem dX4_wrong_49 : decode cX4_wrong 49 = .ok (.iconst 4, 1) := by decide +kernel
theorem dX4_wrong_50 : decode cX4_wrong 50 = .ok (.ireturn, 1) := by decide +kernel
theorem dX4_wrong_51 : decode cX4_wrong 51 = .ok (.aload_n 0, 1) := by decide +kernel
theorem dX4_wrong_52 : decode cX4_wrong 52 = .ok (.getfield 12, 3) := by decide +kernel
theorem dX4_wrong_55 : decode cX4_wrong 55 = .ok (.getfield 102, 3) := by decide +kernel
theorem dX4_wrong_58 : decode cX4_wrong 58 = .ok (.invokevirtual 138, 3) := by decide +kernel
theorem dX4_wrong_61 : decode cX4_wrong 61 = .ok (.bipush 10, 2) := by decide +kernel
theorem dX4_wrong_63 : decode cX4_wrong 63 = .ok (.if_icmp .lt 7, 3) := by decide +kernel
theorem dX4_wrong_66 : decode cX4_wrong 66 = .ok (.iconst 5, 1) := by decide +kernel
theorem dX4_wrong_67 : decode cX4_wrong 67 = .ok (.goto 4, 3) := by decide +kernel
theorem dX4_wrong_70 : decode cX4_wrong 70 = .ok (.iconst 0, 1) := by decide +kernel
theorem dX4_wrong_71 : decode cX4_wrong 71 = .ok (.ireturn, 1) := by decide +kernel
set_option maxRecDepth 20000 in
theorem ggX4_breaksIn_X2_isConeEmpty : GoodIn wsX4_breaksIn wsX2_isConeEmpty := goodIn_r _ [6, 7, 92, 93, 94, 95, 96, 97, 98, 99, 100, 101, 102] (by decide +kernel) (by decide +kernel)
set_option maxRecDepth 20000 in
theorem gX4_breaksIn_X2_isConeEmpty_n128 : GoodIn wsX4_breaksIn (wsX2_isConeEmpty) := ggX4_breaksIn_X2_isConeEmpty
set_option maxRecDepth 20000 in
theorem ggX4_breaksIn_X2_copyFrom : GoodIn wsX4_breaksIn wsX2_copyFrom := goodIn_r _ [10, 11, 12, 13, 14, 15, 16, 17, 7, 18, 19, 20, 21, 22, 23, 24, 25, 26, 27, 28, 29, 30, 31, 32, 33, 92, 93, 94, 95, 96, 97, 98, 99, 100, 101, 102, 103, 104, 105, 106] (by decide +kernel) (by decide +kernel)
set_option maxRecDepth 20000 in
theorem gX4_breaksIn_X2_copyFrom_n51 : GoodIn wsX4_breaksIn (wsX2_copyFrom) := ggX4_breaksIn_X2_copyFrom
set_option maxRecDepth 20000 in
theorem ggX4_breaksIn_X2_isIdle : GoodIn wsX4_breaksIn wsX2_isIdle := goodIn_r _ [36, 19, 11, 37, 3, 5, 4, 6, 7, 38, 26, 39, 40, 32, 92, 93, 94, 95, 96, 97, 98, 99, 100, 101, 102, 103, 104, 105, 106] (by decide +kernel) (by decide +kernel)
set_option maxRecDepth 20000 in
theorem gX4_breaksIn_X2_isIdle_n141 : GoodIn wsX4_breaksIn (wsX2_isIdle) := ggX4_breaksIn_X2_isIdle
set_option maxRecDepth 20000 in
theorem ggX4_breaksIn_X2_turnOnce : GoodIn wsX4_breaksIn wsX2_turnOnce := goodIn_r _ [43, 22, 11, 7, 21, 20, 19, 23, 44, 34, 35, 4, 36, 37, 3, 5, 6, 38, 26, 39, 40, 32, 45, 46, 47, 33, 48, 49, 50, 29, 51, 52, 53, 31, 54, 55, 56, 57, 58, 59, 60, 61, 62, 18, 63, 64, 65, 66, 67, 68, 69, 17, 70, 71, 72, 73, 74, 75, 76, 77, 78, 79, 80, 81, 82, 83, 92, 93, 94, 95, 96, 97, 98, 99, 100, 101, 102, 103, 104, 105, 106] (by decide +kernel) (by decide +kernel)
set_option maxRecDepth 20000 in
theorem gX4_breaksIn_X2_turnOnce_n144 : GoodIn wsX4_breaksIn (wsX2_turnOnce) := ggX4_breaksIn_X2_turnOnce
theorem dX4_breaksIn_0 : decode cX4_breaksIn 0 = .ok (.aload_n 0, 1) := by decide +kernel
theorem dX4_breaksIn_1 : decode cX4_breaksIn 1 = .ok (.getfield 12, 3) := by decide +kernel
theorem dX4_breaksIn_4 : decode cX4_breaksIn 4 = .ok (.getfield 125, 3) := by decide +kernel
theorem dX4_breaksIn_7 : decode cX4_breaksIn 7 = .ok (.ifCond .ne 13, 3) := by decide +kernel
theorem dX4_breaksIn_10 : decode cX4_breaksIn 10 = .ok (.aload_n 0, 1) := by decide +kernel
theorem dX4_breaksIn_11 : decode cX4_breaksIn 11 = .ok (.getfield 12, 3) := by decide +kernel
theorem dX4_breaksIn_14 : decode cX4_breaksIn 14 = .ok (.invokevirtual 128, 3) := by decide +kernel
theorem dX4_breaksIn_17 : decode cX4_breaksIn 17 = .ok (.ifCond .eq 6, 3) := by decide +kernel
theorem dX4_breaksIn_20 : decode cX4_breaksIn 20 = .ok (.bipush (-4), 2) := by decide +kernel
theorem dX4_breaksIn_22 : decode cX4_breaksIn 22 = .ok (.ireturn, 1) := by decide +kernel
theorem dX4_breaksIn_23 : decode cX4_breaksIn 23 = .ok (.aload_n 0, 1) := by decide +kernel
theorem dX4_breaksIn_24 : decode cX4_breaksIn 24 = .ok (.getfield 16, 3) := by decide +kernel
theorem dX4_breaksIn_27 : decode cX4_breaksIn 27 = .ok (.aload_n 0, 1) := by decide +kernel
theorem dX4_breaksIn_28 : decode cX4_breaksIn 28 = .ok (.getfield 12, 3) := by decide +kernel
theorem dX4_breaksIn_31 : decode cX4_breaksIn 31 = .ok (.invokevirtual 51, 3) := by decide +kernel
theorem dX4_breaksIn_34 : decode cX4_breaksIn 34 = .ok (.iconst 1, 1) := by decide +kernel
theorem dX4_breaksIn_35 : decode cX4_breaksIn 35 = .ok (.istore_n 1, 1) := by decide +kernel
theorem dX4_breaksIn_36 : decode cX4_breaksIn 36 = .ok (.iload_n 1, 1) := by decide +kernel
theorem dX4_breaksIn_37 : decode cX4_breaksIn 37 = .ok (.sipush 1000, 3) := by decide +kernel
theorem dX4_breaksIn_40 : decode cX4_breaksIn 40 = .ok (.if_icmp .gt 38, 3) := by decide +kernel
theorem dX4_breaksIn_43 : decode cX4_breaksIn 43 = .ok (.aload_n 0, 1) := by decide +kernel
theorem dX4_breaksIn_44 : decode cX4_breaksIn 44 = .ok (.getfield 16, 3) := by decide +kernel
theorem dX4_breaksIn_47 : decode cX4_breaksIn 47 = .ok (.invokevirtual 141, 3) := by decide +kernel
theorem dX4_breaksIn_50 : decode cX4_breaksIn 50 = .ok (.ifCond .ne 28, 3) := by decide +kernel
theorem dX4_breaksIn_53 : decode cX4_breaksIn 53 = .ok (.aload_n 0, 1) := by decide +kernel
theorem dX4_breaksIn_54 : decode cX4_breaksIn 54 = .ok (.getfield 16, 3) := by decide +kernel
theorem dX4_breaksIn_57 : decode cX4_breaksIn 57 = .ok (.invokevirtual 144, 3) := by decide +kernel
theorem dX4_breaksIn_60 : decode cX4_breaksIn 60 = .ok (.aload_n 0, 1) := by decide +kernel
theorem dX4_breaksIn_61 : decode cX4_breaksIn 61 = .ok (.getfield 16, 3) := by decide +kernel
theorem dX4_breaksIn_64 : decode cX4_breaksIn 64 = .ok (.getfield 125, 3) := by decide +kernel
theorem dX4_breaksIn_67 : decode cX4_breaksIn 67 = .ok (.ifCond .eq 5, 3) := by decide +kernel
theorem dX4_breaksIn_70 : decode cX4_breaksIn 70 = .ok (.iload_n 1, 1) := by decide +kernel
theorem dX4_breaksIn_71 : decode cX4_breaksIn 71 = .ok (.ireturn, 1) := by decide +kernel
theorem dX4_breaksIn_72 : decode cX4_breaksIn 72 = .ok (.iinc 1 1, 3) := by decide +kernel
theorem dX4_breaksIn_75 : decode cX4_breaksIn 75 = .ok (.goto (-39), 3) := by decide +kernel
theorem dX4_breaksIn_78 : decode cX4_breaksIn 78 = .ok (.bipush (-5), 2) := by decide +kernel
theorem dX4_breaksIn_80 : decode cX4_breaksIn 80 = .ok (.ireturn, 1) := by decide +kernel
set_option maxRecDepth 20000 in
theorem ggX4_ifTraverse_X4_inRange : GoodIn wsX4_ifTraverse wsX4_inRange := goodIn_r _ [5, 6, 7, 4, 8, 9, 10, 11, 12, 13] (by decide +kernel) (by decide +kernel)
set_option maxRecDepth 20000 in
theorem gX4_ifTraverse_X4_inRange : GoodIn wsX4_ifTraverse (va_wsS RX4 147 yX4_inRange wsX4_inRange) := goodIn_app (goodIn_of _ (by decide +kernel)) ggX4_ifTraverse_X4_inRange
set_option maxRecDepth 20000 in
theorem ggX4_ifTraverse_X4_imagine : GoodIn wsX4_ifTraverse wsX4_imagine := goodIn_r _ [17, 1, 18, 19, 20, 21, 22, 23, 24, 25, 26, 27, 28, 29, 30, 31, 32, 33, 34, 35, 36, 37, 38, 39, 40, 41, 42, 43, 44, 45, 46, 47, 48, 49, 50, 51, 52, 53, 4, 54, 79, 80, 81, 82, 83, 84, 85, 86, 87, 88, 89, 90, 91, 92, 93, 94, 95, 96, 97, 98, 99, 100, 101] (by decide +kernel) (by decide +kernel)
set_option maxRecDepth 20000 in
theorem gX4_ifTraverse_X4_imagine : GoodIn wsX4_ifTraverse (wsV RX4 151 RX4 yX4_imagine wsX4_imagine) := goodIn_app (goodIn_of _ (by decide +kernel)) ggX4_ifTraverse_X4_imagine
set_option maxRecDepth 20000 in
theorem ggX4_ifTraverse_X3_evenness : GoodIn wsX4_ifTraverse wsX3_evenness := goodIn_r _ [57, 25, 23, 58, 59, 39, 60, 87, 88, 89, 90] (by decide +kernel) (by decide +kernel)
set_option maxRecDepth 20000 in
theorem gX4_ifTraverse_X3_evenness_n138 : GoodIn wsX4_ifTraverse (wsX3_evenness) := ggX4_ifTraverse_X3_evenness
set_option maxRecDepth 20000 in
theorem ggX4_ifTraverse_X3_ribbons : GoodIn wsX4_ifTraverse wsX3_ribbons := goodIn_r _ [63, 64, 65, 66, 20, 67, 68, 69, 70, 71, 72, 73, 74, 75, 23, 53, 4, 54, 87, 88, 89, 90] (by decide +kernel) (by decide +kernel)
set_option maxRecDepth 20000 in
theorem gX4_ifTraverse_X3_ribbons_n135 : GoodIn wsX4_ifTraverse (wsX3_ribbons) := ggX4_ifTraverse_X3_ribbons
set_option maxRecDepth 20000 in
theorem ggX4_ifTraverse_X3_barePlaces : GoodIn wsX4_ifTraverse wsX3_barePlaces := goodIn_r _ [78, 23, 53, 4, 54, 87, 88, 89, 90] (by decide +kernel) (by decide +kernel)
set_option maxRecDepth 20000 in
theorem gX4_ifTraverse_X3_barePlaces_n155 : GoodIn wsX4_ifTraverse (wsX3_barePlaces) := ggX4_ifTraverse_X3_barePlaces
theorem dX4_ifTraverse_0 : decode cX4_ifTraverse 0 = .ok (.iconst 0, 1) := by decide +kernel
theorem dX4_ifTraverse_1 : decode cX4_ifTraverse 1 = .ok (.iload_n 1, 1) := by decide +kernel
theorem dX4_ifTraverse_2 : decode cX4_ifTraverse 2 = .ok (.invokestatic 147, 3) := by decide +kernel
theorem dX4_ifTraverse_5 : decode cX4_ifTraverse 5 = .ok (.ifCond .eq 11, 3) := by decide +kernel
theorem dX4_ifTraverse_8 : decode cX4_ifTraverse 8 = .ok (.iconst 5, 1) := by decide +kernel
theorem dX4_ifTraverse_9 : decode cX4_ifTraverse 9 = .ok (.iload_n 2, 1) := by decide +kernel
theorem dX4_ifTraverse_10 : decode cX4_ifTraverse 10 = .ok (.invokestatic 147, 3) := by decide +kernel
theorem dX4_ifTraverse_13 : decode cX4_ifTraverse 13 = .ok (.ifCond .ne 6, 3) := by decide +kernel
theorem dX4_ifTraverse_16 : decode cX4_ifTraverse 16 = .ok (.bipush (-2), 2) := by decide +kernel
theorem dX4_ifTraverse_18 : decode cX4_ifTraverse 18 = .ok (.ireturn, 1) := by decide +kernel
theorem dX4_ifTraverse_19 : decode cX4_ifTraverse 19 = .ok (.aload_n 0, 1) := by decide +kernel
theorem dX4_ifTraverse_20 : decode cX4_ifTraverse 20 = .ok (.iload_n 1, 1) := by decide +kernel
theorem dX4_ifTraverse_21 : decode cX4_ifTraverse 21 = .ok (.iload_n 2, 1) := by decide +kernel
theorem dX4_ifTraverse_22 : decode cX4_ifTraverse 22 = .ok (.invokevirtual 151, 3) := by decide +kernel
theorem dX4_ifTraverse_25 : decode cX4_ifTraverse 25 = .ok (.iload_n 3, 1) := by decide +kernel
theorem dX4_ifTraverse_26 : decode cX4_ifTraverse 26 = .ok (.tableswitch 50 0 2 #[26, 34, 42], 26) := by decide +kernel
theorem dX4_ifTraverse_52 : decode cX4_ifTraverse 52 = .ok (.aload_n 0, 1) := by decide +kernel
theorem dX4_ifTraverse_53 : decode cX4_ifTraverse 53 = .ok (.getfield 25, 3) := by decide +kernel
theorem dX4_ifTraverse_56 : decode cX4_ifTraverse 56 = .ok (.invokevirtual 138, 3) := by decide +kernel
theorem dX4_ifTraverse_59 : decode cX4_ifTraverse 59 = .ok (.ireturn, 1) := by decide +kernel
theorem dX4_ifTraverse_60 : decode cX4_ifTraverse 60 = .ok (.aload_n 0, 1) := by decide +kernel
theorem dX4_ifTraverse_61 : decode cX4_ifTraverse 61 = .ok (.getfield 25, 3) := by decide +kernel
theorem dX4_ifTraverse_64 : decode cX4_ifTraverse 64 = .ok (.invokevirtual 135, 3) := by decide +kernel
theorem dX4_ifTraverse_67 : decode cX4_ifTraverse 67 = .ok (.ireturn, 1) := by decide +kernel
theorem dX4_ifTraverse_68 : decode cX4_ifTraverse 68 = .ok (.aload_n 0, 1) := by decide +kernel
theorem dX4_ifTraverse_69 : decode cX4_ifTraverse 69 = .ok (.getfield 25, 3) := by decide +kernel
theorem dX4_ifTraverse_72 : decode cX4_ifTraverse 72 = .ok (.invokevirtual 155, 3) := by decide +kernel
theorem dX4_ifTraverse_75 : decode cX4_ifTraverse 75 = .ok (.ireturn, 1) := by decide +kernel
theorem dX4_ifTraverse_76 : decode cX4_ifTraverse 76 = .ok (.bipush (-2), 2) := by decide +kernel
theorem dX4_ifTraverse_78 : decode cX4_ifTraverse 78 = .ok (.ireturn, 1) := by decide +kernel
set_option maxRecDepth 20000 in
theorem ggX4_bestTraverse_X4_inRange : GoodIn wsX4_bestTraverse wsX4_inRange := goodIn_r _ [5, 6, 7, 4, 8, 9, 10, 11, 12, 13] (by decide +kernel) (by decide +kernel)
set_option maxRecDepth 20000 in
theorem gX4_bestTraverse_X4_inRange : GoodIn wsX4_bestTraverse (va_wsS RX4 147 yX4_inRange wsX4_inRange) := goodIn_app (goodIn_of _ (by decide +kernel)) ggX4_bestTraverse_X4_inRange
set_option maxRecDepth 20000 in
theorem ggX4_bestTraverse_X4_lowest : GoodIn wsX4_bestTraverse wsX4_lowest := goodIn_r _ [8, 9] (by decide +kernel) (by decide +kernel)
set_option maxRecDepth 20000 in
theorem gX4_bestTraverse_X4_lowest : GoodIn wsX4_bestTraverse (va_wsS RX4 158 yX4_lowest wsX4_lowest) := goodIn_app (goodIn_of _ (by decide +kernel)) ggX4_bestTraverse_X4_lowest
set_option maxRecDepth 20000 in
theorem ggX4_bestTraverse_X4_highest : GoodIn wsX4_bestTraverse wsX4_highest := goodIn_r _ [12, 13] (by decide +kernel) (by decide +kernel)
set_option maxRecDepth 20000 in
theorem gX4_bestTraverse_X4_highest : GoodIn wsX4_bestTraverse (va_wsS RX4 161 yX4_highest wsX4_highest) := goodIn_app (goodIn_of _ (by decide +kernel)) ggX4_bestTraverse_X4_highest
set_option maxRecDepth 20000 in
theorem ggX4_bestTraverse_X4_imagine : GoodIn wsX4_bestTraverse wsX4_imagine := goodIn_r _ [17, 1, 18, 19, 20, 21, 22, 23, 24, 25, 26, 27, 28, 29, 30, 31, 32, 33, 34, 35, 36, 37, 38, 39, 40, 41, 42, 43, 44, 45, 46, 47, 48, 49, 50, 51, 52, 53, 4, 54, 61, 62, 63, 64, 65, 66, 67, 68, 69, 70, 71, 72, 73, 74, 75, 76, 77, 78, 79, 80, 81, 82, 83] (by decide +kernel) (by decide +kernel)
set_option maxRecDepth 20000 in
theorem gX4_bestTraverse_X4_imagine : GoodIn wsX4_bestTraverse (wsV RX4 151 RX4 yX4_imagine wsX4_imagine) := goodIn_app (goodIn_of _ (by decide +kernel)) ggX4_bestTraverse_X4_imagine
set_option maxRecDepth 20000 in
theorem ggX4_bestTraverse_X3_evenness : GoodIn wsX4_bestTraverse wsX3_evenness := goodIn_r _ [57, 25, 23, 58, 59, 39, 60, 69, 70, 71, 72] (by decide +kernel) (by decide +kernel)
set_option maxRecDepth 20000 in
theorem gX4_bestTraverse_X3_evenness_n138 : GoodIn wsX4_bestTraverse (wsX3_evenness) := ggX4_bestTraverse_X3_evenness
theorem dX4_bestTraverse_0 : decode cX4_bestTraverse 0 = .ok (.iconst 5, 1) := by decide +kernel
theorem dX4_bestTraverse_1 : decode cX4_bestTraverse 1 = .ok (.iload_n 1, 1) := by decide +kernel
theorem dX4_bestTraverse_2 : decode cX4_bestTraverse 2 = .ok (.invokestatic 147, 3) := by decide +kernel
theorem dX4_bestTraverse_5 : decode cX4_bestTraverse 5 = .ok (.ifCond .ne 6, 3) := by decide +kernel
theorem dX4_bestTraverse_8 : decode cX4_bestTraverse 8 = .ok (.bipush (-2), 2) := by decide +kernel
theorem dX4_bestTraverse_10 : decode cX4_bestTraverse 10 = .ok (.ireturn, 1) := by decide +kernel
theorem dX4_bestTraverse_11 : decode cX4_bestTraverse 11 = .ok (.iconst 0, 1) := by decide +kernel
theorem dX4_bestTraverse_12 : decode cX4_bestTraverse 12 = .ok (.istore_n 2, 1) := by decide +kernel
theorem dX4_bestTraverse_13 : decode cX4_bestTraverse 13 = .ok (.iconst 0, 1) := by decide +kernel
theorem dX4_bestTraverse_14 : decode cX4_bestTraverse 14 = .ok (.istore_n 3, 1) := by decide +kernel
theorem dX4_bestTraverse_15 : decode cX4_bestTraverse 15 = .ok (.iconst 0, 1) := by decide +kernel
theorem dX4_bestTraverse_16 : decode cX4_bestTraverse 16 = .ok (.invokestatic 158, 3) := by decide +kernel
theorem dX4_bestTraverse_19 : decode cX4_bestTraverse 19 = .ok (.istore 4, 2) := by decide +kernel
theorem dX4_bestTraverse_21 : decode cX4_bestTraverse 21 = .ok (.iload 4, 2) := by decide +kernel
theorem dX4_bestTraverse_23 : decode cX4_bestTraverse 23 = .ok (.iconst 0, 1) := by decide +kernel
theorem dX4_bestTraverse_24 : decode cX4_bestTraverse 24 = .ok (.invokestatic 161, 3) := by decide +kernel
theorem dX4_bestTraverse_27 : decode cX4_bestTraverse 27 = .ok (.if_icmp .gt 41, 3) := by decide +kernel
theorem dX4_bestTraverse_30 : decode cX4_bestTraverse 30 = .ok (.aload_n 0, 1) := by decide +kernel
theorem dX4_bestTraverse_31 : decode cX4_bestTraverse 31 = .ok (.iload 4, 2) := by decide +kernel
theorem dX4_bestTraverse_33 : decode cX4_bestTraverse 33 = .ok (.iload_n 1, 1) := by decide +kernel
theorem dX4_bestTraverse_34 : decode cX4_bestTraverse 34 = .ok (.invokevirtual 151, 3) := by decide +kernel
theorem dX4_bestTraverse_37 : decode cX4_bestTraverse 37 = .ok (.aload_n 0, 1) := by decide +kernel
theorem dX4_bestTraverse_38 : decode cX4_bestTraverse 38 = .ok (.getfield 25, 3) := by decide +kernel
theorem dX4_bestTraverse_41 : decode cX4_bestTraverse 41 = .ok (.invokevirtual 138, 3) := by decide +kernel
theorem dX4_bestTraverse_44 : decode cX4_bestTraverse 44 = .ok (.istore 5, 2) := by decide +kernel
theorem dX4_bestTraverse_46 : decode cX4_bestTraverse 46 = .ok (.iload_n 2, 1) := by decide +kernel
theorem dX4_bestTraverse_47 : decode cX4_bestTraverse 47 = .ok (.ifCond .eq 9, 3) := by decide +kernel
theorem dX4_bestTraverse_50 : decode cX4_bestTraverse 50 = .ok (.iload 5, 2) := by decide +kernel
theorem dX4_bestTraverse_52 : decode cX4_bestTraverse 52 = .ok (.iload_n 3, 1) := by decide +kernel
theorem dX4_bestTraverse_53 : decode cX4_bestTraverse 53 = .ok (.if_icmp .ge 9, 3) := by decide +kernel
theorem dX4_bestTraverse_56 : decode cX4_bestTraverse 56 = .ok (.iload 4, 2) := by decide +kernel
theorem dX4_bestTraverse_58 : decode cX4_bestTraverse 58 = .ok (.istore_n 2, 1) := by decide +kernel
theorem dX4_bestTraverse_59 : decode cX4_bestTraverse 59 = .ok (.iload 5, 2) := by decide +kernel
theorem dX4_bestTraverse_61 : decode cX4_bestTraverse 61 = .ok (.istore_n 3, 1) := by decide +kernel
theorem dX4_bestTraverse_62 : decode cX4_bestTraverse 62 = .ok (.iinc 4 1, 3) := by decide +kernel
theorem dX4_bestTraverse_65 : decode cX4_bestTraverse 65 = .ok (.goto (-44), 3) := by decide +kernel
theorem dX4_bestTraverse_68 : decode cX4_bestTraverse 68 = .ok (.iload_n 2, 1) := by decide +kernel
theorem dX4_bestTraverse_69 : decode cX4_bestTraverse 69 = .ok (.ireturn, 1) := by decide +kernel
set_option maxRecDepth 20000 in
theorem ggX4_period_X4_inRange : GoodIn wsX4_period wsX4_inRange := goodIn_r _ [4, 5, 6, 3, 7, 8, 9, 10, 11, 12] (by decide +kernel) (by decide +kernel)
set_option maxRecDepth 20000 in
theorem gX4_period_X4_inRange : GoodIn wsX4_period (va_wsS RX4 147 yX4_inRange wsX4_inRange) := goodIn_app (goodIn_of _ (by decide +kernel)) ggX4_period_X4_inRange
theorem dX4_period_0 : decode cX4_period 0 = .ok (.iconst 0, 1) := by decide +kernel
theorem dX4_period_1 : decode cX4_period 1 = .ok (.iload_n 1, 1) := by decide +kernel
theorem dX4_period_2 : decode cX4_period 2 = .ok (.invokestatic 147, 3) := by decide +kernel
theorem dX4_period_5 : decode cX4_period 5 = .ok (.ifCond .ne 6, 3) := by decide +kernel
theorem dX4_period_8 : decode cX4_period 8 = .ok (.bipush (-2), 2) := by decide +kernel
theorem dX4_period_10 : decode cX4_period 10 = .ok (.ireturn, 1) := by decide +kernel
theorem dX4_period_11 : decode cX4_period 11 = .ok (.iconst 1, 1) := by decide +kernel
theorem dX4_period_12 : decode cX4_period 12 = .ok (.istore_n 2, 1) := by decide +kernel
theorem dX4_period_13 : decode cX4_period 13 = .ok (.iload_n 2, 1) := by decide +kernel
theorem dX4_period_14 : decode cX4_period 14 = .ok (.bipush 22, 2) := by decide +kernel
theorem dX4_period_16 : decode cX4_period 16 = .ok (.if_icmp .ge 18, 3) := by decide +kernel
theorem dX4_period_19 : decode cX4_period 19 = .ok (.iload_n 2, 1) := by decide +kernel
theorem dX4_period_20 : decode cX4_period 20 = .ok (.iload_n 1, 1) := by decide +kernel
theorem dX4_period_21 : decode cX4_period 21 = .ok (.imul, 1) := by decide +kernel
theorem dX4_period_22 : decode cX4_period 22 = .ok (.bipush 22, 2) := by decide +kernel
theorem dX4_period_24 : decode cX4_period 24 = .ok (.irem, 1) := by decide +kernel
theorem dX4_period_25 : decode cX4_period 25 = .ok (.ifCond .eq 9, 3) := by decide +kernel
theorem dX4_period_28 : decode cX4_period 28 = .ok (.iinc 2 1, 3) := by decide +kernel
theorem dX4_period_31 : decode cX4_period 31 = .ok (.goto (-18), 3) := by decide +kernel
theorem dX4_period_34 : decode cX4_period 34 = .ok (.iload_n 2, 1) := by decide +kernel
theorem dX4_period_35 : decode cX4_period 35 = .ok (.ireturn, 1) := by decide +kernel
set_option maxRecDepth 20000 in
theorem ggX4_count_X3_guidePlace : GoodIn wsX4_count wsX3_guidePlace := goodIn_r _ [7, 8, 75, 76, 77, 78] (by decide +kernel) (by decide +kernel)
set_option maxRecDepth 20000 in
theorem gX4_count_X3_guidePlace_n167 : GoodIn wsX4_count (wsX3_guidePlace) := ggX4_count_X3_guidePlace
set_option maxRecDepth 20000 in
theorem ggX4_count_X3_guideGoesBack : GoodIn wsX4_count wsX3_guideGoesBack := goodIn_r _ [11, 8, 75, 76, 77, 78] (by decide +kernel) (by decide +kernel)
set_option maxRecDepth 20000 in
theorem gX4_count_X3_guideGoesBack_n170 : GoodIn wsX4_count (wsX3_guideGoesBack) := ggX4_count_X3_guideGoesBack
set_option maxRecDepth 20000 in
theorem ggX4_count_X4_oneIf : GoodIn wsX4_count wsX4_oneIf := goodIn_r _ [15] (by decide +kernel) (by decide +kernel)
set_option maxRecDepth 20000 in
theorem gX4_count_X4_oneIf : GoodIn wsX4_count (va_wsS RX4 118 yX4_oneIf wsX4_oneIf) := goodIn_app (goodIn_of _ (by decide +kernel)) ggX4_count_X4_oneIf
set_option maxRecDepth 20000 in
theorem ggX4_count_X2_isConeEmpty : GoodIn wsX4_count wsX2_isConeEmpty := goodIn_r _ [19, 20, 64, 65, 66, 67, 68, 69, 70, 71, 72, 73, 74] (by decide +kernel) (by decide +kernel)
set_option maxRecDepth 20000 in
theorem gX4_count_X2_isConeEmpty_n128 : GoodIn wsX4_count (wsX2_isConeEmpty) := ggX4_count_X2_isConeEmpty
set_option maxRecDepth 20000 in
theorem ggX4_count_X3_isFull : GoodIn wsX4_count wsX3_isFull := goodIn_r _ [23, 24, 75, 76, 77, 78] (by decide +kernel) (by decide +kernel)
set_option maxRecDepth 20000 in
theorem gX4_count_X3_isFull_n179 : GoodIn wsX4_count (wsX3_isFull) := ggX4_count_X3_isFull
set_option maxRecDepth 20000 in
theorem ggX4_count_X3_evenness : GoodIn wsX4_count wsX3_evenness := goodIn_r _ [27, 24, 28, 29, 30, 31, 32, 75, 76, 77, 78] (by decide +kernel) (by decide +kernel)
set_option maxRecDepth 20000 in
theorem gX4_count_X3_evenness_n138 : GoodIn wsX4_count (wsX3_evenness) := ggX4_count_X3_evenness
set_option maxRecDepth 20000 in
theorem ggX4_count_X3_ribbons : GoodIn wsX4_count wsX3_ribbons := goodIn_r _ [35, 36, 37, 38, 5, 39, 40, 41, 42, 43, 44, 45, 46, 47, 28, 13, 14, 15, 75, 76, 77, 78] (by decide +kernel) (by decide +kernel)
set_option maxRecDepth 20000 in
theorem gX4_count_X3_ribbons_n135 : GoodIn wsX4_count (wsX3_ribbons) := ggX4_count_X3_ribbons
set_option maxRecDepth 20000 in
theorem ggX4_count_X2_allKnots : GoodIn wsX4_count wsX2_allKnots := goodIn_r _ [50, 51, 64, 65, 66, 67, 68, 69, 70, 71, 72, 73, 74] (by decide +kernel) (by decide +kernel)
set_option maxRecDepth 20000 in
theorem gX4_count_X2_allKnots_n182 : GoodIn wsX4_count (wsX2_allKnots) := ggX4_count_X2_allKnots
set_option maxRecDepth 20000 in
theorem ggX4_count_X2_number : GoodIn wsX4_count wsX2_number := goodIn_r _ [54, 55, 64, 65, 66, 67, 68, 69, 70, 71, 72, 73, 74] (by decide +kernel) (by decide +kernel)
set_option maxRecDepth 20000 in
theorem gX4_count_X2_number_n200 : GoodIn wsX4_count (wsX2_number) := ggX4_count_X2_number
theorem dX4_count_0 : decode cX4_count 0 = .ok (.iload_n 1, 1) := by decide +kernel
theorem dX4_count_1 : decode cX4_count 1 = .ok (.tableswitch 293 0 24 #[115, 126, 134, 145, 159, 167, 175, 186, 197, 211, 222, 233, 241, 249, 257, 265, 273, 293, 293, 293, 281, 281, 281, 281, 281], 115) := by decide +kernel
theorem dX4_count_116 : decode cX4_count 116 = .ok (.aload_n 0, 1) := by decide +kernel
theorem dX4_count_117 : decode cX4_count 117 = .ok (.getfield 12, 3) := by decide +kernel
theorem dX4_count_120 : decode cX4_count 120 = .ok (.getfield 102, 3) := by decide +kernel
theorem dX4_count_123 : decode cX4_count 123 = .ok (.getfield 105, 3) := by decide +kernel
theorem dX4_count_126 : decode cX4_count 126 = .ok (.ireturn, 1) := by decide +kernel
theorem dX4_count_127 : decode cX4_count 127 = .ok (.aload_n 0, 1) := by decide +kernel
theorem dX4_count_128 : decode cX4_count 128 = .ok (.getfield 12, 3) := by decide +kernel
theorem dX4_count_131 : decode cX4_count 131 = .ok (.getfield 164, 3) := by decide +kernel
theorem dX4_count_134 : decode cX4_count 134 = .ok (.ireturn, 1) := by decide +kernel
theorem dX4_count_135 : decode cX4_count 135 = .ok (.aload_n 0, 1) := by decide +kernel
theorem dX4_count_136 : decode cX4_count 136 = .ok (.getfield 12, 3) := by decide +kernel
theorem dX4_count_139 : decode cX4_count 139 = .ok (.getfield 102, 3) := by decide +kernel
theorem dX4_count_142 : decode cX4_count 142 = .ok (.invokevirtual 167, 3) := by decide +kernel
theorem dX4_count_145 : decode cX4_count 145 = .ok (.ireturn, 1) := by decide +kernel
theorem dX4_count_146 : decode cX4_count 146 = .ok (.aload_n 0, 1) := by decide +kernel
theorem dX4_count_147 : decode cX4_count 147 = .ok (.getfield 12, 3) := by decide +kernel
theorem dX4_count_150 : decode cX4_count 150 = .ok (.getfield 102, 3) := by decide +kernel
theorem dX4_count_153 : decode cX4_count 153 = .ok (.invokevirtual 170, 3) := by decide +kernel
theorem dX4_count_156 : decode cX4_count 156 = .ok (.invokestatic 118, 3) := by decide +kernel
theorem dX4_count_159 : decode cX4_count 159 = .ok (.ireturn, 1) := by decide +kernel
theorem dX4_count_160 : decode cX4_count 160 = .ok (.aload_n 0, 1) := by decide +kernel
theorem dX4_count_161 : decode cX4_count 161 = .ok (.getfield 12, 3) := by decide +kernel
theorem dX4_count_164 : decode cX4_count 164 = .ok (.getfield 173, 3) := by decide +kernel
theorem dX4_count_167 : decode cX4_count 167 = .ok (.ireturn, 1) := by decide +kernel
theorem dX4_count_168 : decode cX4_count 168 = .ok (.aload_n 0, 1) := by decide +kernel
theorem dX4_count_169 : decode cX4_count 169 = .ok (.getfield 12, 3) := by decide +kernel
theorem dX4_count_172 : decode cX4_count 172 = .ok (.getfield 176, 3) := by decide +kernel
theorem dX4_count_175 : decode cX4_count 175 = .ok (.ireturn, 1) := by decide +kernel
theorem dX4_count_176 : decode cX4_count 176 = .ok (.aload_n 0, 1) := by decide +kernel
theorem dX4_count_177 : decode cX4_count 177 = .ok (.getfield 12, 3) := by decide +kernel
theorem dX4_count_180 : decode cX4_count 180 = .ok (.getfield 125, 3) := by decide +kernel
theorem dX4_count_183 : decode cX4_count 183 = .ok (.invokestatic 118, 3) := by decide +kernel
theorem dX4_count_186 : decode cX4_count 186 = .ok (.ireturn, 1) := by decide +kernel
theorem dX4_count_187 : decode cX4_count 187 = .ok (.aload_n 0, 1) := by decide +kernel
theorem dX4_count_188 : decode cX4_count 188 = .ok (.getfield 12, 3) := by decide +kernel
theorem dX4_count_191 : decode cX4_count 191 = .ok (.invokevirtual 128, 3) := by decide +kernel
theorem dX4_count_194 : decode cX4_count 194 = .ok (.invokestatic 118, 3) := by decide +kernel
theorem dX4_count_197 : decode cX4_count 197 = .ok (.ireturn, 1) := by decide +kernel
theorem dX4_count_198 : decode cX4_count 198 = .ok (.aload_n 0, 1) := by decide +kernel
theorem dX4_count_199 : decode cX4_count 199 = .ok (.getfield 12, 3) := by decide +kernel
theorem dX4_count_202 : decode cX4_count 202 = .ok (.getfield 102, 3) := by decide +kernel
theorem dX4_count_205 : decode cX4_count 205 = .ok (.invokevirtual 179, 3) := by decide +kernel
theorem dX4_count_208 : decode cX4_count 208 = .ok (.invokestatic 118, 3) := by decide +kernel
theorem dX4_count_211 : decode cX4_count 211 = .ok (.ireturn, 1) := by decide +kernel
theorem dX4_count_212 : decode cX4_count 212 = .ok (.aload_n 0, 1) := by decide +kernel
theorem dX4_count_213 : decode cX4_count 213 = .ok (.getfield 12, 3) := by decide +kernel
theorem dX4_count_216 : decode cX4_count 216 = .ok (.getfield 102, 3) := by decide +kernel
theorem dX4_count_219 : decode cX4_count 219 = .ok (.invokevirtual 138, 3) := by decide +kernel
theorem dX4_count_222 : decode cX4_count 222 = .ok (.ireturn, 1) := by decide +kernel
theorem dX4_count_223 : decode cX4_count 223 = .ok (.aload_n 0, 1) := by decide +kernel
theorem dX4_count_224 : decode cX4_count 224 = .ok (.getfield 12, 3) := by decide +kernel
theorem dX4_count_227 : decode cX4_count 227 = .ok (.getfield 102, 3) := by decide +kernel
theorem dX4_count_230 : decode cX4_count 230 = .ok (.invokevirtual 135, 3) := by decide +kernel
theorem dX4_count_233 : decode cX4_count 233 = .ok (.ireturn, 1) := by decide +kernel
theorem dX4_count_234 : decode cX4_count 234 = .ok (.aload_n 0, 1) := by decide +kernel
theorem dX4_count_235 : decode cX4_count 235 = .ok (.getfield 12, 3) := by decide +kernel
theorem dX4_count_238 : decode cX4_count 238 = .ok (.invokevirtual 182, 3) := by decide +kernel
theorem dX4_count_241 : decode cX4_count 241 = .ok (.ireturn, 1) := by decide +kernel
theorem dX4_count_242 : decode cX4_count 242 = .ok (.aload_n 0, 1) := by decide +kernel
theorem dX4_count_243 : decode cX4_count 243 = .ok (.getfield 12, 3) := by decide +kernel
theorem dX4_count_246 : decode cX4_count 246 = .ok (.getfield 185, 3) := by decide +kernel
theorem dX4_count_249 : decode cX4_count 249 = .ok (.ireturn, 1) := by decide +kernel
theorem dX4_count_250 : decode cX4_count 250 = .ok (.aload_n 0, 1) := by decide +kernel
theorem dX4_count_251 : decode cX4_count 251 = .ok (.getfield 12, 3) := by decide +kernel
theorem dX4_count_254 : decode cX4_count 254 = .ok (.getfield 188, 3) := by decide +kernel
theorem dX4_count_257 : decode cX4_count 257 = .ok (.ireturn, 1) := by decide +kernel
theorem dX4_count_258 : decode cX4_count 258 = .ok (.aload_n 0, 1) := by decide +kernel
theorem dX4_count_259 : decode cX4_count 259 = .ok (.getfield 12, 3) := by decide +kernel
theorem dX4_count_262 : decode cX4_count 262 = .ok (.getfield 191, 3) := by decide +kernel
theorem dX4_count_265 : decode cX4_count 265 = .ok (.ireturn, 1) := by decide +kernel
theorem dX4_count_266 : decode cX4_count 266 = .ok (.aload_n 0, 1) := by decide +kernel
theorem dX4_count_267 : decode cX4_count 267 = .ok (.getfield 32, 3) := by decide +kernel
theorem dX4_count_270 : decode cX4_count 270 = .ok (.getfield 194, 3) := by decide +kernel
theorem dX4_count_273 : decode cX4_count 273 = .ok (.ireturn, 1) := by decide +kernel
theorem dX4_count_274 : decode cX4_count 274 = .ok (.aload_n 0, 1) := by decide +kernel
theorem dX4_count_275 : decode cX4_count 275 = .ok (.getfield 39, 3) := by decide +kernel
theorem dX4_count_278 : decode cX4_count 278 = .ok (.getfield 197, 3) := by decide +kernel
theorem dX4_count_281 : decode cX4_count 281 = .ok (.ireturn, 1) := by decide +kernel
theorem dX4_count_282 : decode cX4_count 282 = .ok (.aload_n 0, 1) := by decide +kernel
theorem dX4_count_283 : decode cX4_count 283 = .ok (.getfield 12, 3) := by decide +kernel
theorem dX4_count_286 : decode cX4_count 286 = .ok (.iload_n 1, 1) := by decide +kernel
theorem dX4_count_287 : decode cX4_count 287 = .ok (.bipush 20, 2) := by decide +kernel
theorem dX4_count_289 : decode cX4_count 289 = .ok (.isub, 1) := by decide +kernel
theorem dX4_count_290 : decode cX4_count 290 = .ok (.invokevirtual 200, 3) := by decide +kernel
theorem dX4_count_293 : decode cX4_count 293 = .ok (.ireturn, 1) := by decide +kernel
theorem dX4_count_294 : decode cX4_count 294 = .ok (.bipush (-2), 2) := by decide +kernel
theorem dX4_count_296 : decode cX4_count 296 = .ok (.ireturn, 1) := by decide +kernel
set_option maxRecDepth 20000 in
theorem ggX4_finishAct_X1_remember : GoodIn wsX4_finishAct wsX1_remember := goodIn_r _ [7, 8, 9, 10, 11, 12, 13, 14, 15, 16, 5, 17, 18, 19, 20, 21, 22, 23, 24, 25, 26, 27, 28, 29, 30, 31, 32, 33, 34, 35, 36, 37, 38, 39, 40, 41, 42, 43, 44, 45, 46, 55, 56, 57, 58, 59, 60, 61, 62, 63, 64, 65, 66, 67, 68, 69, 70, 71, 72] (by decide +kernel) (by decide +kernel)
set_option maxRecDepth 20000 in
theorem gX4_finishAct_X1_remember_n203 : GoodIn wsX4_finishAct (wsX1_remember) := ggX4_finishAct_X1_remember
set_option maxRecDepth 20000 in
theorem ggX4_finishAct_X2_copyFrom : GoodIn wsX4_finishAct wsX2_copyFrom := goodIn_r _ [22, 23, 24, 25, 26, 27, 28, 29, 30, 31, 32, 33, 34, 35, 36, 37, 38, 39, 40, 41, 42, 43, 44, 45, 46, 58, 59, 60, 61, 62, 63, 64, 65, 66, 67, 68, 69, 70, 71, 72] (by decide +kernel) (by decide +kernel)
set_option maxRecDepth 20000 in
theorem gX4_finishAct_X2_copyFrom_n51 : GoodIn wsX4_finishAct (wsX2_copyFrom) := ggX4_finishAct_X2_copyFrom
theorem dX4_finishAct_0 : decode cX4_finishAct 0 = .ok (.iload_n 1, 1) := by decide +kernel
theorem dX4_finishAct_1 : decode cX4_finishAct 1 = .ok (.ifCond .lt 25, 3) := by decide +kernel
theorem dX4_finishAct_4 : decode cX4_finishAct 4 = .ok (.aload_n 0, 1) := by decide +kernel
theorem dX4_finishAct_5 : decode cX4_finishAct 5 = .ok (.getfield 32, 3) := by decide +kernel
theorem dX4_finishAct_8 : decode cX4_finishAct 8 = .ok (.aload_n 0, 1) := by decide +kernel
theorem dX4_finishAct_9 : decode cX4_finishAct 9 = .ok (.getfield 12, 3) := by decide +kernel
theorem dX4_finishAct_12 : decode cX4_finishAct 12 = .ok (.invokevirtual 203, 3) := by decide +kernel
theorem dX4_finishAct_15 : decode cX4_finishAct 15 = .ok (.aload_n 0, 1) := by decide +kernel
theorem dX4_finishAct_16 : decode cX4_finishAct 16 = .ok (.getfield 12, 3) := by decide +kernel
theorem dX4_finishAct_19 : decode cX4_finishAct 19 = .ok (.aload_n 0, 1) := by decide +kernel
theorem dX4_finishAct_20 : decode cX4_finishAct 20 = .ok (.getfield 16, 3) := by decide +kernel
theorem dX4_finishAct_23 : decode cX4_finishAct 23 = .ok (.invokevirtual 51, 3) := by decide +kernel
theorem dX4_finishAct_26 : decode cX4_finishAct 26 = .ok (.iload_n 1, 1) := by decide +kernel
theorem dX4_finishAct_27 : decode cX4_finishAct 27 = .ok (.ireturn, 1) := by decide +kernel
set_option maxRecDepth 20000 in
theorem ggX4_imagine_X3_clear : GoodIn wsX4_imagine wsX3_clear := goodIn_r _ [6, 7, 8, 9, 10, 11, 12, 13, 14, 48, 49, 50, 51] (by decide +kernel) (by decide +kernel)
set_option maxRecDepth 20000 in
theorem gX4_imagine_X3_clear_n206 : GoodIn wsX4_imagine (wsX3_clear) := ggX4_imagine_X3_clear
set_option maxRecDepth 20000 in
theorem ggX4_imagine_X3_isFull : GoodIn wsX4_imagine wsX3_isFull := goodIn_r _ [17, 9, 48, 49, 50, 51] (by decide +kernel) (by decide +kernel)
set_option maxRecDepth 20000 in
theorem gX4_imagine_X3_isFull_n179 : GoodIn wsX4_imagine (wsX3_isFull) := ggX4_imagine_X3_isFull
set_option maxRecDepth 20000 in
theorem ggX4_imagine_X3_layWrap : GoodIn wsX4_imagine wsX3_layWrap := goodIn_r _ [20, 7, 8, 9, 21, 22, 23, 24, 25, 26, 27, 4, 28, 10, 48, 49, 50, 51] (by decide +kernel) (by decide +kernel)
set_option maxRecDepth 20000 in
theorem gX4_imagine_X3_layWrap_n209 : GoodIn wsX4_imagine (wsX3_layWrap) := ggX4_imagine_X3_layWrap
set_option maxRecDepth 20000 in
theorem ggX4_imagine_X2_number : GoodIn wsX4_imagine wsX2_number := goodIn_r _ [32, 33, 52, 53, 54, 55, 56, 57, 58, 59, 60, 61, 62] (by decide +kernel) (by decide +kernel)
set_option maxRecDepth 20000 in
theorem gX4_imagine_X2_number_n200 : GoodIn wsX4_imagine (wsX2_number) := ggX4_imagine_X2_number
set_option maxRecDepth 20000 in
theorem ggX4_imagine_X3_moveGuide : GoodIn wsX4_imagine wsX3_moveGuide := goodIn_r _ [36, 10, 37, 38, 39, 48, 49, 50, 51] (by decide +kernel) (by decide +kernel)
set_option maxRecDepth 20000 in
theorem gX4_imagine_X3_moveGuide_n212 : GoodIn wsX4_imagine (wsX3_moveGuide) := ggX4_imagine_X3_moveGuide
theorem dX4_imagine_0 : decode cX4_imagine 0 = .ok (.aload_n 0, 1) := by decide +kernel
theorem dX4_imagine_1 : decode cX4_imagine 1 = .ok (.getfield 25, 3) := by decide +kernel
theorem dX4_imagine_4 : decode cX4_imagine 4 = .ok (.invokevirtual 206, 3) := by decide +kernel
theorem dX4_imagine_7 : decode cX4_imagine 7 = .ok (.iconst 1, 1) := by decide +kernel
theorem dX4_imagine_8 : decode cX4_imagine 8 = .ok (.istore_n 3, 1) := by decide +kernel
theorem dX4_imagine_9 : decode cX4_imagine 9 = .ok (.iload_n 3, 1) := by decide +kernel
theorem dX4_imagine_10 : decode cX4_imagine 10 = .ok (.iload_n 2, 1) := by decide +kernel
theorem dX4_imagine_11 : decode cX4_imagine 11 = .ok (.if_icmp .gt 43, 3) := by decide +kernel
theorem dX4_imagine_14 : decode cX4_imagine 14 = .ok (.aload_n 0, 1) := by decide +kernel
theorem dX4_imagine_15 : decode cX4_imagine 15 = .ok (.getfield 25, 3) := by decide +kernel
theorem dX4_imagine_18 : decode cX4_imagine 18 = .ok (.invokevirtual 179, 3) := by decide +kernel
theorem dX4_imagine_21 : decode cX4_imagine 21 = .ok (.ifCond .ne 33, 3) := by decide +kernel
theorem dX4_imagine_24 : decode cX4_imagine 24 = .ok (.aload_n 0, 1) := by decide +kernel
theorem dX4_imagine_25 : decode cX4_imagine 25 = .ok (.getfield 25, 3) := by decide +kernel
theorem dX4_imagine_28 : decode cX4_imagine 28 = .ok (.invokevirtual 209, 3) := by decide +kernel
theorem dX4_imagine_31 : decode cX4_imagine 31 = .ok (.aload_n 0, 1) := by decide +kernel
theorem dX4_imagine_32 : decode cX4_imagine 32 = .ok (.getfield 25, 3) := by decide +kernel
theorem dX4_imagine_35 : decode cX4_imagine 35 = .ok (.iload_n 1, 1) := by decide +kernel
theorem dX4_imagine_36 : decode cX4_imagine 36 = .ok (.aload_n 0, 1) := by decide +kernel
theorem dX4_imagine_37 : decode cX4_imagine 37 = .ok (.getfield 12, 3) := by decide +kernel
theorem dX4_imagine_40 : decode cX4_imagine 40 = .ok (.iconst 2, 1) := by decide +kernel
theorem dX4_imagine_41 : decode cX4_imagine 41 = .ok (.invokevirtual 200, 3) := by decide +kernel
theorem dX4_imagine_44 : decode cX4_imagine 44 = .ok (.iload_n 3, 1) := by decide +kernel
theorem dX4_imagine_45 : decode cX4_imagine 45 = .ok (.invokevirtual 212, 3) := by decide +kernel
theorem dX4_imagine_48 : decode cX4_imagine 48 = .ok (.iinc 3 1, 3) := by decide +kernel
theorem dX4_imagine_51 : decode cX4_imagine 51 = .ok (.goto (-42), 3) := by decide +kernel
theorem dX4_imagine_54 : decode cX4_imagine 54 = .ok (.return_, 1) := by decide +kernel
theorem dX4_oneIf_0 : decode cX4_oneIf 0 = .ok (.iload_n 0, 1) := by decide +kernel
theorem dX4_oneIf_1 : decode cX4_oneIf 1 = .ok (.ifCond .eq 7, 3) := by decide +kernel
theorem dX4_oneIf_4 : decode cX4_oneIf 4 = .ok (.iconst 1, 1) := by decide +kernel
theorem dX4_oneIf_5 : decode cX4_oneIf 5 = .ok (.goto 4, 3) := by decide +kernel
theorem dX4_oneIf_8 : decode cX4_oneIf 8 = .ok (.iconst 0, 1) := by decide +kernel
theorem dX4_oneIf_9 : decode cX4_oneIf 9 = .ok (.ireturn, 1) := by decide +kernel
theorem dX4_lowest_0 : decode cX4_lowest 0 = .ok (.iload_n 0, 1) := by decide +kernel
theorem dX4_lowest_1 : decode cX4_lowest 1 = .ok (.ifCond .lt 19, 3) := by decide +kernel
theorem dX4_lowest_4 : decode cX4_lowest 4 = .ok (.iload_n 0, 1) := by decide +kernel
theorem dX4_lowest_5 : decode cX4_lowest 5 = .ok (.getstatic 216, 3) := by decide +kernel
theorem dX4_lowest_8 : decode cX4_lowest 8 = .ok (.arraylength, 1) := by decide +kernel
theorem dX4_lowest_9 : decode cX4_lowest 9 = .ok (.if_icmp .ge 11, 3) := by decide +kernel
theorem dX4_lowest_12 : decode cX4_lowest 12 = .ok (.getstatic 216, 3) := by decide +kernel
theorem dX4_lowest_15 : decode cX4_lowest 15 = .ok (.iload_n 0, 1) := by decide +kernel
theorem dX4_lowest_16 : decode cX4_lowest 16 = .ok (.iaload, 1) := by decide +kernel
theorem dX4_lowest_17 : decode cX4_lowest 17 = .ok (.goto 4, 3) := by decide +kernel
theorem dX4_lowest_20 : decode cX4_lowest 20 = .ok (.iconst 0, 1) := by decide +kernel
theorem dX4_lowest_21 : decode cX4_lowest 21 = .ok (.ireturn, 1) := by decide +kernel
theorem dX4_highest_0 : decode cX4_highest 0 = .ok (.iload_n 0, 1) := by decide +kernel
theorem dX4_highest_1 : decode cX4_highest 1 = .ok (.ifCond .lt 19, 3) := by decide +kernel
theorem dX4_highest_4 : decode cX4_highest 4 = .ok (.iload_n 0, 1) := by decide +kernel
theorem dX4_highest_5 : decode cX4_highest 5 = .ok (.getstatic 220, 3) := by decide +kernel
theorem dX4_highest_8 : decode cX4_highest 8 = .ok (.arraylength, 1) := by decide +kernel
theorem dX4_highest_9 : decode cX4_highest 9 = .ok (.if_icmp .ge 11, 3) := by decide +kernel
theorem dX4_highest_12 : decode cX4_highest 12 = .ok (.getstatic 220, 3) := by decide +kernel
theorem dX4_highest_15 : decode cX4_highest 15 = .ok (.iload_n 0, 1) := by decide +kernel
theorem dX4_highest_16 : decode cX4_highest 16 = .ok (.iaload, 1) := by decide +kernel
theorem dX4_highest_17 : decode cX4_highest 17 = .ok (.goto 4, 3) := by decide +kernel
theorem dX4_highest_20 : decode cX4_highest 20 = .ok (.iconst (-1), 1) := by decide +kernel
theorem dX4_highest_21 : decode cX4_highest 21 = .ok (.ireturn, 1) := by decide +kernel
set_option maxRecDepth 20000 in
theorem ggX4_inRange_X4_lowest : GoodIn wsX4_inRange wsX4_lowest := goodIn_r _ [4, 5] (by decide +kernel) (by decide +kernel)
set_option maxRecDepth 20000 in
theorem gX4_inRange_X4_lowest : GoodIn wsX4_inRange (va_wsS RX4 158 yX4_lowest wsX4_lowest) := goodIn_app (goodIn_of _ (by decide +kernel)) ggX4_inRange_X4_lowest
set_option maxRecDepth 20000 in
theorem ggX4_inRange_X4_highest : GoodIn wsX4_inRange wsX4_highest := goodIn_r _ [8, 9] (by decide +kernel) (by decide +kernel)
set_option maxRecDepth 20000 in
theorem gX4_inRange_X4_highest : GoodIn wsX4_inRange (va_wsS RX4 161 yX4_highest wsX4_highest) := goodIn_app (goodIn_of _ (by decide +kernel)) ggX4_inRange_X4_highest
theorem dX4_inRange_0 : decode cX4_inRange 0 = .ok (.iload_n 1, 1) := by decide +kernel
theorem dX4_inRange_1 : decode cX4_inRange 1 = .ok (.iload_n 0, 1) := by decide +kernel
theorem dX4_inRange_2 : decode cX4_inRange 2 = .ok (.invokestatic 158, 3) := by decide +kernel
theorem dX4_inRange_5 : decode cX4_inRange 5 = .ok (.if_icmp .lt 15, 3) := by decide +kernel
theorem dX4_inRange_8 : decode cX4_inRange 8 = .ok (.iload_n 1, 1) := by decide +kernel
theorem dX4_inRange_9 : decode cX4_inRange 9 = .ok (.iload_n 0, 1) := by decide +kernel
theorem dX4_inRange_10 : decode cX4_inRange 10 = .ok (.invokestatic 161, 3) := by decide +kernel
theorem dX4_inRange_13 : decode cX4_inRange 13 = .ok (.if_icmp .gt 7, 3) := by decide +kernel
theorem dX4_inRange_16 : decode cX4_inRange 16 = .ok (.iconst 1, 1) := by decide +kernel
theorem dX4_inRange_17 : decode cX4_inRange 17 = .ok (.goto 4, 3) := by decide +kernel
theorem dX4_inRange_20 : decode cX4_inRange 20 = .ok (.iconst 0, 1) := by decide +kernel
theorem dX4_inRange_21 : decode cX4_inRange 21 = .ok (.ireturn, 1) := by decide +kernel
