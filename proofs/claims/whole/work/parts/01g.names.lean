theorem dX5_ribbons_12 : decode cX5_ribbons 12 = .ok (.iload_n 2, 1) := by decide +kernel
theorem dX5_ribbons_13 : decode cX5_ribbons 13 = .ok (.invokevirtual 150, 3) := by decide +kernel
theorem dX5_ribbons_16 : decode cX5_ribbons 16 = .ok (.ifCond .eq 7, 3) := by decide +kernel
theorem dX5_ribbons_19 : decode cX5_ribbons 19 = .ok (.iconst 1, 1) := by decide +kernel
theorem dX5_ribbons_20 : decode cX5_ribbons 20 = .ok (.goto 4, 3) := by decide +kernel
theorem dX5_ribbons_23 : decode cX5_ribbons 23 = .ok (.iconst 0, 1) := by decide +kernel
theorem dX5_ribbons_24 : decode cX5_ribbons 24 = .ok (.iadd, 1) := by decide +kernel
theorem dX5_ribbons_25 : decode cX5_ribbons 25 = .ok (.istore_n 1, 1) := by decide +kernel
theorem dX5_ribbons_26 : decode cX5_ribbons 26 = .ok (.iinc 2 1, 3) := by decide +kernel
theorem dX5_ribbons_29 : decode cX5_ribbons 29 = .ok (.goto (-25), 3) := by decide +kernel
theorem dX5_ribbons_32 : decode cX5_ribbons 32 = .ok (.iload_n 1, 1) := by decide +kernel
theorem dX5_ribbons_33 : decode cX5_ribbons 33 = .ok (.ireturn, 1) := by decide +kernel
set_option maxRecDepth 20000 in
theorem ggX5_isAnyBad_X5_isBad : GoodIn wsX5_isAnyBad wsX5_isBad := goodIn_r _ [5, 6, 7, 8, 9, 10, 11, 12, 13, 14, 15, 16, 17, 18] (by decide +kernel) (by decide +kernel)
set_option maxRecDepth 20000 in
theorem gX5_isAnyBad_X5_isBad : GoodIn wsX5_isAnyBad (wsV RX5 153 RX5 yX5_isBad wsX5_isBad) := goodIn_app (goodIn_of _ (by decide +kernel)) ggX5_isAnyBad_X5_isBad
theorem dX5_isAnyBad_0 : decode cX5_isAnyBad 0 = .ok (.iconst 0, 1) := by decide +kernel
theorem dX5_isAnyBad_1 : decode cX5_isAnyBad 1 = .ok (.istore_n 1, 1) := by decide +kernel
theorem dX5_isAnyBad_2 : decode cX5_isAnyBad 2 = .ok (.iconst 0, 1) := by decide +kernel
theorem dX5_isAnyBad_3 : decode cX5_isAnyBad 3 = .ok (.istore_n 2, 1) := by decide +kernel
theorem dX5_isAnyBad_4 : decode cX5_isAnyBad 4 = .ok (.iload_n 2, 1) := by decide +kernel
theorem dX5_isAnyBad_5 : decode cX5_isAnyBad 5 = .ok (.bipush 12, 2) := by decide +kernel
theorem dX5_isAnyBad_7 : decode cX5_isAnyBad 7 = .ok (.if_icmp .ge 27, 3) := by decide +kernel
theorem dX5_isAnyBad_10 : decode cX5_isAnyBad 10 = .ok (.iload_n 1, 1) := by decide +kernel
theorem dX5_isAnyBad_11 : decode cX5_isAnyBad 11 = .ok (.ifCond .ne 11, 3) := by decide +kernel
theorem dX5_isAnyBad_14 : decode cX5_isAnyBad 14 = .ok (.aload_n 0, 1) := by decide +kernel
theorem dX5_isAnyBad_15 : decode cX5_isAnyBad 15 = .ok (.iload_n 2, 1) := by decide +kernel
theorem dX5_isAnyBad_16 : decode cX5_isAnyBad 16 = .ok (.invokevirtual 153, 3) := by decide +kernel
theorem dX5_isAnyBad_19 : decode cX5_isAnyBad 19 = .ok (.ifCond .eq 7, 3) := by decide +kernel
theorem dX5_isAnyBad_22 : decode cX5_isAnyBad 22 = .ok (.iconst 1, 1) := by decide +kernel
theorem dX5_isAnyBad_23 : decode cX5_isAnyBad 23 = .ok (.goto 4, 3) := by decide +kernel
theorem dX5_isAnyBad_26 : decode cX5_isAnyBad 26 = .ok (.iconst 0, 1) := by decide +kernel
theorem dX5_isAnyBad_27 : decode cX5_isAnyBad 27 = .ok (.istore_n 1, 1) := by decide +kernel
theorem dX5_isAnyBad_28 : decode cX5_isAnyBad 28 = .ok (.iinc 2 1, 3) := by decide +kernel
theorem dX5_isAnyBad_31 : decode cX5_isAnyBad 31 = .ok (.goto (-27), 3) := by decide +kernel
theorem dX5_isAnyBad_34 : decode cX5_isAnyBad 34 = .ok (.iload_n 1, 1) := by decide +kernel
theorem dX5_isAnyBad_35 : decode cX5_isAnyBad 35 = .ok (.ireturn, 1) := by decide +kernel
set_option maxRecDepth 20000 in
theorem ggX5_wrong_X5_isAnyBad : GoodIn wsX5_wrong wsX5_isAnyBad := goodIn_r _ [6, 7, 8, 9, 5, 10, 1, 35, 36, 37, 38, 39, 40, 41, 42, 43, 44, 45, 46] (by decide +kernel) (by decide +kernel)
set_option maxRecDepth 20000 in
theorem gX5_wrong_X5_isAnyBad : GoodIn wsX5_wrong (wsV RX5 156 RX5 yX5_isAnyBad wsX5_isAnyBad) := goodIn_app (goodIn_of _ (by decide +kernel)) ggX5_wrong_X5_isAnyBad
set_option maxRecDepth 20000 in
theorem ggX5_wrong_X5_ribbons : GoodIn wsX5_wrong wsX5_ribbons := goodIn_r _ [14, 15, 16, 17, 5, 18, 19, 20, 21, 22, 23, 1, 24, 25, 26, 35, 36, 37, 38, 39, 40, 41, 42, 43, 44, 45, 46] (by decide +kernel) (by decide +kernel)
set_option maxRecDepth 20000 in
theorem gX5_wrong_X5_ribbons : GoodIn wsX5_wrong (wsV RX5 159 RX5 yX5_ribbons wsX5_ribbons) := goodIn_app (goodIn_of _ (by decide +kernel)) ggX5_wrong_X5_ribbons
set_option maxRecDepth 20000 in
theorem ggX5_wrong_X5_evenness : GoodIn wsX5_wrong wsX5_evenness := goodIn_r _ [30, 1, 31, 32, 33, 5, 34, 35, 36, 37, 38, 39, 40, 41, 42, 43, 44, 45, 46] (by decide +kernel) (by decide +kernel)
set_option maxRecDepth 20000 in
theorem gX5_wrong_X5_evenness : GoodIn wsX5_wrong (wsV RX5 162 RX5 yX5_evenness wsX5_evenness) := goodIn_app (goodIn_of _ (by decide +kernel)) ggX5_wrong_X5_evenness
theorem dX5_wrong_0 : decode cX5_wrong 0 = .ok (.aload_n 0, 1) := by decide +kernel
theorem dX5_wrong_1 : decode cX5_wrong 1 = .ok (.getfield 7, 3) := by decide +kernel
theorem dX5_wrong_4 : decode cX5_wrong 4 = .ok (.bipush 33, 2) := by decide +kernel
theorem dX5_wrong_6 : decode cX5_wrong 6 = .ok (.iaload, 1) := by decide +kernel
theorem dX5_wrong_7 : decode cX5_wrong 7 = .ok (.iconst 1, 1) := by decide +kernel
theorem dX5_wrong_8 : decode cX5_wrong 8 = .ok (.if_icmp .ne 7, 3) := by decide +kernel
theorem dX5_wrong_11 : decode cX5_wrong 11 = .ok (.iconst 1, 1) := by decide +kernel
theorem dX5_wrong_12 : decode cX5_wrong 12 = .ok (.goto 53, 3) := by decide +kernel
theorem dX5_wrong_15 : decode cX5_wrong 15 = .ok (.aload_n 0, 1) := by decide +kernel
theorem dX5_wrong_16 : decode cX5_wrong 16 = .ok (.getfield 7, 3) := by decide +kernel
theorem dX5_wrong_19 : decode cX5_wrong 19 = .ok (.bipush 30, 2) := by decide +kernel
theorem dX5_wrong_21 : decode cX5_wrong 21 = .ok (.iaload, 1) := by decide +kernel
theorem dX5_wrong_22 : decode cX5_wrong 22 = .ok (.ifCond .ne 7, 3) := by decide +kernel
theorem dX5_wrong_25 : decode cX5_wrong 25 = .ok (.iconst 2, 1) := by decide +kernel
theorem dX5_wrong_26 : decode cX5_wrong 26 = .ok (.goto 39, 3) := by decide +kernel
theorem dX5_wrong_29 : decode cX5_wrong 29 = .ok (.aload_n 0, 1) := by decide +kernel
theorem dX5_wrong_30 : decode cX5_wrong 30 = .ok (.invokevirtual 156, 3) := by decide +kernel
theorem dX5_wrong_33 : decode cX5_wrong 33 = .ok (.ifCond .eq 7, 3) := by decide +kernel
theorem dX5_wrong_36 : decode cX5_wrong 36 = .ok (.iconst 3, 1) := by decide +kernel
theorem dX5_wrong_37 : decode cX5_wrong 37 = .ok (.goto 28, 3) := by decide +kernel
theorem dX5_wrong_40 : decode cX5_wrong 40 = .ok (.aload_n 0, 1) := by decide +kernel
theorem dX5_wrong_41 : decode cX5_wrong 41 = .ok (.invokevirtual 159, 3) := by decide +kernel
theorem dX5_wrong_44 : decode cX5_wrong 44 = .ok (.ifCond .le 7, 3) := by decide +kernel
theorem dX5_wrong_47 : decode cX5_wrong 47 = .ok (.iconst 4, 1) := by decide +kernel
theorem dX5_wrong_48 : decode cX5_wrong 48 = .ok (.goto 17, 3) := by decide +kernel
theorem dX5_wrong_51 : decode cX5_wrong 51 = .ok (.aload_n 0, 1) := by decide +kernel
theorem dX5_wrong_52 : decode cX5_wrong 52 = .ok (.invokevirtual 162, 3) := by decide +kernel
theorem dX5_wrong_55 : decode cX5_wrong 55 = .ok (.bipush 10, 2) := by decide +kernel
theorem dX5_wrong_57 : decode cX5_wrong 57 = .ok (.if_icmp .lt 7, 3) := by decide +kernel
theorem dX5_wrong_60 : decode cX5_wrong 60 = .ok (.iconst 5, 1) := by decide +kernel
theorem dX5_wrong_61 : decode cX5_wrong 61 = .ok (.goto 4, 3) := by decide +kernel
theorem dX5_wrong_64 : decode cX5_wrong 64 = .ok (.iconst 0, 1) := by decide +kernel
theorem dX5_wrong_65 : decode cX5_wrong 65 = .ok (.ireturn, 1) := by decide +kernel
set_option maxRecDepth 20000 in
theorem ggX5_breaksIn_X5_copy : GoodIn wsX5_breaksIn wsX5_copy := goodIn_r _ [6] (by decide +kernel) (by decide +kernel)
set_option maxRecDepth 20000 in
theorem gX5_breaksIn_X5_copy : GoodIn wsX5_breaksIn (va_wsS RX5 32 yX5_copy wsX5_copy) := goodIn_app (goodIn_of _ (by decide +kernel)) ggX5_breaksIn_X5_copy
set_option maxRecDepth 20000 in
theorem ggX5_breaksIn_X5_isIdle : GoodIn wsX5_breaksIn wsX5_isIdle := goodIn_r _ [10, 1, 11, 12, 13, 5, 14, 15, 16, 17, 18, 38, 39, 40, 41, 42, 43, 44, 45, 46, 47, 48, 49] (by decide +kernel) (by decide +kernel)
set_option maxRecDepth 20000 in
theorem gX5_breaksIn_X5_isIdle : GoodIn wsX5_breaksIn (wsV RX5 93 RX5 yX5_isIdle wsX5_isIdle) := goodIn_app (goodIn_of _ (by decide +kernel)) ggX5_breaksIn_X5_isIdle
set_option maxRecDepth 20000 in
theorem ggX5_breaksIn_X5_turns : GoodIn wsX5_breaksIn wsX5_turns := goodIn_r _ [22, 1, 23, 24, 25, 5, 26, 27, 28, 29, 30, 31, 32, 33, 34, 35, 36, 37, 38, 39, 40, 41, 42, 43, 44, 45, 46, 47, 48, 49] (by decide +kernel) (by decide +kernel)
set_option maxRecDepth 20000 in
theorem gX5_breaksIn_X5_turns : GoodIn wsX5_breaksIn (wsV RX5 96 RX5 yX5_turns wsX5_turns) := goodIn_app (goodIn_of _ (by decide +kernel)) ggX5_breaksIn_X5_turns
theorem dX5_breaksIn_0 : decode cX5_breaksIn 0 = .ok (.aload_n 0, 1) := by decide +kernel
theorem dX5_breaksIn_1 : decode cX5_breaksIn 1 = .ok (.getfield 7, 3) := by decide +kernel
theorem dX5_breaksIn_4 : decode cX5_breaksIn 4 = .ok (.bipush 33, 2) := by decide +kernel
theorem dX5_breaksIn_6 : decode cX5_breaksIn 6 = .ok (.iaload, 1) := by decide +kernel
theorem dX5_breaksIn_7 : decode cX5_breaksIn 7 = .ok (.iconst 1, 1) := by decide +kernel
theorem dX5_breaksIn_8 : decode cX5_breaksIn 8 = .ok (.if_icmp .eq 13, 3) := by decide +kernel
theorem dX5_breaksIn_11 : decode cX5_breaksIn 11 = .ok (.aload_n 0, 1) := by decide +kernel
theorem dX5_breaksIn_12 : decode cX5_breaksIn 12 = .ok (.getfield 7, 3) := by decide +kernel
theorem dX5_breaksIn_15 : decode cX5_breaksIn 15 = .ok (.bipush 30, 2) := by decide +kernel
theorem dX5_breaksIn_17 : decode cX5_breaksIn 17 = .ok (.iaload, 1) := by decide +kernel
theorem dX5_breaksIn_18 : decode cX5_breaksIn 18 = .ok (.ifCond .ne 6, 3) := by decide +kernel
theorem dX5_breaksIn_21 : decode cX5_breaksIn 21 = .ok (.bipush (-4), 2) := by decide +kernel
theorem dX5_breaksIn_23 : decode cX5_breaksIn 23 = .ok (.ireturn, 1) := by decide +kernel
theorem dX5_breaksIn_24 : decode cX5_breaksIn 24 = .ok (.aload_n 0, 1) := by decide +kernel
theorem dX5_breaksIn_25 : decode cX5_breaksIn 25 = .ok (.getfield 7, 3) := by decide +kernel
theorem dX5_breaksIn_28 : decode cX5_breaksIn 28 = .ok (.aload_n 0, 1) := by decide +kernel
theorem dX5_breaksIn_29 : decode cX5_breaksIn 29 = .ok (.getfield 16, 3) := by decide +kernel
theorem dX5_breaksIn_32 : decode cX5_breaksIn 32 = .ok (.invokestatic 32, 3) := by decide +kernel
theorem dX5_breaksIn_35 : decode cX5_breaksIn 35 = .ok (.iconst 0, 1) := by decide +kernel
theorem dX5_breaksIn_36 : decode cX5_breaksIn 36 = .ok (.istore_n 1, 1) := by decide +kernel
theorem dX5_breaksIn_37 : decode cX5_breaksIn 37 = .ok (.iload_n 1, 1) := by decide +kernel
theorem dX5_breaksIn_38 : decode cX5_breaksIn 38 = .ok (.sipush 1000, 3) := by decide +kernel
theorem dX5_breaksIn_41 : decode cX5_breaksIn 41 = .ok (.if_icmp .ge 21, 3) := by decide +kernel
theorem dX5_breaksIn_44 : decode cX5_breaksIn 44 = .ok (.aload_n 0, 1) := by decide +kernel
theorem dX5_breaksIn_45 : decode cX5_breaksIn 45 = .ok (.invokevirtual 93, 3) := by decide +kernel
theorem dX5_breaksIn_48 : decode cX5_breaksIn 48 = .ok (.ifCond .ne 14, 3) := by decide +kernel
theorem dX5_breaksIn_51 : decode cX5_breaksIn 51 = .ok (.aload_n 0, 1) := by decide +kernel
theorem dX5_breaksIn_52 : decode cX5_breaksIn 52 = .ok (.invokevirtual 96, 3) := by decide +kernel
theorem dX5_breaksIn_55 : decode cX5_breaksIn 55 = .ok (.istore_n 2, 1) := by decide +kernel
theorem dX5_breaksIn_56 : decode cX5_breaksIn 56 = .ok (.iinc 1 1, 3) := by decide +kernel
theorem dX5_breaksIn_59 : decode cX5_breaksIn 59 = .ok (.goto (-22), 3) := by decide +kernel
theorem dX5_breaksIn_62 : decode cX5_breaksIn 62 = .ok (.aload_n 0, 1) := by decide +kernel
theorem dX5_breaksIn_63 : decode cX5_breaksIn 63 = .ok (.getfield 7, 3) := by decide +kernel
theorem dX5_breaksIn_66 : decode cX5_breaksIn 66 = .ok (.bipush 33, 2) := by decide +kernel
theorem dX5_breaksIn_68 : decode cX5_breaksIn 68 = .ok (.iaload, 1) := by decide +kernel
theorem dX5_breaksIn_69 : decode cX5_breaksIn 69 = .ok (.iconst 1, 1) := by decide +kernel
theorem dX5_breaksIn_70 : decode cX5_breaksIn 70 = .ok (.if_icmp .ne 7, 3) := by decide +kernel
theorem dX5_breaksIn_73 : decode cX5_breaksIn 73 = .ok (.iload_n 1, 1) := by decide +kernel
theorem dX5_breaksIn_74 : decode cX5_breaksIn 74 = .ok (.goto 5, 3) := by decide +kernel
theorem dX5_breaksIn_77 : decode cX5_breaksIn 77 = .ok (.bipush (-5), 2) := by decide +kernel
theorem dX5_breaksIn_79 : decode cX5_breaksIn 79 = .ok (.istore_n 2, 1) := by decide +kernel
theorem dX5_breaksIn_80 : decode cX5_breaksIn 80 = .ok (.aload_n 0, 1) := by decide +kernel
theorem dX5_breaksIn_81 : decode cX5_breaksIn 81 = .ok (.getfield 16, 3) := by decide +kernel
theorem dX5_breaksIn_84 : decode cX5_breaksIn 84 = .ok (.aload_n 0, 1) := by decide +kernel
theorem dX5_breaksIn_85 : decode cX5_breaksIn 85 = .ok (.getfield 7, 3) := by decide +kernel
theorem dX5_breaksIn_88 : decode cX5_breaksIn 88 = .ok (.invokestatic 32, 3) := by decide +kernel
theorem dX5_breaksIn_91 : decode cX5_breaksIn 91 = .ok (.iload_n 2, 1) := by decide +kernel
theorem dX5_breaksIn_92 : decode cX5_breaksIn 92 = .ok (.ireturn, 1) := by decide +kernel
set_option maxRecDepth 20000 in
theorem ggX5_windsWith_X5_copy : GoodIn wsX5_windsWith wsX5_copy := goodIn_r _ [6] (by decide +kernel) (by decide +kernel)
set_option maxRecDepth 20000 in
theorem gX5_windsWith_X5_copy : GoodIn wsX5_windsWith (va_wsS RX5 32 yX5_copy wsX5_copy) := goodIn_app (goodIn_of _ (by decide +kernel)) ggX5_windsWith_X5_copy
set_option maxRecDepth 20000 in
theorem ggX5_windsWith_X5_isFull : GoodIn wsX5_windsWith wsX5_isFull := goodIn_r _ [10, 11, 12, 13, 5, 14, 1, 50, 51, 52, 53, 54, 55, 56, 57, 58, 59, 60, 61] (by decide +kernel) (by decide +kernel)
set_option maxRecDepth 20000 in
theorem gX5_windsWith_X5_isFull : GoodIn wsX5_windsWith (wsV RX5 48 RX5 yX5_isFull wsX5_isFull) := goodIn_app (goodIn_of _ (by decide +kernel)) ggX5_windsWith_X5_isFull
set_option maxRecDepth 20000 in
theorem ggX5_windsWith_X5_place : GoodIn wsX5_windsWith wsX5_place := goodIn_r _ [18, 1, 19, 20, 5, 21, 50, 51, 52, 53, 54, 55, 56, 57, 58, 59, 60, 61] (by decide +kernel) (by decide +kernel)
set_option maxRecDepth 20000 in
theorem gX5_windsWith_X5_place : GoodIn wsX5_windsWith (wsV RX5 52 RX5 yX5_place wsX5_place) := goodIn_app (goodIn_of _ (by decide +kernel)) ggX5_windsWith_X5_place
set_option maxRecDepth 20000 in
theorem ggX5_windsWith_X5_guideGoes : GoodIn wsX5_windsWith wsX5_guideGoes := goodIn_r _ [25, 1, 50, 51, 52, 53, 54, 55, 56, 57, 58, 59, 60, 61] (by decide +kernel) (by decide +kernel)
set_option maxRecDepth 20000 in
theorem gX5_windsWith_X5_guideGoes : GoodIn wsX5_windsWith (wsV RX5 58 RX5 yX5_guideGoes wsX5_guideGoes) := goodIn_app (goodIn_of _ (by decide +kernel)) ggX5_windsWith_X5_guideGoes
set_option maxRecDepth 20000 in
theorem ggX5_windsWith_X5_evenness : GoodIn wsX5_windsWith wsX5_evenness := goodIn_r _ [29, 1, 11, 12, 13, 5, 14, 50, 51, 52, 53, 54, 55, 56, 57, 58, 59, 60, 61] (by decide +kernel) (by decide +kernel)
set_option maxRecDepth 20000 in
theorem gX5_windsWith_X5_evenness : GoodIn wsX5_windsWith (wsV RX5 162 RX5 yX5_evenness wsX5_evenness) := goodIn_app (goodIn_of _ (by decide +kernel)) ggX5_windsWith_X5_evenness
set_option maxRecDepth 20000 in
theorem ggX5_windsWith_X5_ribbons : GoodIn wsX5_windsWith wsX5_ribbons := goodIn_r _ [33, 34, 35, 36, 5, 37, 38, 39, 40, 41, 42, 1, 43, 44, 45, 50, 51, 52, 53, 54, 55, 56, 57, 58, 59, 60, 61] (by decide +kernel) (by decide +kernel)
set_option maxRecDepth 20000 in
theorem gX5_windsWith_X5_ribbons : GoodIn wsX5_windsWith (wsV RX5 159 RX5 yX5_ribbons wsX5_ribbons) := goodIn_app (goodIn_of _ (by decide +kernel)) ggX5_windsWith_X5_ribbons
set_option maxRecDepth 20000 in
theorem ggX5_windsWith_X5_bare : GoodIn wsX5_windsWith wsX5_bare := goodIn_r _ [49, 1, 50, 51, 52, 53, 54, 55, 56, 57, 58, 59, 60, 61] (by decide +kernel) (by decide +kernel)
set_option maxRecDepth 20000 in
theorem gX5_windsWith_X5_bare : GoodIn wsX5_windsWith (wsV RX5 165 RX5 yX5_bare wsX5_bare) := goodIn_app (goodIn_of _ (by decide +kernel)) ggX5_windsWith_X5_bare
theorem dX5_windsWith_0 : decode cX5_windsWith 0 = .ok (.aload_n 0, 1) := by decide +kernel
theorem dX5_windsWith_1 : decode cX5_windsWith 1 = .ok (.getfield 7, 3) := by decide +kernel
theorem dX5_windsWith_4 : decode cX5_windsWith 4 = .ok (.aload_n 0, 1) := by decide +kernel
theorem dX5_windsWith_5 : decode cX5_windsWith 5 = .ok (.getfield 16, 3) := by decide +kernel
theorem dX5_windsWith_8 : decode cX5_windsWith 8 = .ok (.invokestatic 32, 3) := by decide +kernel
theorem dX5_windsWith_11 : decode cX5_windsWith 11 = .ok (.iconst 0, 1) := by decide +kernel
theorem dX5_windsWith_12 : decode cX5_windsWith 12 = .ok (.istore 4, 2) := by decide +kernel
theorem dX5_windsWith_14 : decode cX5_windsWith 14 = .ok (.iload 4, 2) := by decide +kernel
theorem dX5_windsWith_16 : decode cX5_windsWith 16 = .ok (.bipush 12, 2) := by decide +kernel
theorem dX5_windsWith_18 : decode cX5_windsWith 18 = .ok (.if_icmp .ge 19, 3) := by decide +kernel
theorem dX5_windsWith_21 : decode cX5_windsWith 21 = .ok (.aload_n 0, 1) := by decide +kernel
theorem dX5_windsWith_22 : decode cX5_windsWith 22 = .ok (.getfield 7, 3) := by decide +kernel
theorem dX5_windsWith_25 : decode cX5_windsWith 25 = .ok (.iconst 0, 1) := by decide +kernel
theorem dX5_windsWith_26 : decode cX5_windsWith 26 = .ok (.iload 4, 2) := by decide +kernel
theorem dX5_windsWith_28 : decode cX5_windsWith 28 = .ok (.iadd, 1) := by decide +kernel
theorem dX5_windsWith_29 : decode cX5_windsWith 29 = .ok (.iconst 0, 1) := by decide +kernel
theorem dX5_windsWith_30 : decode cX5_windsWith 30 = .ok (.iastore, 1) := by decide +kernel
theorem dX5_windsWith_31 : decode cX5_windsWith 31 = .ok (.iinc 4 1, 3) := by decide +kernel
theorem dX5_windsWith_34 : decode cX5_windsWith 34 = .ok (.goto (-20), 3) := by decide +kernel
theorem dX5_windsWith_37 : decode cX5_windsWith 37 = .ok (.aload_n 0, 1) := by decide +kernel
theorem dX5_windsWith_38 : decode cX5_windsWith 38 = .ok (.getfield 7, 3) := by decide +kernel
theorem dX5_windsWith_41 : decode cX5_windsWith 41 = .ok (.bipush 29, 2) := by decide +kernel
theorem dX5_windsWith_43 : decode cX5_windsWith 43 = .ok (.iconst 0, 1) := by decide +kernel
theorem dX5_windsWith_44 : decode cX5_windsWith 44 = .ok (.iastore, 1) := by decide +kernel
theorem dX5_windsWith_45 : decode cX5_windsWith 45 = .ok (.aload_n 0, 1) := by decide +kernel
theorem dX5_windsWith_46 : decode cX5_windsWith 46 = .ok (.getfield 7, 3) := by decide +kernel
theorem dX5_windsWith_49 : decode cX5_windsWith 49 = .ok (.bipush 35, 2) := by decide +kernel
theorem dX5_windsWith_51 : decode cX5_windsWith 51 = .ok (.iconst 0, 1) := by decide +kernel
theorem dX5_windsWith_52 : decode cX5_windsWith 52 = .ok (.iastore, 1) := by decide +kernel
theorem dX5_windsWith_53 : decode cX5_windsWith 53 = .ok (.aload_n 0, 1) := by decide +kernel
theorem dX5_windsWith_54 : decode cX5_windsWith 54 = .ok (.getfield 7, 3) := by decide +kernel
theorem dX5_windsWith_57 : decode cX5_windsWith 57 = .ok (.bipush 24, 2) := by decide +kernel
theorem dX5_windsWith_59 : decode cX5_windsWith 59 = .ok (.iload_n 1, 1) := by decide +kernel
theorem dX5_windsWith_60 : decode cX5_windsWith 60 = .ok (.iastore, 1) := by decide +kernel
theorem dX5_windsWith_61 : decode cX5_windsWith 61 = .ok (.iconst 0, 1) := by decide +kernel
theorem dX5_windsWith_62 : decode cX5_windsWith 62 = .ok (.istore 4, 2) := by decide +kernel
theorem dX5_windsWith_64 : decode cX5_windsWith 64 = .ok (.iload 4, 2) := by decide +kernel
theorem dX5_windsWith_66 : decode cX5_windsWith 66 = .ok (.iload_n 2, 1) := by decide +kernel
theorem dX5_windsWith_67 : decode cX5_windsWith 67 = .ok (.if_icmp .ge 46, 3) := by decide +kernel
theorem dX5_windsWith_70 : decode cX5_windsWith 70 = .ok (.aload_n 0, 1) := by decide +kernel
theorem dX5_windsWith_71 : decode cX5_windsWith 71 = .ok (.invokevirtual 48, 3) := by decide +kernel
theorem dX5_windsWith_74 : decode cX5_windsWith 74 = .ok (.ifCond .ne 39, 3) := by decide +kernel
theorem dX5_windsWith_77 : decode cX5_windsWith 77 = .ok (.aload_n 0, 1) := by decide +kernel
theorem dX5_windsWith_78 : decode cX5_windsWith 78 = .ok (.getfield 7, 3) := by decide +kernel
theorem dX5_windsWith_81 : decode cX5_windsWith 81 = .ok (.iconst 0, 1) := by decide +kernel
theorem dX5_windsWith_82 : decode cX5_windsWith 82 = .ok (.aload_n 0, 1) := by decide +kernel
theorem dX5_windsWith_83 : decode cX5_windsWith 83 = .ok (.invokevirtual 52, 3) := by decide +kernel
theorem dX5_windsWith_86 : decode cX5_windsWith 86 = .ok (.iadd, 1) := by decide +kernel
theorem dX5_windsWith_87 : decode cX5_windsWith 87 = .ok (.dup2, 1) := by decide +kernel
theorem dX5_windsWith_88 : decode cX5_windsWith 88 = .ok (.iaload, 1) := by decide +kernel
theorem dX5_windsWith_89 : decode cX5_windsWith 89 = .ok (.iconst 1, 1) := by decide +kernel
theorem dX5_windsWith_90 : decode cX5_windsWith 90 = .ok (.iadd, 1) := by decide +kernel
theorem dX5_windsWith_91 : decode cX5_windsWith 91 = .ok (.iastore, 1) := by decide +kernel
theorem dX5_windsWith_92 : decode cX5_windsWith 92 = .ok (.aload_n 0, 1) := by decide +kernel
theorem dX5_windsWith_93 : decode cX5_windsWith 93 = .ok (.getfield 7, 3) := by decide +kernel
theorem dX5_windsWith_96 : decode cX5_windsWith 96 = .ok (.bipush 35, 2) := by decide +kernel
theorem dX5_windsWith_98 : decode cX5_windsWith 98 = .ok (.dup2, 1) := by decide +kernel
theorem dX5_windsWith_99 : decode cX5_windsWith 99 = .ok (.iaload, 1) := by decide +kernel
theorem dX5_windsWith_100 : decode cX5_windsWith 100 = .ok (.iconst 1, 1) := by decide +kernel
theorem dX5_windsWith_101 : decode cX5_windsWith 101 = .ok (.iadd, 1) := by decide +kernel
theorem dX5_windsWith_102 : decode cX5_windsWith 102 = .ok (.iastore, 1) := by decide +kernel
theorem dX5_windsWith_103 : decode cX5_windsWith 103 = .ok (.aload_n 0, 1) := by decide +kernel
theorem dX5_windsWith_104 : decode cX5_windsWith 104 = .ok (.invokevirtual 58, 3) := by decide +kernel
theorem dX5_windsWith_107 : decode cX5_windsWith 107 = .ok (.iinc 4 1, 3) := by decide +kernel
theorem dX5_windsWith_110 : decode cX5_windsWith 110 = .ok (.goto (-46), 3) := by decide +kernel
theorem dX5_windsWith_113 : decode cX5_windsWith 113 = .ok (.iload_n 3, 1) := by decide +kernel
theorem dX5_windsWith_114 : decode cX5_windsWith 114 = .ok (.ifCond .ne 10, 3) := by decide +kernel
theorem dX5_windsWith_117 : decode cX5_windsWith 117 = .ok (.aload_n 0, 1) := by decide +kernel
theorem dX5_windsWith_118 : decode cX5_windsWith 118 = .ok (.invokevirtual 162, 3) := by decide +kernel
theorem dX5_windsWith_121 : decode cX5_windsWith 121 = .ok (.goto 19, 3) := by decide +kernel
theorem dX5_windsWith_124 : decode cX5_windsWith 124 = .ok (.iload_n 3, 1) := by decide +kernel
theorem dX5_windsWith_125 : decode cX5_windsWith 125 = .ok (.iconst 1, 1) := by decide +kernel
theorem dX5_windsWith_126 : decode cX5_windsWith 126 = .ok (.if_icmp .ne 10, 3) := by decide +kernel
theorem dX5_windsWith_129 : decode cX5_windsWith 129 = .ok (.aload_n 0, 1) := by decide +kernel
theorem dX5_windsWith_130 : decode cX5_windsWith 130 = .ok (.invokevirtual 159, 3) := by decide +kernel
theorem dX5_windsWith_133 : decode cX5_windsWith 133 = .ok (.goto 7, 3) := by decide +kernel
theorem dX5_windsWith_136 : decode cX5_windsWith 136 = .ok (.aload_n 0, 1) := by decide +kernel
theorem dX5_windsWith_137 : decode cX5_windsWith 137 = .ok (.invokevirtual 165, 3) := by decide +kernel
theorem dX5_windsWith_140 : decode cX5_windsWith 140 = .ok (.istore 4, 2) := by decide +kernel
theorem dX5_windsWith_142 : decode cX5_windsWith 142 = .ok (.aload_n 0, 1) := by decide +kernel
theorem dX5_windsWith_143 : decode cX5_windsWith 143 = .ok (.getfield 16, 3) := by decide +kernel
theorem dX5_windsWith_146 : decode cX5_windsWith 146 = .ok (.aload_n 0, 1) := by decide +kernel
theorem dX5_windsWith_147 : decode cX5_windsWith 147 = .ok (.getfield 7, 3) := by decide +kernel
theorem dX5_windsWith_150 : decode cX5_windsWith 150 = .ok (.invokestatic 32, 3) := by decide +kernel
theorem dX5_windsWith_153 : decode cX5_windsWith 153 = .ok (.iload 4, 2) := by decide +kernel
theorem dX5_windsWith_155 : decode cX5_windsWith 155 = .ok (.ireturn, 1) := by decide +kernel
theorem dX5_bare_0 : decode cX5_bare 0 = .ok (.iconst 0, 1) := by decide +kernel
theorem dX5_bare_1 : decode cX5_bare 1 = .ok (.istore_n 1, 1) := by decide +kernel
theorem dX5_bare_2 : decode cX5_bare 2 = .ok (.iconst 0, 1) := by decide +kernel
theorem dX5_bare_3 : decode cX5_bare 3 = .ok (.istore_n 2, 1) := by decide +kernel
theorem dX5_bare_4 : decode cX5_bare 4 = .ok (.iload_n 2, 1) := by decide +kernel
theorem dX5_bare_5 : decode cX5_bare 5 = .ok (.bipush 12, 2) := by decide +kernel
theorem dX5_bare_7 : decode cX5_bare 7 = .ok (.if_icmp .ge 28, 3) := by decide +kernel
theorem dX5_bare_10 : decode cX5_bare 10 = .ok (.iload_n 1, 1) := by decide +kernel
theorem dX5_bare_11 : decode cX5_bare 11 = .ok (.aload_n 0, 1) := by decide +kernel
theorem dX5_bare_12 : decode cX5_bare 12 = .ok (.getfield 7, 3) := by decide +kernel
theorem dX5_bare_15 : decode cX5_bare 15 = .ok (.iconst 0, 1) := by decide +kernel
theorem dX5_bare_16 : decode cX5_bare 16 = .ok (.iload_n 2, 1) := by decide +kernel
theorem dX5_bare_17 : decode cX5_bare 17 = .ok (.iadd, 1) := by decide +kernel
theorem dX5_bare_18 : decode cX5_bare 18 = .ok (.iaload, 1) := by decide +kernel
theorem dX5_bare_19 : decode cX5_bare 19 = .ok (.ifCond .ne 7, 3) := by decide +kernel
theorem dX5_bare_22 : decode cX5_bare 22 = .ok (.iconst 1, 1) := by decide +kernel
theorem dX5_bare_23 : decode cX5_bare 23 = .ok (.goto 4, 3) := by decide +kernel
theorem dX5_bare_26 : decode cX5_bare 26 = .ok (.iconst 0, 1) := by decide +kernel
theorem dX5_bare_27 : decode cX5_bare 27 = .ok (.iadd, 1) := by decide +kernel
theorem dX5_bare_28 : decode cX5_bare 28 = .ok (.istore_n 1, 1) := by decide +kernel
theorem dX5_bare_29 : decode cX5_bare 29 = .ok (.iinc 2 1, 3) := by decide +kernel
theorem dX5_bare_32 : decode cX5_bare 32 = .ok (.goto (-28), 3) := by decide +kernel
theorem dX5_bare_35 : decode cX5_bare 35 = .ok (.iload_n 1, 1) := by decide +kernel
theorem dX5_bare_36 : decode cX5_bare 36 = .ok (.ireturn, 1) := by decide +kernel
set_option maxRecDepth 20000 in
theorem ggX5_ifTraverse_X5_in : GoodIn wsX5_ifTraverse wsX5_in := goodIn_r _ [7] (by decide +kernel) (by decide +kernel)
set_option maxRecDepth 20000 in
theorem gX5_ifTraverse_X5_in : GoodIn wsX5_ifTraverse (va_wsS RX5 63 yX5_in wsX5_in) := goodIn_app (goodIn_of _ (by decide +kernel)) ggX5_ifTraverse_X5_in
set_option maxRecDepth 20000 in
theorem ggX5_ifTraverse_X5_windsWith : GoodIn wsX5_ifTraverse wsX5_windsWith := goodIn_r _ [11, 12, 13, 14, 15, 6, 16, 17, 18, 19, 20, 21, 22, 23, 24, 25, 26, 27, 28, 29, 30, 31, 32, 33, 34, 35, 36, 37, 38, 39, 40, 41, 42, 43, 44, 45, 46, 47, 48, 49, 50, 51, 1, 4, 5, 7, 52, 53, 54, 55, 56, 57, 58, 59, 60, 61, 62, 63, 64, 65, 66, 67] (by decide +kernel) (by decide +kernel)
set_option maxRecDepth 20000 in
theorem gX5_ifTraverse_X5_windsWith : GoodIn wsX5_ifTraverse (wsV RX5 170 RX5 yX5_windsWith wsX5_windsWith) := goodIn_app (goodIn_of _ (by decide +kernel)) ggX5_ifTraverse_X5_windsWith
theorem dX5_ifTraverse_0 : decode cX5_ifTraverse 0 = .ok (.iload_n 1, 1) := by decide +kernel
theorem dX5_ifTraverse_1 : decode cX5_ifTraverse 1 = .ok (.i2l, 1) := by decide +kernel
theorem dX5_ifTraverse_2 : decode cX5_ifTraverse 2 = .ok (.lconst 1, 1) := by decide +kernel
theorem dX5_ifTraverse_3 : decode cX5_ifTraverse 3 = .ok (.ldc2_w 61, 3) := by decide +kernel
theorem dX5_ifTraverse_6 : decode cX5_ifTraverse 6 = .ok (.invokestatic 63, 3) := by decide +kernel
theorem dX5_ifTraverse_9 : decode cX5_ifTraverse 9 = .ok (.ifCond .eq 27, 3) := by decide +kernel
theorem dX5_ifTraverse_12 : decode cX5_ifTraverse 12 = .ok (.iload_n 2, 1) := by decide +kernel
theorem dX5_ifTraverse_13 : decode cX5_ifTraverse 13 = .ok (.i2l, 1) := by decide +kernel
theorem dX5_ifTraverse_14 : decode cX5_ifTraverse 14 = .ok (.lconst 1, 1) := by decide +kernel
theorem dX5_ifTraverse_15 : decode cX5_ifTraverse 15 = .ok (.ldc2_w 99, 3) := by decide +kernel
theorem dX5_ifTraverse_18 : decode cX5_ifTraverse 18 = .ok (.invokestatic 63, 3) := by decide +kernel
theorem dX5_ifTraverse_21 : decode cX5_ifTraverse 21 = .ok (.ifCond .eq 15, 3) := by decide +kernel
theorem dX5_ifTraverse_24 : decode cX5_ifTraverse 24 = .ok (.iload_n 3, 1) := by decide +kernel
theorem dX5_ifTraverse_25 : decode cX5_ifTraverse 25 = .ok (.i2l, 1) := by decide +kernel
theorem dX5_ifTraverse_26 : decode cX5_ifTraverse 26 = .ok (.lconst 0, 1) := by decide +kernel
theorem dX5_ifTraverse_27 : decode cX5_ifTraverse 27 = .ok (.ldc2_w 168, 3) := by decide +kernel
theorem dX5_ifTraverse_30 : decode cX5_ifTraverse 30 = .ok (.invokestatic 63, 3) := by decide +kernel
theorem dX5_ifTraverse_33 : decode cX5_ifTraverse 33 = .ok (.ifCond .ne 6, 3) := by decide +kernel
theorem dX5_ifTraverse_36 : decode cX5_ifTraverse 36 = .ok (.bipush (-2), 2) := by decide +kernel
theorem dX5_ifTraverse_38 : decode cX5_ifTraverse 38 = .ok (.ireturn, 1) := by decide +kernel
theorem dX5_ifTraverse_39 : decode cX5_ifTraverse 39 = .ok (.aload_n 0, 1) := by decide +kernel
theorem dX5_ifTraverse_40 : decode cX5_ifTraverse 40 = .ok (.iload_n 1, 1) := by decide +kernel
theorem dX5_ifTraverse_41 : decode cX5_ifTraverse 41 = .ok (.iload_n 2, 1) := by decide +kernel
theorem dX5_ifTraverse_42 : decode cX5_ifTraverse 42 = .ok (.iload_n 3, 1) := by decide +kernel
theorem dX5_ifTraverse_43 : decode cX5_ifTraverse 43 = .ok (.invokevirtual 170, 3) := by decide +kernel
theorem dX5_ifTraverse_46 : decode cX5_ifTraverse 46 = .ok (.ireturn, 1) := by decide +kernel
set_option maxRecDepth 20000 in
theorem ggX5_bestTraverse_X5_in : GoodIn wsX5_bestTraverse wsX5_in := goodIn_r _ [5] (by decide +kernel) (by decide +kernel)
set_option maxRecDepth 20000 in
theorem gX5_bestTraverse_X5_in : GoodIn wsX5_bestTraverse (va_wsS RX5 63 yX5_in wsX5_in) := goodIn_app (goodIn_of _ (by decide +kernel)) ggX5_bestTraverse_X5_in
set_option maxRecDepth 20000 in
theorem ggX5_bestTraverse_X5_windsWith : GoodIn wsX5_bestTraverse wsX5_windsWith := goodIn_r _ [9, 10, 11, 12, 13, 4, 14, 15, 16, 17, 18, 19, 20, 21, 22, 23, 24, 25, 26, 27, 28, 29, 30, 31, 32, 33, 34, 35, 36, 37, 38, 39, 40, 41, 42, 43, 44, 45, 46, 47, 48, 49, 50, 2, 3, 5, 51, 52, 53, 54, 55, 56, 57, 58, 59, 60, 61, 62, 63, 64, 65, 66] (by decide +kernel) (by decide +kernel)
set_option maxRecDepth 20000 in
theorem gX5_bestTraverse_X5_windsWith : GoodIn wsX5_bestTraverse (wsV RX5 170 RX5 yX5_windsWith wsX5_windsWith) := goodIn_app (goodIn_of _ (by decide +kernel)) ggX5_bestTraverse_X5_windsWith
theorem dX5_bestTraverse_0 : decode cX5_bestTraverse 0 = .ok (.iload_n 1, 1) := by decide +kernel
theorem dX5_bestTraverse_1 : decode cX5_bestTraverse 1 = .ok (.i2l, 1) := by decide +kernel
theorem dX5_bestTraverse_2 : decode cX5_bestTraverse 2 = .ok (.lconst 1, 1) := by decide +kernel
theorem dX5_bestTraverse_3 : decode cX5_bestTraverse 3 = .ok (.ldc2_w 99, 3) := by decide +kernel
theorem dX5_bestTraverse_6 : decode cX5_bestTraverse 6 = .ok (.invokestatic 63, 3) := by decide +kernel
theorem dX5_bestTraverse_9 : decode cX5_bestTraverse 9 = .ok (.ifCond .ne 6, 3) := by decide +kernel
theorem dX5_bestTraverse_12 : decode cX5_bestTraverse 12 = .ok (.bipush (-2), 2) := by decide +kernel
theorem dX5_bestTraverse_14 : decode cX5_bestTraverse 14 = .ok (.ireturn, 1) := by decide +kernel
theorem dX5_bestTraverse_15 : decode cX5_bestTraverse 15 = .ok (.iconst 1, 1) := by decide +kernel
theorem dX5_bestTraverse_16 : decode cX5_bestTraverse 16 = .ok (.istore_n 2, 1) := by decide +kernel
theorem dX5_bestTraverse_17 : decode cX5_bestTraverse 17 = .ok (.iconst 2, 1) := by decide +kernel
theorem dX5_bestTraverse_18 : decode cX5_bestTraverse 18 = .ok (.istore_n 3, 1) := by decide +kernel
theorem dX5_bestTraverse_19 : decode cX5_bestTraverse 19 = .ok (.iload_n 3, 1) := by decide +kernel
theorem dX5_bestTraverse_20 : decode cX5_bestTraverse 20 = .ok (.bipush 12, 2) := by decide +kernel
theorem dX5_bestTraverse_22 : decode cX5_bestTraverse 22 = .ok (.if_icmp .ge 32, 3) := by decide +kernel
theorem dX5_bestTraverse_25 : decode cX5_bestTraverse 25 = .ok (.aload_n 0, 1) := by decide +kernel
theorem dX5_bestTraverse_26 : decode cX5_bestTraverse 26 = .ok (.iload_n 3, 1) := by decide +kernel
theorem dX5_bestTraverse_27 : decode cX5_bestTraverse 27 = .ok (.iload_n 1, 1) := by decide +kernel
theorem dX5_bestTraverse_28 : decode cX5_bestTraverse 28 = .ok (.iconst 0, 1) := by decide +kernel
theorem dX5_bestTraverse_29 : decode cX5_bestTraverse 29 = .ok (.invokevirtual 170, 3) := by decide +kernel
theorem dX5_bestTraverse_32 : decode cX5_bestTraverse 32 = .ok (.aload_n 0, 1) := by decide +kernel
theorem dX5_bestTraverse_33 : decode cX5_bestTraverse 33 = .ok (.iload_n 2, 1) := by decide +kernel
theorem dX5_bestTraverse_34 : decode cX5_bestTraverse 34 = .ok (.iload_n 1, 1) := by decide +kernel
theorem dX5_bestTraverse_35 : decode cX5_bestTraverse 35 = .ok (.iconst 0, 1) := by decide +kernel
theorem dX5_bestTraverse_36 : decode cX5_bestTraverse 36 = .ok (.invokevirtual 170, 3) := by decide +kernel
theorem dX5_bestTraverse_39 : decode cX5_bestTraverse 39 = .ok (.if_icmp .ge 7, 3) := by decide +kernel
theorem dX5_bestTraverse_42 : decode cX5_bestTraverse 42 = .ok (.iload_n 3, 1) := by decide +kernel
theorem dX5_bestTraverse_43 : decode cX5_bestTraverse 43 = .ok (.goto 4, 3) := by decide +kernel
theorem dX5_bestTraverse_46 : decode cX5_bestTraverse 46 = .ok (.iload_n 2, 1) := by decide +kernel
theorem dX5_bestTraverse_47 : decode cX5_bestTraverse 47 = .ok (.istore_n 2, 1) := by decide +kernel
theorem dX5_bestTraverse_48 : decode cX5_bestTraverse 48 = .ok (.iinc 3 1, 3) := by decide +kernel
theorem dX5_bestTraverse_51 : decode cX5_bestTraverse 51 = .ok (.goto (-32), 3) := by decide +kernel
theorem dX5_bestTraverse_54 : decode cX5_bestTraverse 54 = .ok (.iload_n 2, 1) := by decide +kernel
theorem dX5_bestTraverse_55 : decode cX5_bestTraverse 55 = .ok (.ireturn, 1) := by decide +kernel
set_option maxRecDepth 20000 in
theorem ggX5_period_X5_in : GoodIn wsX5_period wsX5_in := goodIn_r _ [5] (by decide +kernel) (by decide +kernel)
set_option maxRecDepth 20000 in
theorem gX5_period_X5_in : GoodIn wsX5_period (va_wsS RX5 63 yX5_in wsX5_in) := goodIn_app (goodIn_of _ (by decide +kernel)) ggX5_period_X5_in
theorem dX5_period_0 : decode cX5_period 0 = .ok (.iload_n 1, 1) := by decide +kernel
theorem dX5_period_1 : decode cX5_period 1 = .ok (.i2l, 1) := by decide +kernel
theorem dX5_period_2 : decode cX5_period 2 = .ok (.lconst 1, 1) := by decide +kernel
theorem dX5_period_3 : decode cX5_period 3 = .ok (.ldc2_w 61, 3) := by decide +kernel
theorem dX5_period_6 : decode cX5_period 6 = .ok (.invokestatic 63, 3) := by decide +kernel
theorem dX5_period_9 : decode cX5_period 9 = .ok (.ifCond .ne 6, 3) := by decide +kernel
theorem dX5_period_12 : decode cX5_period 12 = .ok (.bipush (-2), 2) := by decide +kernel
theorem dX5_period_14 : decode cX5_period 14 = .ok (.ireturn, 1) := by decide +kernel
theorem dX5_period_15 : decode cX5_period 15 = .ok (.iconst 1, 1) := by decide +kernel
theorem dX5_period_16 : decode cX5_period 16 = .ok (.istore_n 2, 1) := by decide +kernel
theorem dX5_period_17 : decode cX5_period 17 = .ok (.iload_n 2, 1) := by decide +kernel
theorem dX5_period_18 : decode cX5_period 18 = .ok (.iload_n 1, 1) := by decide +kernel
theorem dX5_period_19 : decode cX5_period 19 = .ok (.imul, 1) := by decide +kernel
theorem dX5_period_20 : decode cX5_period 20 = .ok (.bipush 22, 2) := by decide +kernel
theorem dX5_period_22 : decode cX5_period 22 = .ok (.irem, 1) := by decide +kernel
theorem dX5_period_23 : decode cX5_period 23 = .ok (.ifCond .eq 9, 3) := by decide +kernel
theorem dX5_period_26 : decode cX5_period 26 = .ok (.iinc 2 1, 3) := by decide +kernel
theorem dX5_period_29 : decode cX5_period 29 = .ok (.goto (-12), 3) := by decide +kernel
theorem dX5_period_32 : decode cX5_period 32 = .ok (.iload_n 2, 1) := by decide +kernel
theorem dX5_period_33 : decode cX5_period 33 = .ok (.ireturn, 1) := by decide +kernel
theorem dX5_allKnots_0 : decode cX5_allKnots 0 = .ok (.iconst 0, 1) := by decide +kernel
theorem dX5_allKnots_1 : decode cX5_allKnots 1 = .ok (.istore_n 1, 1) := by decide +kernel
theorem dX5_allKnots_2 : decode cX5_allKnots 2 = .ok (.iconst 0, 1) := by decide +kernel
theorem dX5_allKnots_3 : decode cX5_allKnots 3 = .ok (.istore_n 2, 1) := by decide +kernel
theorem dX5_allKnots_4 : decode cX5_allKnots 4 = .ok (.iload_n 2, 1) := by decide +kernel
theorem dX5_allKnots_5 : decode cX5_allKnots 5 = .ok (.bipush 12, 2) := by decide +kernel
theorem dX5_allKnots_7 : decode cX5_allKnots 7 = .ok (.if_icmp .ge 21, 3) := by decide +kernel
theorem dX5_allKnots_10 : decode cX5_allKnots 10 = .ok (.iload_n 1, 1) := by decide +kernel
theorem dX5_allKnots_11 : decode cX5_allKnots 11 = .ok (.aload_n 0, 1) := by decide +kernel
theorem dX5_allKnots_12 : decode cX5_allKnots 12 = .ok (.getfield 7, 3) := by decide +kernel
theorem dX5_allKnots_15 : decode cX5_allKnots 15 = .ok (.bipush 12, 2) := by decide +kernel
theorem dX5_allKnots_17 : decode cX5_allKnots 17 = .ok (.iload_n 2, 1) := by decide +kernel
theorem dX5_allKnots_18 : decode cX5_allKnots 18 = .ok (.iadd, 1) := by decide +kernel
theorem dX5_allKnots_19 : decode cX5_allKnots 19 = .ok (.iaload, 1) := by decide +kernel
theorem dX5_allKnots_20 : decode cX5_allKnots 20 = .ok (.iadd, 1) := by decide +kernel
theorem dX5_allKnots_21 : decode cX5_allKnots 21 = .ok (.istore_n 1, 1) := by decide +kernel
theorem dX5_allKnots_22 : decode cX5_allKnots 22 = .ok (.iinc 2 1, 3) := by decide +kernel
theorem dX5_allKnots_25 : decode cX5_allKnots 25 = .ok (.goto (-21), 3) := by decide +kernel
theorem dX5_allKnots_28 : decode cX5_allKnots 28 = .ok (.iload_n 1, 1) := by decide +kernel
theorem dX5_allKnots_29 : decode cX5_allKnots 29 = .ok (.ireturn, 1) := by decide +kernel
set_option maxRecDepth 20000 in
theorem ggX5_count_X5_wraps : GoodIn wsX5_count wsX5_wraps := goodIn_r _ [8, 1, 57, 58, 59, 60, 61, 62, 63, 64, 65, 66, 67, 68] (by decide +kernel) (by decide +kernel)
set_option maxRecDepth 20000 in
theorem gX5_count_X5_wraps : GoodIn wsX5_count (wsV RX5 112 RX5 yX5_wraps wsX5_wraps) := goodIn_app (goodIn_of _ (by decide +kernel)) ggX5_count_X5_wraps
set_option maxRecDepth 20000 in
theorem ggX5_count_X5_place : GoodIn wsX5_count wsX5_place := goodIn_r _ [12, 1, 13, 14, 7, 15, 57, 58, 59, 60, 61, 62, 63, 64, 65, 66, 67, 68] (by decide +kernel) (by decide +kernel)
set_option maxRecDepth 20000 in
theorem gX5_count_X5_place : GoodIn wsX5_count (wsV RX5 52 RX5 yX5_place wsX5_place) := goodIn_app (goodIn_of _ (by decide +kernel)) ggX5_count_X5_place
set_option maxRecDepth 20000 in
theorem ggX5_count_X5_isFull : GoodIn wsX5_count wsX5_isFull := goodIn_r _ [19, 20, 21, 22, 7, 23, 1, 57, 58, 59, 60, 61, 62, 63, 64, 65, 66, 67, 68] (by decide +kernel) (by decide +kernel)
set_option maxRecDepth 20000 in
theorem gX5_count_X5_isFull : GoodIn wsX5_count (wsV RX5 48 RX5 yX5_isFull wsX5_isFull) := goodIn_app (goodIn_of _ (by decide +kernel)) ggX5_count_X5_isFull
set_option maxRecDepth 20000 in
theorem ggX5_count_X5_evenness : GoodIn wsX5_count wsX5_evenness := goodIn_r _ [27, 1, 20, 21, 22, 7, 23, 57, 58, 59, 60, 61, 62, 63, 64, 65, 66, 67, 68] (by decide +kernel) (by decide +kernel)
set_option maxRecDepth 20000 in
theorem gX5_count_X5_evenness : GoodIn wsX5_count (wsV RX5 162 RX5 yX5_evenness wsX5_evenness) := goodIn_app (goodIn_of _ (by decide +kernel)) ggX5_count_X5_evenness
set_option maxRecDepth 20000 in
theorem ggX5_count_X5_ribbons : GoodIn wsX5_count wsX5_ribbons := goodIn_r _ [31, 32, 33, 34, 7, 35, 36, 37, 38, 39, 40, 1, 41, 42, 43, 57, 58, 59, 60, 61, 62, 63, 64, 65, 66, 67, 68] (by decide +kernel) (by decide +kernel)
set_option maxRecDepth 20000 in
theorem gX5_count_X5_ribbons : GoodIn wsX5_count (wsV RX5 159 RX5 yX5_ribbons wsX5_ribbons) := goodIn_app (goodIn_of _ (by decide +kernel)) ggX5_count_X5_ribbons
set_option maxRecDepth 20000 in
theorem ggX5_count_X5_allKnots : GoodIn wsX5_count wsX5_allKnots := goodIn_r _ [47, 1, 57, 58, 59, 60, 61, 62, 63, 64, 65, 66, 67, 68] (by decide +kernel) (by decide +kernel)
set_option maxRecDepth 20000 in
theorem gX5_count_X5_allKnots : GoodIn wsX5_count (wsV RX5 174 RX5 yX5_allKnots wsX5_allKnots) := goodIn_app (goodIn_of _ (by decide +kernel)) ggX5_count_X5_allKnots
set_option maxRecDepth 20000 in
theorem ggX5_count_X5_breaks : GoodIn wsX5_count wsX5_breaks := goodIn_r _ [51, 1, 52, 57, 58, 59, 60, 61, 62, 63, 64, 65, 66, 67, 68] (by decide +kernel) (by decide +kernel)
set_option maxRecDepth 20000 in
theorem gX5_count_X5_breaks : GoodIn wsX5_count (wsV RX5 177 RX5 yX5_breaks wsX5_breaks) := goodIn_app (goodIn_of _ (by decide +kernel)) ggX5_count_X5_breaks
set_option maxRecDepth 20000 in
theorem ggX5_count_X5_doffs : GoodIn wsX5_count wsX5_doffs := goodIn_r _ [56, 1, 52, 57, 58, 59, 60, 61, 62, 63, 64, 65, 66, 67, 68] (by decide +kernel) (by decide +kernel)
set_option maxRecDepth 20000 in
theorem gX5_count_X5_doffs : GoodIn wsX5_count (wsV RX5 180 RX5 yX5_doffs wsX5_doffs) := goodIn_app (goodIn_of _ (by decide +kernel)) ggX5_count_X5_doffs
theorem dX5_count_0 : decode cX5_count 0 = .ok (.iload_n 1, 1) := by decide +kernel
theorem dX5_count_1 : decode cX5_count 1 = .ok (.tableswitch 260 0 24 #[115, 120, 128, 133, 151, 159, 167, 175, 191, 204, 209, 214, 219, 227, 232, 237, 242, 260, 260, 260, 247, 247, 247, 247, 247], 115) := by decide +kernel
theorem dX5_count_116 : decode cX5_count 116 = .ok (.aload_n 0, 1) := by decide +kernel
theorem dX5_count_117 : decode cX5_count 117 = .ok (.invokevirtual 112, 3) := by decide +kernel
theorem dX5_count_120 : decode cX5_count 120 = .ok (.ireturn, 1) := by decide +kernel
theorem dX5_count_121 : decode cX5_count 121 = .ok (.aload_n 0, 1) := by decide +kernel
theorem dX5_count_122 : decode cX5_count 122 = .ok (.getfield 7, 3) := by decide +kernel
theorem dX5_count_125 : decode cX5_count 125 = .ok (.bipush 30, 2) := by decide +kernel
theorem dX5_count_127 : decode cX5_count 127 = .ok (.iaload, 1) := by decide +kernel
theorem dX5_count_128 : decode cX5_count 128 = .ok (.ireturn, 1) := by decide +kernel
theorem dX5_count_129 : decode cX5_count 129 = .ok (.aload_n 0, 1) := by decide +kernel
theorem dX5_count_130 : decode cX5_count 130 = .ok (.invokevirtual 52, 3) := by decide +kernel
theorem dX5_count_133 : decode cX5_count 133 = .ok (.ireturn, 1) := by decide +kernel
theorem dX5_count_134 : decode cX5_count 134 = .ok (.aload_n 0, 1) := by decide +kernel
theorem dX5_count_135 : decode cX5_count 135 = .ok (.getfield 7, 3) := by decide +kernel
theorem dX5_count_138 : decode cX5_count 138 = .ok (.bipush 29, 2) := by decide +kernel
theorem dX5_count_140 : decode cX5_count 140 = .ok (.iaload, 1) := by decide +kernel
theorem dX5_count_141 : decode cX5_count 141 = .ok (.bipush 11, 2) := by decide +kernel
theorem dX5_count_143 : decode cX5_count 143 = .ok (.if_icmp .lt 7, 3) := by decide +kernel
theorem dX5_count_146 : decode cX5_count 146 = .ok (.iconst 1, 1) := by decide +kernel
theorem dX5_count_147 : decode cX5_count 147 = .ok (.goto 4, 3) := by decide +kernel
theorem dX5_count_150 : decode cX5_count 150 = .ok (.iconst 0, 1) := by decide +kernel
theorem dX5_count_151 : decode cX5_count 151 = .ok (.ireturn, 1) := by decide +kernel
theorem dX5_count_152 : decode cX5_count 152 = .ok (.aload_n 0, 1) := by decide +kernel
theorem dX5_count_153 : decode cX5_count 153 = .ok (.getfield 7, 3) := by decide +kernel
theorem dX5_count_156 : decode cX5_count 156 = .ok (.bipush 31, 2) := by decide +kernel
theorem dX5_count_158 : decode cX5_count 158 = .ok (.iaload, 1) := by decide +kernel
theorem dX5_count_159 : decode cX5_count 159 = .ok (.ireturn, 1) := by decide +kernel
theorem dX5_count_160 : decode cX5_count 160 = .ok (.aload_n 0, 1) := by decide +kernel
theorem dX5_count_161 : decode cX5_count 161 = .ok (.getfield 7, 3) := by decide +kernel
theorem dX5_count_164 : decode cX5_count 164 = .ok (.bipush 32, 2) := by decide +kernel
theorem dX5_count_166 : decode cX5_count 166 = .ok (.iaload, 1) := by decide +kernel
theorem dX5_count_167 : decode cX5_count 167 = .ok (.ireturn, 1) := by decide +kernel
theorem dX5_count_168 : decode cX5_count 168 = .ok (.aload_n 0, 1) := by decide +kernel
theorem dX5_count_169 : decode cX5_count 169 = .ok (.getfield 7, 3) := by decide +kernel
theorem dX5_count_172 : decode cX5_count 172 = .ok (.bipush 33, 2) := by decide +kernel
theorem dX5_count_174 : decode cX5_count 174 = .ok (.iaload, 1) := by decide +kernel
theorem dX5_count_175 : decode cX5_count 175 = .ok (.ireturn, 1) := by decide +kernel
theorem dX5_count_176 : decode cX5_count 176 = .ok (.aload_n 0, 1) := by decide +kernel
theorem dX5_count_177 : decode cX5_count 177 = .ok (.getfield 7, 3) := by decide +kernel
theorem dX5_count_180 : decode cX5_count 180 = .ok (.bipush 30, 2) := by decide +kernel
theorem dX5_count_182 : decode cX5_count 182 = .ok (.iaload, 1) := by decide +kernel
theorem dX5_count_183 : decode cX5_count 183 = .ok (.ifCond .ne 7, 3) := by decide +kernel
theorem dX5_count_186 : decode cX5_count 186 = .ok (.iconst 1, 1) := by decide +kernel
theorem dX5_count_187 : decode cX5_count 187 = .ok (.goto 4, 3) := by decide +kernel
theorem dX5_count_190 : decode cX5_count 190 = .ok (.iconst 0, 1) := by decide +kernel
theorem dX5_count_191 : decode cX5_count 191 = .ok (.ireturn, 1) := by decide +kernel
theorem dX5_count_192 : decode cX5_count 192 = .ok (.aload_n 0, 1) := by decide +kernel
theorem dX5_count_193 : decode cX5_count 193 = .ok (.invokevirtual 48, 3) := by decide +kernel
theorem dX5_count_196 : decode cX5_count 196 = .ok (.ifCond .eq 7, 3) := by decide +kernel
theorem dX5_count_199 : decode cX5_count 199 = .ok (.iconst 1, 1) := by decide +kernel
theorem dX5_count_200 : decode cX5_count 200 = .ok (.goto 4, 3) := by decide +kernel
theorem dX5_count_203 : decode cX5_count 203 = .ok (.iconst 0, 1) := by decide +kernel
theorem dX5_count_204 : decode cX5_count 204 = .ok (.ireturn, 1) := by decide +kernel
theorem dX5_count_205 : decode cX5_count 205 = .ok (.aload_n 0, 1) := by decide +kernel
theorem dX5_count_206 : decode cX5_count 206 = .ok (.invokevirtual 162, 3) := by decide +kernel
theorem dX5_count_209 : decode cX5_count 209 = .ok (.ireturn, 1) := by decide +kernel
theorem dX5_count_210 : decode cX5_count 210 = .ok (.aload_n 0, 1) := by decide +kernel
theorem dX5_count_211 : decode cX5_count 211 = .ok (.invokevirtual 159, 3) := by decide +kernel
theorem dX5_count_214 : decode cX5_count 214 = .ok (.ireturn, 1) := by decide +kernel
theorem dX5_count_215 : decode cX5_count 215 = .ok (.aload_n 0, 1) := by decide +kernel
theorem dX5_count_216 : decode cX5_count 216 = .ok (.invokevirtual 174, 3) := by decide +kernel
theorem dX5_count_219 : decode cX5_count 219 = .ok (.ireturn, 1) := by decide +kernel
theorem dX5_count_220 : decode cX5_count 220 = .ok (.aload_n 0, 1) := by decide +kernel
theorem dX5_count_221 : decode cX5_count 221 = .ok (.getfield 7, 3) := by decide +kernel
theorem dX5_count_224 : decode cX5_count 224 = .ok (.bipush 35, 2) := by decide +kernel
theorem dX5_count_226 : decode cX5_count 226 = .ok (.iaload, 1) := by decide +kernel
theorem dX5_count_227 : decode cX5_count 227 = .ok (.ireturn, 1) := by decide +kernel
theorem dX5_count_228 : decode cX5_count 228 = .ok (.aload_n 0, 1) := by decide +kernel
theorem dX5_count_229 : decode cX5_count 229 = .ok (.invokevirtual 177, 3) := by decide +kernel
theorem dX5_count_232 : decode cX5_count 232 = .ok (.ireturn, 1) := by decide +kernel
theorem dX5_count_233 : decode cX5_count 233 = .ok (.aload_n 0, 1) := by decide +kernel
theorem dX5_count_234 : decode cX5_count 234 = .ok (.invokevirtual 180, 3) := by decide +kernel
theorem dX5_count_237 : decode cX5_count 237 = .ok (.ireturn, 1) := by decide +kernel
theorem dX5_count_238 : decode cX5_count 238 = .ok (.aload_n 0, 1) := by decide +kernel
theorem dX5_count_239 : decode cX5_count 239 = .ok (.getfield 36, 3) := by decide +kernel
theorem dX5_count_242 : decode cX5_count 242 = .ok (.ireturn, 1) := by decide +kernel
theorem dX5_count_243 : decode cX5_count 243 = .ok (.aload_n 0, 1) := by decide +kernel
theorem dX5_count_244 : decode cX5_count 244 = .ok (.getfield 115, 3) := by decide +kernel
theorem dX5_count_247 : decode cX5_count 247 = .ok (.ireturn, 1) := by decide +kernel
theorem dX5_count_248 : decode cX5_count 248 = .ok (.aload_n 0, 1) := by decide +kernel
theorem dX5_count_249 : decode cX5_count 249 = .ok (.getfield 7, 3) := by decide +kernel
theorem dX5_count_252 : decode cX5_count 252 = .ok (.bipush 24, 2) := by decide +kernel
theorem dX5_count_254 : decode cX5_count 254 = .ok (.iload_n 1, 1) := by decide +kernel
theorem dX5_count_255 : decode cX5_count 255 = .ok (.iadd, 1) := by decide +kernel
theorem dX5_count_256 : decode cX5_count 256 = .ok (.bipush 20, 2) := by decide +kernel
theorem dX5_count_258 : decode cX5_count 258 = .ok (.isub, 1) := by decide +kernel
theorem dX5_count_259 : decode cX5_count 259 = .ok (.iaload, 1) := by decide +kernel
theorem dX5_count_260 : decode cX5_count 260 = .ok (.ireturn, 1) := by decide +kernel
theorem dX5_count_261 : decode cX5_count 261 = .ok (.bipush (-2), 2) := by decide +kernel
theorem dX5_count_263 : decode cX5_count 263 = .ok (.ireturn, 1) := by decide +kernel
theorem dJ9_abs_0f7a4_0 : decode cJ9_abs_0f7a4 0 = .ok (.iload_n 0, 1) := by decide +kernel
theorem dJ9_abs_0f7a4_1 : decode cJ9_abs_0f7a4 1 = .ok (.ifCond .ge 8, 3) := by decide +kernel
theorem dJ9_abs_0f7a4_4 : decode cJ9_abs_0f7a4 4 = .ok (.iload_n 0, 1) := by decide +kernel
theorem dJ9_abs_0f7a4_5 : decode cJ9_abs_0f7a4 5 = .ok (.ineg, 1) := by decide +kernel
theorem dJ9_abs_0f7a4_6 : decode cJ9_abs_0f7a4 6 = .ok (.goto 4, 3) := by decide +kernel
theorem dJ9_abs_0f7a4_9 : decode cJ9_abs_0f7a4 9 = .ok (.iload_n 0, 1) := by decide +kernel
theorem dJ9_abs_0f7a4_10 : decode cJ9_abs_0f7a4 10 = .ok (.ireturn, 1) := by decide +kernel
theorem dJ9_max_7cf53_0 : decode cJ9_max_7cf53 0 = .ok (.iload_n 0, 1) := by decide +kernel
theorem dJ9_max_7cf53_1 : decode cJ9_max_7cf53 1 = .ok (.iload_n 1, 1) := by decide +kernel
theorem dJ9_max_7cf53_2 : decode cJ9_max_7cf53 2 = .ok (.if_icmp .lt 7, 3) := by decide +kernel
theorem dJ9_max_7cf53_5 : decode cJ9_max_7cf53 5 = .ok (.iload_n 0, 1) := by decide +kernel
theorem dJ9_max_7cf53_6 : decode cJ9_max_7cf53 6 = .ok (.goto 4, 3) := by decide +kernel
theorem dJ9_max_7cf53_9 : decode cJ9_max_7cf53 9 = .ok (.iload_n 1, 1) := by decide +kernel
theorem dJ9_max_7cf53_10 : decode cJ9_max_7cf53 10 = .ok (.ireturn, 1) := by decide +kernel
theorem dJ9_min_7cf53_0 : decode cJ9_min_7cf53 0 = .ok (.iload_n 0, 1) := by decide +kernel
theorem dJ9_min_7cf53_1 : decode cJ9_min_7cf53 1 = .ok (.iload_n 1, 1) := by decide +kernel
theorem dJ9_min_7cf53_2 : decode cJ9_min_7cf53 2 = .ok (.if_icmp .gt 7, 3) := by decide +kernel
theorem dJ9_min_7cf53_5 : decode cJ9_min_7cf53 5 = .ok (.iload_n 0, 1) := by decide +kernel
theorem dJ9_min_7cf53_6 : decode cJ9_min_7cf53 6 = .ok (.goto 4, 3) := by decide +kernel
theorem dJ9_min_7cf53_9 : decode cJ9_min_7cf53 9 = .ok (.iload_n 1, 1) := by decide +kernel
theorem dJ9_min_7cf53_10 : decode cJ9_min_7cf53 10 = .ok (.ireturn, 1) := by decide +kernel
theorem dJ7_fill_53178_0 : decode cJ7_fill_53178 0 = .ok (.iconst 0, 1) := by decide +kernel
theorem dJ7_fill_53178_1 : decode cJ7_fill_53178 1 = .ok (.istore_n 2, 1) := by decide +kernel
theorem dJ7_fill_53178_2 : decode cJ7_fill_53178 2 = .ok (.aload_n 0, 1) := by decide +kernel
theorem dJ7_fill_53178_3 : decode cJ7_fill_53178 3 = .ok (.arraylength, 1) := by decide +kernel
theorem dJ7_fill_53178_4 : decode cJ7_fill_53178 4 = .ok (.istore_n 3, 1) := by decide +kernel
theorem dJ7_fill_53178_5 : decode cJ7_fill_53178 5 = .ok (.iload_n 2, 1) := by decide +kernel
theorem dJ7_fill_53178_6 : decode cJ7_fill_53178 6 = .ok (.iload_n 3, 1) := by decide +kernel
theorem dJ7_fill_53178_7 : decode cJ7_fill_53178 7 = .ok (.if_icmp .ge 13, 3) := by decide +kernel
theorem dJ7_fill_53178_10 : decode cJ7_fill_53178 10 = .ok (.aload_n 0, 1) := by decide +kernel
theorem dJ7_fill_53178_11 : decode cJ7_fill_53178 11 = .ok (.iload_n 2, 1) := by decide +kernel
theorem dJ7_fill_53178_12 : decode cJ7_fill_53178 12 = .ok (.iload_n 1, 1) := by decide +kernel
theorem dJ7_fill_53178_13 : decode cJ7_fill_53178 13 = .ok (.iastore, 1) := by decide +kernel
theorem dJ7_fill_53178_14 : decode cJ7_fill_53178 14 = .ok (.iinc 2 1, 3) := by decide +kernel
theorem dJ7_fill_53178_17 : decode cJ7_fill_53178 17 = .ok (.goto (-12), 3) := by decide +kernel
theorem dJ7_fill_53178_20 : decode cJ7_fill_53178 20 = .ok (.return_, 1) := by decide +kernel


