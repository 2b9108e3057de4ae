theorem dX0_init_0 : decode cX0_init 0 = .ok (.aload_n 0, 1) := by decide +kernel
theorem dX0_init_1 : decode cX0_init 1 = .ok (.invokespecial 3, 3) := by decide +kernel
theorem dX0_init_4 : decode cX0_init 4 = .ok (.aload_n 0, 1) := by decide +kernel
theorem dX0_init_5 : decode cX0_init 5 = .ok (.bipush 60, 2) := by decide +kernel
theorem dX0_init_7 : decode cX0_init 7 = .ok (.newarray .char, 2) := by decide +kernel
theorem dX0_init_9 : decode cX0_init 9 = .ok (.putfield 9, 3) := by decide +kernel
theorem dX0_init_12 : decode cX0_init 12 = .ok (.aload_n 0, 1) := by decide +kernel
theorem dX0_init_13 : decode cX0_init 13 = .ok (.bipush 60, 2) := by decide +kernel
theorem dX0_init_15 : decode cX0_init 15 = .ok (.newarray .int, 2) := by decide +kernel
theorem dX0_init_17 : decode cX0_init 17 = .ok (.putfield 15, 3) := by decide +kernel
theorem dX0_init_20 : decode cX0_init 20 = .ok (.aload_n 0, 1) := by decide +kernel
theorem dX0_init_21 : decode cX0_init 21 = .ok (.bipush 60, 2) := by decide +kernel
theorem dX0_init_23 : decode cX0_init 23 = .ok (.newarray .int, 2) := by decide +kernel
theorem dX0_init_25 : decode cX0_init 25 = .ok (.putfield 19, 3) := by decide +kernel
theorem dX0_init_28 : decode cX0_init 28 = .ok (.aload_n 0, 1) := by decide +kernel
theorem dX0_init_29 : decode cX0_init 29 = .ok (.iconst 0, 1) := by decide +kernel
theorem dX0_init_30 : decode cX0_init 30 = .ok (.putfield 22, 3) := by decide +kernel
theorem dX0_init_33 : decode cX0_init 33 = .ok (.aload_n 0, 1) := by decide +kernel
theorem dX0_init_34 : decode cX0_init 34 = .ok (.iconst 0, 1) := by decide +kernel
theorem dX0_init_35 : decode cX0_init 35 = .ok (.putfield 26, 3) := by decide +kernel
theorem dX0_init_38 : decode cX0_init 38 = .ok (.aload_n 0, 1) := by decide +kernel
theorem dX0_init_39 : decode cX0_init 39 = .ok (.iconst (-1), 1) := by decide +kernel
theorem dX0_init_40 : decode cX0_init 40 = .ok (.putfield 29, 3) := by decide +kernel
theorem dX0_init_43 : decode cX0_init 43 = .ok (.aload_n 0, 1) := by decide +kernel
theorem dX0_init_44 : decode cX0_init 44 = .ok (.iconst (-1), 1) := by decide +kernel
theorem dX0_init_45 : decode cX0_init 45 = .ok (.putfield 32, 3) := by decide +kernel
theorem dX0_init_48 : decode cX0_init 48 = .ok (.return_, 1) := by decide +kernel
theorem dX0_append_0 : decode cX0_append 0 = .ok (.aload_n 0, 1) := by decide +kernel
theorem dX0_append_1 : decode cX0_append 1 = .ok (.getfield 22, 3) := by decide +kernel
theorem dX0_append_4 : decode cX0_append 4 = .ok (.ifCond .lt 15, 3) := by decide +kernel
theorem dX0_append_7 : decode cX0_append 7 = .ok (.aload_n 0, 1) := by decide +kernel
theorem dX0_append_8 : decode cX0_append 8 = .ok (.getfield 22, 3) := by decide +kernel
theorem dX0_append_11 : decode cX0_append 11 = .ok (.aload_n 0, 1) := by decide +kernel
theorem dX0_append_12 : decode cX0_append 12 = .ok (.getfield 9, 3) := by decide +kernel
theorem dX0_append_15 : decode cX0_append 15 = .ok (.arraylength, 1) := by decide +kernel
theorem dX0_append_16 : decode cX0_append 16 = .ok (.if_icmp .lt 6, 3) := by decide +kernel
theorem dX0_append_19 : decode cX0_append 19 = .ok (.bipush (-3), 2) := by decide +kernel
theorem dX0_append_21 : decode cX0_append 21 = .ok (.ireturn, 1) := by decide +kernel
theorem dX0_append_22 : decode cX0_append 22 = .ok (.aload_n 0, 1) := by decide +kernel
theorem dX0_append_23 : decode cX0_append 23 = .ok (.getfield 9, 3) := by decide +kernel
theorem dX0_append_26 : decode cX0_append 26 = .ok (.aload_n 0, 1) := by decide +kernel
theorem dX0_append_27 : decode cX0_append 27 = .ok (.getfield 22, 3) := by decide +kernel
theorem dX0_append_30 : decode cX0_append 30 = .ok (.iload_n 1, 1) := by decide +kernel
theorem dX0_append_31 : decode cX0_append 31 = .ok (.castore, 1) := by decide +kernel
theorem dX0_append_32 : decode cX0_append 32 = .ok (.aload_n 0, 1) := by decide +kernel
theorem dX0_append_33 : decode cX0_append 33 = .ok (.dup, 1) := by decide +kernel
theorem dX0_append_34 : decode cX0_append 34 = .ok (.getfield 22, 3) := by decide +kernel
theorem dX0_append_37 : decode cX0_append 37 = .ok (.iconst 1, 1) := by decide +kernel
theorem dX0_append_38 : decode cX0_append 38 = .ok (.iadd, 1) := by decide +kernel
theorem dX0_append_39 : decode cX0_append 39 = .ok (.putfield 22, 3) := by decide +kernel
theorem dX0_append_42 : decode cX0_append 42 = .ok (.aload_n 0, 1) := by decide +kernel
theorem dX0_append_43 : decode cX0_append 43 = .ok (.getfield 22, 3) := by decide +kernel
theorem dX0_append_46 : decode cX0_append 46 = .ok (.ireturn, 1) := by decide +kernel
theorem dX0_empty_0 : decode cX0_empty 0 = .ok (.aload_n 0, 1) := by decide +kernel
theorem dX0_empty_1 : decode cX0_empty 1 = .ok (.getfield 22, 3) := by decide +kernel
theorem dX0_empty_4 : decode cX0_empty 4 = .ok (.istore_n 1, 1) := by decide +kernel
theorem dX0_empty_5 : decode cX0_empty 5 = .ok (.aload_n 0, 1) := by decide +kernel
theorem dX0_empty_6 : decode cX0_empty 6 = .ok (.iconst 0, 1) := by decide +kernel
theorem dX0_empty_7 : decode cX0_empty 7 = .ok (.putfield 22, 3) := by decide +kernel
theorem dX0_empty_10 : decode cX0_empty 10 = .ok (.iload_n 1, 1) := by decide +kernel
theorem dX0_empty_11 : decode cX0_empty 11 = .ok (.ireturn, 1) := by decide +kernel
set_option maxRecDepth 20000 in
theorem ggX0_read_X0_takes : GoodIn wsX0_read wsX0_takes := goodIn_r _ [10, 2, 11, 12, 9, 13, 14, 15, 16, 17, 3, 18, 19, 20, 21, 22, 23, 24, 25, 1, 26, 27, 28, 29, 30, 31, 32, 33, 34, 35, 36, 37, 38, 39, 40, 41] (by decide +kernel) (by decide +kernel)
set_option maxRecDepth 20000 in
theorem gX0_read_X0_takes : GoodIn wsX0_read (wsV RX0 35 RX0 yX0_takes wsX0_takes) := goodIn_app (goodIn_of _ (by decide +kernel)) ggX0_read_X0_takes
set_option maxRecDepth 20000 in
theorem ggX0_read_X0_isComplete : GoodIn wsX0_read wsX0_isComplete := goodIn_r _ [17, 2, 3, 18, 19, 20, 21, 35, 36, 37, 38, 39, 40, 41] (by decide +kernel) (by decide +kernel)
set_option maxRecDepth 20000 in
theorem gX0_read_X0_isComplete : GoodIn wsX0_read (wsV RX0 39 RX0 yX0_isComplete wsX0_isComplete) := goodIn_app (goodIn_of _ (by decide +kernel)) ggX0_read_X0_isComplete
set_option maxRecDepth 20000 in
theorem ggX0_read_X0_addCommand : GoodIn wsX0_read wsX0_addCommand := goodIn_r _ [25, 1, 26, 27, 2, 3, 35, 36, 37, 38, 39, 40, 41] (by decide +kernel) (by decide +kernel)
set_option maxRecDepth 20000 in
theorem gX0_read_X0_addCommand : GoodIn wsX0_read (wsV RX0 43 RX0 yX0_addCommand wsX0_addCommand) := goodIn_app (goodIn_of _ (by decide +kernel)) ggX0_read_X0_addCommand
theorem dX0_read_0 : decode cX0_read 0 = .ok (.aload_n 0, 1) := by decide +kernel
theorem dX0_read_1 : decode cX0_read 1 = .ok (.iconst 0, 1) := by decide +kernel
theorem dX0_read_2 : decode cX0_read 2 = .ok (.putfield 26, 3) := by decide +kernel
theorem dX0_read_5 : decode cX0_read 5 = .ok (.aload_n 0, 1) := by decide +kernel
theorem dX0_read_6 : decode cX0_read 6 = .ok (.iconst (-1), 1) := by decide +kernel
theorem dX0_read_7 : decode cX0_read 7 = .ok (.putfield 29, 3) := by decide +kernel
theorem dX0_read_10 : decode cX0_read 10 = .ok (.aload_n 0, 1) := by decide +kernel
theorem dX0_read_11 : decode cX0_read 11 = .ok (.iconst (-1), 1) := by decide +kernel
theorem dX0_read_12 : decode cX0_read 12 = .ok (.putfield 32, 3) := by decide +kernel
theorem dX0_read_15 : decode cX0_read 15 = .ok (.iconst 0, 1) := by decide +kernel
theorem dX0_read_16 : decode cX0_read 16 = .ok (.istore_n 1, 1) := by decide +kernel
theorem dX0_read_17 : decode cX0_read 17 = .ok (.iload_n 1, 1) := by decide +kernel
theorem dX0_read_18 : decode cX0_read 18 = .ok (.aload_n 0, 1) := by decide +kernel
theorem dX0_read_19 : decode cX0_read 19 = .ok (.getfield 22, 3) := by decide +kernel
theorem dX0_read_22 : decode cX0_read 22 = .ok (.if_icmp .ge 33, 3) := by decide +kernel
theorem dX0_read_25 : decode cX0_read 25 = .ok (.iload_n 1, 1) := by decide +kernel
theorem dX0_read_26 : decode cX0_read 26 = .ok (.aload_n 0, 1) := by decide +kernel
theorem dX0_read_27 : decode cX0_read 27 = .ok (.getfield 9, 3) := by decide +kernel
theorem dX0_read_30 : decode cX0_read 30 = .ok (.arraylength, 1) := by decide +kernel
theorem dX0_read_31 : decode cX0_read 31 = .ok (.if_icmp .ge 24, 3) := by decide +kernel
theorem dX0_read_34 : decode cX0_read 34 = .ok (.aload_n 0, 1) := by decide +kernel
theorem dX0_read_35 : decode cX0_read 35 = .ok (.aload_n 0, 1) := by decide +kernel
theorem dX0_read_36 : decode cX0_read 36 = .ok (.getfield 9, 3) := by decide +kernel
theorem dX0_read_39 : decode cX0_read 39 = .ok (.iload_n 1, 1) := by decide +kernel
theorem dX0_read_40 : decode cX0_read 40 = .ok (.caload, 1) := by decide +kernel
theorem dX0_read_41 : decode cX0_read 41 = .ok (.invokevirtual 35, 3) := by decide +kernel
theorem dX0_read_44 : decode cX0_read 44 = .ok (.ifCond .ne 5, 3) := by decide +kernel
theorem dX0_read_47 : decode cX0_read 47 = .ok (.iload_n 1, 1) := by decide +kernel
theorem dX0_read_48 : decode cX0_read 48 = .ok (.ireturn, 1) := by decide +kernel
theorem dX0_read_49 : decode cX0_read 49 = .ok (.iinc 1 1, 3) := by decide +kernel
theorem dX0_read_52 : decode cX0_read 52 = .ok (.goto (-35), 3) := by decide +kernel
theorem dX0_read_55 : decode cX0_read 55 = .ok (.aload_n 0, 1) := by decide +kernel
theorem dX0_read_56 : decode cX0_read 56 = .ok (.invokevirtual 39, 3) := by decide +kernel
theorem dX0_read_59 : decode cX0_read 59 = .ok (.ifCond .ne 8, 3) := by decide +kernel
theorem dX0_read_62 : decode cX0_read 62 = .ok (.aload_n 0, 1) := by decide +kernel
theorem dX0_read_63 : decode cX0_read 63 = .ok (.getfield 22, 3) := by decide +kernel
theorem dX0_read_66 : decode cX0_read 66 = .ok (.ireturn, 1) := by decide +kernel
theorem dX0_read_67 : decode cX0_read 67 = .ok (.aload_n 0, 1) := by decide +kernel
theorem dX0_read_68 : decode cX0_read 68 = .ok (.invokevirtual 43, 3) := by decide +kernel
theorem dX0_read_71 : decode cX0_read 71 = .ok (.iconst (-1), 1) := by decide +kernel
theorem dX0_read_72 : decode cX0_read 72 = .ok (.ireturn, 1) := by decide +kernel
set_option maxRecDepth 20000 in
theorem ggX0_takes_X0_kindOf : GoodIn wsX0_takes wsX0_kindOf := goodIn_r _ [5] (by decide +kernel) (by decide +kernel)
set_option maxRecDepth 20000 in
theorem gX0_takes_X0_kindOf : GoodIn wsX0_takes (va_wsS RX0 46 yX0_kindOf wsX0_kindOf) := goodIn_app (goodIn_of _ (by decide +kernel)) ggX0_takes_X0_kindOf
set_option maxRecDepth 20000 in
theorem ggX0_takes_X0_isComplete : GoodIn wsX0_takes wsX0_isComplete := goodIn_r _ [9, 1, 10, 11, 12, 13, 14, 29, 30, 31, 32, 33, 34, 35] (by decide +kernel) (by decide +kernel)
set_option maxRecDepth 20000 in
theorem gX0_takes_X0_isComplete : GoodIn wsX0_takes (wsV RX0 39 RX0 yX0_isComplete wsX0_isComplete) := goodIn_app (goodIn_of _ (by decide +kernel)) ggX0_takes_X0_isComplete
set_option maxRecDepth 20000 in
theorem ggX0_takes_X0_addCommand : GoodIn wsX0_takes wsX0_addCommand := goodIn_r _ [18, 19, 20, 21, 1, 10, 29, 30, 31, 32, 33, 34, 35] (by decide +kernel) (by decide +kernel)
set_option maxRecDepth 20000 in
theorem gX0_takes_X0_addCommand : GoodIn wsX0_takes (wsV RX0 43 RX0 yX0_addCommand wsX0_addCommand) := goodIn_app (goodIn_of _ (by decide +kernel)) ggX0_takes_X0_addCommand
set_option maxRecDepth 20000 in
theorem ggX0_takes_X0_takesDigit : GoodIn wsX0_takes wsX0_takesDigit := goodIn_r _ [25, 1, 10, 11, 12, 13, 14, 26, 27, 28, 29, 30, 31, 32, 33, 34, 35] (by decide +kernel) (by decide +kernel)
set_option maxRecDepth 20000 in
theorem gX0_takes_X0_takesDigit : GoodIn wsX0_takes (wsV RX0 50 RX0 yX0_takesDigit wsX0_takesDigit) := goodIn_app (goodIn_of _ (by decide +kernel)) ggX0_takes_X0_takesDigit
theorem dX0_takes_0 : decode cX0_takes 0 = .ok (.aload_n 0, 1) := by decide +kernel
theorem dX0_takes_1 : decode cX0_takes 1 = .ok (.getfield 29, 3) := by decide +kernel
theorem dX0_takes_4 : decode cX0_takes 4 = .ok (.iconst (-1), 1) := by decide +kernel
theorem dX0_takes_5 : decode cX0_takes 5 = .ok (.if_icmp .ne 25, 3) := by decide +kernel
theorem dX0_takes_8 : decode cX0_takes 8 = .ok (.aload_n 0, 1) := by decide +kernel
theorem dX0_takes_9 : decode cX0_takes 9 = .ok (.iload_n 1, 1) := by decide +kernel
theorem dX0_takes_10 : decode cX0_takes 10 = .ok (.invokestatic 46, 3) := by decide +kernel
theorem dX0_takes_13 : decode cX0_takes 13 = .ok (.putfield 29, 3) := by decide +kernel
theorem dX0_takes_16 : decode cX0_takes 16 = .ok (.aload_n 0, 1) := by decide +kernel
theorem dX0_takes_17 : decode cX0_takes 17 = .ok (.getfield 29, 3) := by decide +kernel
theorem dX0_takes_20 : decode cX0_takes 20 = .ok (.iconst (-1), 1) := by decide +kernel
theorem dX0_takes_21 : decode cX0_takes 21 = .ok (.if_icmp .eq 7, 3) := by decide +kernel
theorem dX0_takes_24 : decode cX0_takes 24 = .ok (.iconst 1, 1) := by decide +kernel
theorem dX0_takes_25 : decode cX0_takes 25 = .ok (.goto 4, 3) := by decide +kernel
theorem dX0_takes_28 : decode cX0_takes 28 = .ok (.iconst 0, 1) := by decide +kernel
theorem dX0_takes_29 : decode cX0_takes 29 = .ok (.ireturn, 1) := by decide +kernel
theorem dX0_takes_30 : decode cX0_takes 30 = .ok (.iload_n 1, 1) := by decide +kernel
theorem dX0_takes_31 : decode cX0_takes 31 = .ok (.bipush 44, 2) := by decide +kernel
theorem dX0_takes_33 : decode cX0_takes 33 = .ok (.if_icmp .ne 16, 3) := by decide +kernel
theorem dX0_takes_36 : decode cX0_takes 36 = .ok (.aload_n 0, 1) := by decide +kernel
theorem dX0_takes_37 : decode cX0_takes 37 = .ok (.invokevirtual 39, 3) := by decide +kernel
theorem dX0_takes_40 : decode cX0_takes 40 = .ok (.ifCond .eq 9, 3) := by decide +kernel
theorem dX0_takes_43 : decode cX0_takes 43 = .ok (.aload_n 0, 1) := by decide +kernel
theorem dX0_takes_44 : decode cX0_takes 44 = .ok (.invokevirtual 43, 3) := by decide +kernel
theorem dX0_takes_47 : decode cX0_takes 47 = .ok (.iconst 1, 1) := by decide +kernel
theorem dX0_takes_48 : decode cX0_takes 48 = .ok (.ireturn, 1) := by decide +kernel
theorem dX0_takes_49 : decode cX0_takes 49 = .ok (.iload_n 1, 1) := by decide +kernel
theorem dX0_takes_50 : decode cX0_takes 50 = .ok (.bipush 48, 2) := by decide +kernel
theorem dX0_takes_52 : decode cX0_takes 52 = .ok (.if_icmp .lt 24, 3) := by decide +kernel
theorem dX0_takes_55 : decode cX0_takes 55 = .ok (.iload_n 1, 1) := by decide +kernel
theorem dX0_takes_56 : decode cX0_takes 56 = .ok (.bipush 57, 2) := by decide +kernel
theorem dX0_takes_58 : decode cX0_takes 58 = .ok (.if_icmp .gt 18, 3) := by decide +kernel
theorem dX0_takes_61 : decode cX0_takes 61 = .ok (.aload_n 0, 1) := by decide +kernel
theorem dX0_takes_62 : decode cX0_takes 62 = .ok (.iload_n 1, 1) := by decide +kernel
theorem dX0_takes_63 : decode cX0_takes 63 = .ok (.bipush 48, 2) := by decide +kernel
theorem dX0_takes_65 : decode cX0_takes 65 = .ok (.isub, 1) := by decide +kernel
theorem dX0_takes_66 : decode cX0_takes 66 = .ok (.invokevirtual 50, 3) := by decide +kernel
theorem dX0_takes_69 : decode cX0_takes 69 = .ok (.ifCond .eq 7, 3) := by decide +kernel
theorem dX0_takes_72 : decode cX0_takes 72 = .ok (.iconst 1, 1) := by decide +kernel
theorem dX0_takes_73 : decode cX0_takes 73 = .ok (.goto 4, 3) := by decide +kernel
theorem dX0_takes_76 : decode cX0_takes 76 = .ok (.iconst 0, 1) := by decide +kernel
theorem dX0_takes_77 : decode cX0_takes 77 = .ok (.ireturn, 1) := by decide +kernel
set_option maxRecDepth 20000 in
theorem ggX0_takesDigit_X4_lowest : GoodIn wsX0_takesDigit wsX4_lowest := goodIn_r _ [5, 6] (by decide +kernel) (by decide +kernel)
set_option maxRecDepth 20000 in
theorem gX0_takesDigit_X4_lowest_n54 : GoodIn wsX0_takesDigit (wsX4_lowest) := ggX0_takesDigit_X4_lowest
set_option maxRecDepth 20000 in
theorem ggX0_takesDigit_X4_highest : GoodIn wsX0_takesDigit wsX4_highest := goodIn_r _ [8, 9] (by decide +kernel) (by decide +kernel)
set_option maxRecDepth 20000 in
theorem gX0_takesDigit_X4_highest_n58 : GoodIn wsX0_takesDigit (wsX4_highest) := ggX0_takesDigit_X4_highest
theorem dX0_takesDigit_0 : decode cX0_takesDigit 0 = .ok (.aload_n 0, 1) := by decide +kernel
theorem dX0_takesDigit_1 : decode cX0_takesDigit 1 = .ok (.getfield 29, 3) := by decide +kernel
theorem dX0_takesDigit_4 : decode cX0_takesDigit 4 = .ok (.bipush 7, 2) := by decide +kernel
theorem dX0_takesDigit_6 : decode cX0_takesDigit 6 = .ok (.if_icmp .eq 10, 3) := by decide +kernel
theorem dX0_takesDigit_9 : decode cX0_takesDigit 9 = .ok (.aload_n 0, 1) := by decide +kernel
theorem dX0_takesDigit_10 : decode cX0_takesDigit 10 = .ok (.getfield 32, 3) := by decide +kernel
theorem dX0_takesDigit_13 : decode cX0_takesDigit 13 = .ok (.ifCond .ne 5, 3) := by decide +kernel
theorem dX0_takesDigit_16 : decode cX0_takesDigit 16 = .ok (.iconst 0, 1) := by decide +kernel
theorem dX0_takesDigit_17 : decode cX0_takesDigit 17 = .ok (.ireturn, 1) := by decide +kernel
theorem dX0_takesDigit_18 : decode cX0_takesDigit 18 = .ok (.aload_n 0, 1) := by decide +kernel
theorem dX0_takesDigit_19 : decode cX0_takesDigit 19 = .ok (.getfield 32, 3) := by decide +kernel
theorem dX0_takesDigit_22 : decode cX0_takesDigit 22 = .ok (.iconst (-1), 1) := by decide +kernel
theorem dX0_takesDigit_23 : decode cX0_takesDigit 23 = .ok (.if_icmp .ne 7, 3) := by decide +kernel
theorem dX0_takesDigit_26 : decode cX0_takesDigit 26 = .ok (.iload_n 1, 1) := by decide +kernel
theorem dX0_takesDigit_27 : decode cX0_takesDigit 27 = .ok (.goto 12, 3) := by decide +kernel
theorem dX0_takesDigit_30 : decode cX0_takesDigit 30 = .ok (.bipush 10, 2) := by decide +kernel
theorem dX0_takesDigit_32 : decode cX0_takesDigit 32 = .ok (.aload_n 0, 1) := by decide +kernel
theorem dX0_takesDigit_33 : decode cX0_takesDigit 33 = .ok (.getfield 32, 3) := by decide +kernel
theorem dX0_takesDigit_36 : decode cX0_takesDigit 36 = .ok (.imul, 1) := by decide +kernel
theorem dX0_takesDigit_37 : decode cX0_takesDigit 37 = .ok (.iload_n 1, 1) := by decide +kernel
theorem dX0_takesDigit_38 : decode cX0_takesDigit 38 = .ok (.iadd, 1) := by decide +kernel
theorem dX0_takesDigit_39 : decode cX0_takesDigit 39 = .ok (.istore_n 2, 1) := by decide +kernel
theorem dX0_takesDigit_40 : decode cX0_takesDigit 40 = .ok (.iload_n 2, 1) := by decide +kernel
theorem dX0_takesDigit_41 : decode cX0_takesDigit 41 = .ok (.ifCond .gt 13, 3) := by decide +kernel
theorem dX0_takesDigit_44 : decode cX0_takesDigit 44 = .ok (.aload_n 0, 1) := by decide +kernel
theorem dX0_takesDigit_45 : decode cX0_takesDigit 45 = .ok (.getfield 29, 3) := by decide +kernel
theorem dX0_takesDigit_48 : decode cX0_takesDigit 48 = .ok (.invokestatic 54, 3) := by decide +kernel
theorem dX0_takesDigit_51 : decode cX0_takesDigit 51 = .ok (.ifCond .ne 7, 3) := by decide +kernel
theorem dX0_takesDigit_54 : decode cX0_takesDigit 54 = .ok (.iconst 1, 1) := by decide +kernel
theorem dX0_takesDigit_55 : decode cX0_takesDigit 55 = .ok (.goto 4, 3) := by decide +kernel
theorem dX0_takesDigit_58 : decode cX0_takesDigit 58 = .ok (.iconst 0, 1) := by decide +kernel
theorem dX0_takesDigit_59 : decode cX0_takesDigit 59 = .ok (.istore_n 3, 1) := by decide +kernel
theorem dX0_takesDigit_60 : decode cX0_takesDigit 60 = .ok (.iload_n 3, 1) := by decide +kernel
theorem dX0_takesDigit_61 : decode cX0_takesDigit 61 = .ok (.ifCond .eq 14, 3) := by decide +kernel
theorem dX0_takesDigit_64 : decode cX0_takesDigit 64 = .ok (.iload_n 2, 1) := by decide +kernel
theorem dX0_takesDigit_65 : decode cX0_takesDigit 65 = .ok (.aload_n 0, 1) := by decide +kernel
theorem dX0_takesDigit_66 : decode cX0_takesDigit 66 = .ok (.getfield 29, 3) := by decide +kernel
theorem dX0_takesDigit_69 : decode cX0_takesDigit 69 = .ok (.invokestatic 58, 3) := by decide +kernel
theorem dX0_takesDigit_72 : decode cX0_takesDigit 72 = .ok (.if_icmp .le 5, 3) := by decide +kernel
theorem dX0_takesDigit_75 : decode cX0_takesDigit 75 = .ok (.iconst 0, 1) := by decide +kernel
theorem dX0_takesDigit_76 : decode cX0_takesDigit 76 = .ok (.ireturn, 1) := by decide +kernel
theorem dX0_takesDigit_77 : decode cX0_takesDigit 77 = .ok (.aload_n 0, 1) := by decide +kernel
theorem dX0_takesDigit_78 : decode cX0_takesDigit 78 = .ok (.iload_n 2, 1) := by decide +kernel
theorem dX0_takesDigit_79 : decode cX0_takesDigit 79 = .ok (.putfield 32, 3) := by decide +kernel
theorem dX0_takesDigit_82 : decode cX0_takesDigit 82 = .ok (.iconst 1, 1) := by decide +kernel
theorem dX0_takesDigit_83 : decode cX0_takesDigit 83 = .ok (.ireturn, 1) := by decide +kernel
set_option maxRecDepth 20000 in
theorem ggX0_isComplete_X4_lowest : GoodIn wsX0_isComplete wsX4_lowest := goodIn_r _ [5, 6] (by decide +kernel) (by decide +kernel)
set_option maxRecDepth 20000 in
theorem gX0_isComplete_X4_lowest_n54 : GoodIn wsX0_isComplete (wsX4_lowest) := ggX0_isComplete_X4_lowest
theorem dX0_isComplete_0 : decode cX0_isComplete 0 = .ok (.aload_n 0, 1) := by decide +kernel
theorem dX0_isComplete_1 : decode cX0_isComplete 1 = .ok (.getfield 29, 3) := by decide +kernel
theorem dX0_isComplete_4 : decode cX0_isComplete 4 = .ok (.bipush 7, 2) := by decide +kernel
theorem dX0_isComplete_6 : decode cX0_isComplete 6 = .ok (.if_icmp .eq 25, 3) := by decide +kernel
theorem dX0_isComplete_9 : decode cX0_isComplete 9 = .ok (.aload_n 0, 1) := by decide +kernel
theorem dX0_isComplete_10 : decode cX0_isComplete 10 = .ok (.getfield 29, 3) := by decide +kernel
theorem dX0_isComplete_13 : decode cX0_isComplete 13 = .ok (.iconst (-1), 1) := by decide +kernel
theorem dX0_isComplete_14 : decode cX0_isComplete 14 = .ok (.if_icmp .eq 21, 3) := by decide +kernel
theorem dX0_isComplete_17 : decode cX0_isComplete 17 = .ok (.aload_n 0, 1) := by decide +kernel
theorem dX0_isComplete_18 : decode cX0_isComplete 18 = .ok (.getfield 32, 3) := by decide +kernel
theorem dX0_isComplete_21 : decode cX0_isComplete 21 = .ok (.aload_n 0, 1) := by decide +kernel
theorem dX0_isComplete_22 : decode cX0_isComplete 22 = .ok (.getfield 29, 3) := by decide +kernel
theorem dX0_isComplete_25 : decode cX0_isComplete 25 = .ok (.invokestatic 54, 3) := by decide +kernel
theorem dX0_isComplete_28 : decode cX0_isComplete 28 = .ok (.if_icmp .lt 7, 3) := by decide +kernel
theorem dX0_isComplete_31 : decode cX0_isComplete 31 = .ok (.iconst 1, 1) := by decide +kernel
theorem dX0_isComplete_32 : decode cX0_isComplete 32 = .ok (.goto 4, 3) := by decide +kernel
theorem dX0_isComplete_35 : decode cX0_isComplete 35 = .ok (.iconst 0, 1) := by decide +kernel
theorem dX0_isComplete_36 : decode cX0_isComplete 36 = .ok (.ireturn, 1) := by decide +kernel
theorem dX0_addCommand_0 : decode cX0_addCommand 0 = .ok (.aload_n 0, 1) := by decide +kernel
theorem dX0_addCommand_1 : decode cX0_addCommand 1 = .ok (.getfield 26, 3) := by decide +kernel
theorem dX0_addCommand_4 : decode cX0_addCommand 4 = .ok (.ifCond .lt 63, 3) := by decide +kernel
theorem dX0_addCommand_7 : decode cX0_addCommand 7 = .ok (.aload_n 0, 1) := by decide +kernel
theorem dX0_addCommand_8 : decode cX0_addCommand 8 = .ok (.getfield 26, 3) := by decide +kernel
theorem dX0_addCommand_11 : decode cX0_addCommand 11 = .ok (.aload_n 0, 1) := by decide +kernel
theorem dX0_addCommand_12 : decode cX0_addCommand 12 = .ok (.getfield 15, 3) := by decide +kernel
theorem dX0_addCommand_15 : decode cX0_addCommand 15 = .ok (.arraylength, 1) := by decide +kernel
theorem dX0_addCommand_16 : decode cX0_addCommand 16 = .ok (.if_icmp .ge 51, 3) := by decide +kernel
theorem dX0_addCommand_19 : decode cX0_addCommand 19 = .ok (.aload_n 0, 1) := by decide +kernel
theorem dX0_addCommand_20 : decode cX0_addCommand 20 = .ok (.getfield 26, 3) := by decide +kernel
theorem dX0_addCommand_23 : decode cX0_addCommand 23 = .ok (.aload_n 0, 1) := by decide +kernel
theorem dX0_addCommand_24 : decode cX0_addCommand 24 = .ok (.getfield 19, 3) := by decide +kernel
theorem dX0_addCommand_27 : decode cX0_addCommand 27 = .ok (.arraylength, 1) := by decide +kernel
theorem dX0_addCommand_28 : decode cX0_addCommand 28 = .ok (.if_icmp .ge 39, 3) := by decide +kernel
theorem dX0_addCommand_31 : decode cX0_addCommand 31 = .ok (.aload_n 0, 1) := by decide +kernel
theorem dX0_addCommand_32 : decode cX0_addCommand 32 = .ok (.getfield 15, 3) := by decide +kernel
theorem dX0_addCommand_35 : decode cX0_addCommand 35 = .ok (.aload_n 0, 1) := by decide +kernel
theorem dX0_addCommand_36 : decode cX0_addCommand 36 = .ok (.getfield 26, 3) := by decide +kernel
theorem dX0_addCommand_39 : decode cX0_addCommand 39 = .ok (.aload_n 0, 1) := by decide +kernel
theorem dX0_addCommand_40 : decode cX0_addCommand 40 = .ok (.getfield 29, 3) := by decide +kernel
theorem dX0_addCommand_43 : decode cX0_addCommand 43 = .ok (.iastore, 1) := by decide +kernel
theorem dX0_addCommand_44 : decode cX0_addCommand 44 = .ok (.aload_n 0, 1) := by decide +kernel
theorem dX0_addCommand_45 : decode cX0_addCommand 45 = .ok (.getfield 19, 3) := by decide +kernel
theorem dX0_addCommand_48 : decode cX0_addCommand 48 = .ok (.aload_n 0, 1) := by decide +kernel
theorem dX0_addCommand_49 : decode cX0_addCommand 49 = .ok (.getfield 26, 3) := by decide +kernel
theorem dX0_addCommand_52 : decode cX0_addCommand 52 = .ok (.aload_n 0, 1) := by decide +kernel
theorem dX0_addCommand_53 : decode cX0_addCommand 53 = .ok (.getfield 32, 3) := by decide +kernel
theorem dX0_addCommand_56 : decode cX0_addCommand 56 = .ok (.iastore, 1) := by decide +kernel
theorem dX0_addCommand_57 : decode cX0_addCommand 57 = .ok (.aload_n 0, 1) := by decide +kernel
theorem dX0_addCommand_58 : decode cX0_addCommand 58 = .ok (.dup, 1) := by decide +kernel
theorem dX0_addCommand_59 : decode cX0_addCommand 59 = .ok (.getfield 26, 3) := by decide +kernel
theorem dX0_addCommand_62 : decode cX0_addCommand 62 = .ok (.iconst 1, 1) := by decide +kernel
theorem dX0_addCommand_63 : decode cX0_addCommand 63 = .ok (.iadd, 1) := by decide +kernel
theorem dX0_addCommand_64 : decode cX0_addCommand 64 = .ok (.putfield 26, 3) := by decide +kernel
theorem dX0_addCommand_67 : decode cX0_addCommand 67 = .ok (.aload_n 0, 1) := by decide +kernel
theorem dX0_addCommand_68 : decode cX0_addCommand 68 = .ok (.iconst (-1), 1) := by decide +kernel
theorem dX0_addCommand_69 : decode cX0_addCommand 69 = .ok (.putfield 29, 3) := by decide +kernel
theorem dX0_addCommand_72 : decode cX0_addCommand 72 = .ok (.aload_n 0, 1) := by decide +kernel
theorem dX0_addCommand_73 : decode cX0_addCommand 73 = .ok (.iconst (-1), 1) := by decide +kernel
theorem dX0_addCommand_74 : decode cX0_addCommand 74 = .ok (.putfield 32, 3) := by decide +kernel
theorem dX0_addCommand_77 : decode cX0_addCommand 77 = .ok (.return_, 1) := by decide +kernel
theorem dX0_commandAt_0 : decode cX0_commandAt 0 = .ok (.iload_n 1, 1) := by decide +kernel
theorem dX0_commandAt_1 : decode cX0_commandAt 1 = .ok (.ifCond .lt 21, 3) := by decide +kernel
theorem dX0_commandAt_4 : decode cX0_commandAt 4 = .ok (.iload_n 1, 1) := by decide +kernel
theorem dX0_commandAt_5 : decode cX0_commandAt 5 = .ok (.aload_n 0, 1) := by decide +kernel
theorem dX0_commandAt_6 : decode cX0_commandAt 6 = .ok (.getfield 15, 3) := by decide +kernel
theorem dX0_commandAt_9 : decode cX0_commandAt 9 = .ok (.arraylength, 1) := by decide +kernel
theorem dX0_commandAt_10 : decode cX0_commandAt 10 = .ok (.if_icmp .ge 12, 3) := by decide +kernel
theorem dX0_commandAt_13 : decode cX0_commandAt 13 = .ok (.aload_n 0, 1) := by decide +kernel
theorem dX0_commandAt_14 : decode cX0_commandAt 14 = .ok (.getfield 15, 3) := by decide +kernel
theorem dX0_commandAt_17 : decode cX0_commandAt 17 = .ok (.iload_n 1, 1) := by decide +kernel
theorem dX0_commandAt_18 : decode cX0_commandAt 18 = .ok (.iaload, 1) := by decide +kernel
theorem dX0_commandAt_19 : decode cX0_commandAt 19 = .ok (.goto 4, 3) := by decide +kernel
theorem dX0_commandAt_22 : decode cX0_commandAt 22 = .ok (.iconst (-1), 1) := by decide +kernel
theorem dX0_commandAt_23 : decode cX0_commandAt 23 = .ok (.ireturn, 1) := by decide +kernel
theorem dX0_valueAt_0 : decode cX0_valueAt 0 = .ok (.iload_n 1, 1) := by decide +kernel
theorem dX0_valueAt_1 : decode cX0_valueAt 1 = .ok (.ifCond .lt 21, 3) := by decide +kernel
theorem dX0_valueAt_4 : decode cX0_valueAt 4 = .ok (.iload_n 1, 1) := by decide +kernel
theorem dX0_valueAt_5 : decode cX0_valueAt 5 = .ok (.aload_n 0, 1) := by decide +kernel
theorem dX0_valueAt_6 : decode cX0_valueAt 6 = .ok (.getfield 19, 3) := by decide +kernel
theorem dX0_valueAt_9 : decode cX0_valueAt 9 = .ok (.arraylength, 1) := by decide +kernel
theorem dX0_valueAt_10 : decode cX0_valueAt 10 = .ok (.if_icmp .ge 12, 3) := by decide +kernel
theorem dX0_valueAt_13 : decode cX0_valueAt 13 = .ok (.aload_n 0, 1) := by decide +kernel
theorem dX0_valueAt_14 : decode cX0_valueAt 14 = .ok (.getfield 19, 3) := by decide +kernel
theorem dX0_valueAt_17 : decode cX0_valueAt 17 = .ok (.iload_n 1, 1) := by decide +kernel
theorem dX0_valueAt_18 : decode cX0_valueAt 18 = .ok (.iaload, 1) := by decide +kernel
theorem dX0_valueAt_19 : decode cX0_valueAt 19 = .ok (.goto 4, 3) := by decide +kernel
theorem dX0_valueAt_22 : decode cX0_valueAt 22 = .ok (.iconst (-1), 1) := by decide +kernel
theorem dX0_valueAt_23 : decode cX0_valueAt 23 = .ok (.ireturn, 1) := by decide +kernel
theorem dX0_kindOf_0 : decode cX0_kindOf 0 = .ok (.iload_n 0, 1) := by decide +kernel
theorem dX0_kindOf_1 : decode cX0_kindOf 1 = .ok (.tableswitch 117 99 119 #[111, 101, 117, 117, 109, 117, 117, 117, 105, 117, 117, 114, 117, 117, 117, 117, 107, 99, 117, 117, 103], 99) := by decide +kernel
theorem dX0_kindOf_100 : decode cX0_kindOf 100 = .ok (.iconst 0, 1) := by decide +kernel
theorem dX0_kindOf_101 : decode cX0_kindOf 101 = .ok (.ireturn, 1) := by decide +kernel
theorem dX0_kindOf_102 : decode cX0_kindOf 102 = .ok (.iconst 1, 1) := by decide +kernel
theorem dX0_kindOf_103 : decode cX0_kindOf 103 = .ok (.ireturn, 1) := by decide +kernel
theorem dX0_kindOf_104 : decode cX0_kindOf 104 = .ok (.iconst 2, 1) := by decide +kernel
theorem dX0_kindOf_105 : decode cX0_kindOf 105 = .ok (.ireturn, 1) := by decide +kernel
theorem dX0_kindOf_106 : decode cX0_kindOf 106 = .ok (.iconst 3, 1) := by decide +kernel
theorem dX0_kindOf_107 : decode cX0_kindOf 107 = .ok (.ireturn, 1) := by decide +kernel
theorem dX0_kindOf_108 : decode cX0_kindOf 108 = .ok (.iconst 4, 1) := by decide +kernel
theorem dX0_kindOf_109 : decode cX0_kindOf 109 = .ok (.ireturn, 1) := by decide +kernel
theorem dX0_kindOf_110 : decode cX0_kindOf 110 = .ok (.iconst 5, 1) := by decide +kernel
theorem dX0_kindOf_111 : decode cX0_kindOf 111 = .ok (.ireturn, 1) := by decide +kernel
theorem dX0_kindOf_112 : decode cX0_kindOf 112 = .ok (.bipush 6, 2) := by decide +kernel
theorem dX0_kindOf_114 : decode cX0_kindOf 114 = .ok (.ireturn, 1) := by decide +kernel
theorem dX0_kindOf_115 : decode cX0_kindOf 115 = .ok (.bipush 7, 2) := by decide +kernel
theorem dX0_kindOf_117 : decode cX0_kindOf 117 = .ok (.ireturn, 1) := by decide +kernel
theorem dX0_kindOf_118 : decode cX0_kindOf 118 = .ok (.iconst (-1), 1) := by decide +kernel
theorem dX0_kindOf_119 : decode cX0_kindOf 119 = .ok (.ireturn, 1) := by decide +kernel
set_option maxRecDepth 20000 in
theorem ggX1_init_X2_init : GoodIn wsX1_init wsX2_init := goodIn_r _ [11, 12, 2, 3, 13, 14, 15, 16, 17, 18, 19, 20, 21, 22, 23, 24, 25, 26, 27, 28, 29, 30, 31, 32, 33, 34, 35, 36, 37, 38, 39, 40, 55, 56, 57, 58, 44, 45, 46, 47, 48, 49, 50, 51, 52, 53, 54] (by decide +kernel) (by decide +kernel)
set_option maxRecDepth 20000 in
theorem gX1_init_X2_init_n24 : GoodIn wsX1_init (wsX2_init) := ggX1_init_X2_init
theorem dX1_init_0 : decode cX1_init 0 = .ok (.aload_n 0, 1) := by decide +kernel
theorem dX1_init_1 : decode cX1_init 1 = .ok (.invokespecial 3, 3) := by decide +kernel
theorem dX1_init_4 : decode cX1_init 4 = .ok (.aload_n 0, 1) := by decide +kernel
theorem dX1_init_5 : decode cX1_init 5 = .ok (.iconst 4, 1) := by decide +kernel
theorem dX1_init_6 : decode cX1_init 6 = .ok (.anewarray 9, 3) := by decide +kernel
theorem dX1_init_9 : decode cX1_init 9 = .ok (.putfield 11, 3) := by decide +kernel
theorem dX1_init_12 : decode cX1_init 12 = .ok (.aload_n 0, 1) := by decide +kernel
theorem dX1_init_13 : decode cX1_init 13 = .ok (.iconst 0, 1) := by decide +kernel
theorem dX1_init_14 : decode cX1_init 14 = .ok (.putfield 17, 3) := by decide +kernel
theorem dX1_init_17 : decode cX1_init 17 = .ok (.aload_n 0, 1) := by decide +kernel
theorem dX1_init_18 : decode cX1_init 18 = .ok (.iconst 0, 1) := by decide +kernel
theorem dX1_init_19 : decode cX1_init 19 = .ok (.putfield 21, 3) := by decide +kernel
theorem dX1_init_22 : decode cX1_init 22 = .ok (.iconst 0, 1) := by decide +kernel
theorem dX1_init_23 : decode cX1_init 23 = .ok (.istore_n 1, 1) := by decide +kernel
theorem dX1_init_24 : decode cX1_init 24 = .ok (.iload_n 1, 1) := by decide +kernel
theorem dX1_init_25 : decode cX1_init 25 = .ok (.aload_n 0, 1) := by decide +kernel
theorem dX1_init_26 : decode cX1_init 26 = .ok (.getfield 11, 3) := by decide +kernel
theorem dX1_init_29 : decode cX1_init 29 = .ok (.arraylength, 1) := by decide +kernel
theorem dX1_init_30 : decode cX1_init 30 = .ok (.if_icmp .ge 22, 3) := by decide +kernel
theorem dX1_init_33 : decode cX1_init 33 = .ok (.aload_n 0, 1) := by decide +kernel
theorem dX1_init_34 : decode cX1_init 34 = .ok (.getfield 11, 3) := by decide +kernel
theorem dX1_init_37 : decode cX1_init 37 = .ok (.iload_n 1, 1) := by decide +kernel
theorem dX1_init_38 : decode cX1_init 38 = .ok (.new 9, 3) := by decide +kernel
theorem dX1_init_41 : decode cX1_init 41 = .ok (.dup, 1) := by decide +kernel
theorem dX1_init_42 : decode cX1_init 42 = .ok (.invokespecial 24, 3) := by decide +kernel
theorem dX1_init_45 : decode cX1_init 45 = .ok (.aastore, 1) := by decide +kernel
theorem dX1_init_46 : decode cX1_init 46 = .ok (.iinc 1 1, 3) := by decide +kernel
theorem dX1_init_49 : decode cX1_init 49 = .ok (.goto (-25), 3) := by decide +kernel
theorem dX1_init_52 : decode cX1_init 52 = .ok (.return_, 1) := by decide +kernel
set_option maxRecDepth 20000 in
theorem ggX1_remember_X1_stateAt : GoodIn wsX1_remember wsX1_stateAt := goodIn_r _ [11, 12, 41, 42, 43] (by decide +kernel) (by decide +kernel)
set_option maxRecDepth 20000 in
theorem gX1_remember_X1_stateAt : GoodIn wsX1_remember (wsV RX1 25 RX1 yX1_stateAt wsX1_stateAt) := goodIn_app (goodIn_of _ (by decide +kernel)) ggX1_remember_X1_stateAt
set_option maxRecDepth 20000 in
theorem ggX1_remember_X2_copyFrom : GoodIn wsX1_remember wsX2_copyFrom := goodIn_r _ [16, 17, 18, 19, 20, 21, 22, 23, 24, 25, 26, 27, 28, 29, 30, 31, 32, 33, 34, 35, 36, 37, 38, 39, 40, 44, 45, 46, 47, 48, 49, 50, 51, 52, 53, 54, 55, 56, 57, 58] (by decide +kernel) (by decide +kernel)
set_option maxRecDepth 20000 in
theorem gX1_remember_X2_copyFrom_n29 : GoodIn wsX1_remember (wsX2_copyFrom) := ggX1_remember_X2_copyFrom
theorem dX1_remember_0 : decode cX1_remember 0 = .ok (.aload_n 0, 1) := by decide +kernel
theorem dX1_remember_1 : decode cX1_remember 1 = .ok (.aload_n 0, 1) := by decide +kernel
theorem dX1_remember_2 : decode cX1_remember 2 = .ok (.getfield 17, 3) := by decide +kernel
theorem dX1_remember_5 : decode cX1_remember 5 = .ok (.invokevirtual 25, 3) := by decide +kernel
theorem dX1_remember_8 : decode cX1_remember 8 = .ok (.astore_n 2, 1) := by decide +kernel
theorem dX1_remember_9 : decode cX1_remember 9 = .ok (.aload_n 2, 1) := by decide +kernel
theorem dX1_remember_10 : decode cX1_remember 10 = .ok (.ifnull 34, 3) := by decide +kernel
theorem dX1_remember_13 : decode cX1_remember 13 = .ok (.aload_n 2, 1) := by decide +kernel
theorem dX1_remember_14 : decode cX1_remember 14 = .ok (.aload_n 1, 1) := by decide +kernel
theorem dX1_remember_15 : decode cX1_remember 15 = .ok (.invokevirtual 29, 3) := by decide +kernel
theorem dX1_remember_18 : decode cX1_remember 18 = .ok (.aload_n 0, 1) := by decide +kernel
theorem dX1_remember_19 : decode cX1_remember 19 = .ok (.aload_n 0, 1) := by decide +kernel
theorem dX1_remember_20 : decode cX1_remember 20 = .ok (.getfield 17, 3) := by decide +kernel
theorem dX1_remember_23 : decode cX1_remember 23 = .ok (.iconst 1, 1) := by decide +kernel
theorem dX1_remember_24 : decode cX1_remember 24 = .ok (.iadd, 1) := by decide +kernel
theorem dX1_remember_25 : decode cX1_remember 25 = .ok (.iconst 4, 1) := by decide +kernel
theorem dX1_remember_26 : decode cX1_remember 26 = .ok (.irem, 1) := by decide +kernel
theorem dX1_remember_27 : decode cX1_remember 27 = .ok (.putfield 17, 3) := by decide +kernel
theorem dX1_remember_30 : decode cX1_remember 30 = .ok (.aload_n 0, 1) := by decide +kernel
theorem dX1_remember_31 : decode cX1_remember 31 = .ok (.aload_n 0, 1) := by decide +kernel
theorem dX1_remember_32 : decode cX1_remember 32 = .ok (.getfield 21, 3) := by decide +kernel
theorem dX1_remember_35 : decode cX1_remember 35 = .ok (.iconst 1, 1) := by decide +kernel
theorem dX1_remember_36 : decode cX1_remember 36 = .ok (.iadd, 1) := by decide +kernel
theorem dX1_remember_37 : decode cX1_remember 37 = .ok (.iconst 4, 1) := by decide +kernel
theorem dX1_remember_38 : decode cX1_remember 38 = .ok (.invokestatic 33, 3) := by decide +kernel
theorem dX1_remember_41 : decode cX1_remember 41 = .ok (.putfield 21, 3) := by decide +kernel
theorem dX1_remember_44 : decode cX1_remember 44 = .ok (.return_, 1) := by decide +kernel
set_option maxRecDepth 20000 in
theorem ggX1_takeLatest_X1_stateAt : GoodIn wsX1_takeLatest wsX1_stateAt := goodIn_r _ [7, 8, 37, 38, 39] (by decide +kernel) (by decide +kernel)
set_option maxRecDepth 20000 in
theorem gX1_takeLatest_X1_stateAt : GoodIn wsX1_takeLatest (wsV RX1 25 RX1 yX1_stateAt wsX1_stateAt) := goodIn_app (goodIn_of _ (by decide +kernel)) ggX1_takeLatest_X1_stateAt
set_option maxRecDepth 20000 in
theorem ggX1_takeLatest_X2_copyFrom : GoodIn wsX1_takeLatest wsX2_copyFrom := goodIn_r _ [12, 13, 14, 15, 16, 17, 18, 19, 20, 21, 22, 23, 24, 25, 26, 27, 28, 29, 30, 31, 32, 33, 34, 35, 36, 40, 41, 42, 43, 44, 45, 46, 47, 48, 49, 50, 51, 52, 53, 54] (by decide +kernel) (by decide +kernel)
set_option maxRecDepth 20000 in
theorem gX1_takeLatest_X2_copyFrom_n29 : GoodIn wsX1_takeLatest (wsX2_copyFrom) := ggX1_takeLatest_X2_copyFrom
theorem dX1_takeLatest_0 : decode cX1_takeLatest 0 = .ok (.aload_n 0, 1) := by decide +kernel
theorem dX1_takeLatest_1 : decode cX1_takeLatest 1 = .ok (.getfield 17, 3) := by decide +kernel
theorem dX1_takeLatest_4 : decode cX1_takeLatest 4 = .ok (.iconst 4, 1) := by decide +kernel
theorem dX1_takeLatest_5 : decode cX1_takeLatest 5 = .ok (.iadd, 1) := by decide +kernel
theorem dX1_takeLatest_6 : decode cX1_takeLatest 6 = .ok (.iconst 1, 1) := by decide +kernel
theorem dX1_takeLatest_7 : decode cX1_takeLatest 7 = .ok (.isub, 1) := by decide +kernel
theorem dX1_takeLatest_8 : decode cX1_takeLatest 8 = .ok (.iconst 4, 1) := by decide +kernel
theorem dX1_takeLatest_9 : decode cX1_takeLatest 9 = .ok (.irem, 1) := by decide +kernel
theorem dX1_takeLatest_10 : decode cX1_takeLatest 10 = .ok (.istore_n 2, 1) := by decide +kernel
theorem dX1_takeLatest_11 : decode cX1_takeLatest 11 = .ok (.aload_n 0, 1) := by decide +kernel
theorem dX1_takeLatest_12 : decode cX1_takeLatest 12 = .ok (.iload_n 2, 1) := by decide +kernel
theorem dX1_takeLatest_13 : decode cX1_takeLatest 13 = .ok (.invokevirtual 25, 3) := by decide +kernel
theorem dX1_takeLatest_16 : decode cX1_takeLatest 16 = .ok (.astore_n 3, 1) := by decide +kernel
theorem dX1_takeLatest_17 : decode cX1_takeLatest 17 = .ok (.aload_n 0, 1) := by decide +kernel
theorem dX1_takeLatest_18 : decode cX1_takeLatest 18 = .ok (.getfield 21, 3) := by decide +kernel
theorem dX1_takeLatest_21 : decode cX1_takeLatest 21 = .ok (.ifCond .eq 7, 3) := by decide +kernel
theorem dX1_takeLatest_24 : decode cX1_takeLatest 24 = .ok (.aload_n 3, 1) := by decide +kernel
theorem dX1_takeLatest_25 : decode cX1_takeLatest 25 = .ok (.ifnonnull 6, 3) := by decide +kernel
theorem dX1_takeLatest_28 : decode cX1_takeLatest 28 = .ok (.bipush (-5), 2) := by decide +kernel
theorem dX1_takeLatest_30 : decode cX1_takeLatest 30 = .ok (.ireturn, 1) := by decide +kernel
theorem dX1_takeLatest_31 : decode cX1_takeLatest 31 = .ok (.aload_n 1, 1) := by decide +kernel
theorem dX1_takeLatest_32 : decode cX1_takeLatest 32 = .ok (.aload_n 3, 1) := by decide +kernel
theorem dX1_takeLatest_33 : decode cX1_takeLatest 33 = .ok (.invokevirtual 29, 3) := by decide +kernel
theorem dX1_takeLatest_36 : decode cX1_takeLatest 36 = .ok (.aload_n 0, 1) := by decide +kernel
theorem dX1_takeLatest_37 : decode cX1_takeLatest 37 = .ok (.iload_n 2, 1) := by decide +kernel
theorem dX1_takeLatest_38 : decode cX1_takeLatest 38 = .ok (.putfield 17, 3) := by decide +kernel
theorem dX1_takeLatest_41 : decode cX1_takeLatest 41 = .ok (.aload_n 0, 1) := by decide +kernel
theorem dX1_takeLatest_42 : decode cX1_takeLatest 42 = .ok (.dup, 1) := by decide +kernel
theorem dX1_takeLatest_43 : decode cX1_takeLatest 43 = .ok (.getfield 21, 3) := by decide +kernel
theorem dX1_takeLatest_46 : decode cX1_takeLatest 46 = .ok (.iconst 1, 1) := by decide +kernel
theorem dX1_takeLatest_47 : decode cX1_takeLatest 47 = .ok (.isub, 1) := by decide +kernel
theorem dX1_takeLatest_48 : decode cX1_takeLatest 48 = .ok (.putfield 21, 3) := by decide +kernel
theorem dX1_takeLatest_51 : decode cX1_takeLatest 51 = .ok (.aload_n 0, 1) := by decide +kernel
theorem dX1_takeLatest_52 : decode cX1_takeLatest 52 = .ok (.getfield 21, 3) := by decide +kernel
theorem dX1_takeLatest_55 : decode cX1_takeLatest 55 = .ok (.ireturn, 1) := by decide +kernel
theorem dX1_stateAt_0 : decode cX1_stateAt 0 = .ok (.iload_n 1, 1) := by decide +kernel
theorem dX1_stateAt_1 : decode cX1_stateAt 1 = .ok (.ifCond .lt 21, 3) := by decide +kernel
theorem dX1_stateAt_4 : decode cX1_stateAt 4 = .ok (.iload_n 1, 1) := by decide +kernel
theorem dX1_stateAt_5 : decode cX1_stateAt 5 = .ok (.aload_n 0, 1) := by decide +kernel
theorem dX1_stateAt_6 : decode cX1_stateAt 6 = .ok (.getfield 11, 3) := by decide +kernel
theorem dX1_stateAt_9 : decode cX1_stateAt 9 = .ok (.arraylength, 1) := by decide +kernel
theorem dX1_stateAt_10 : decode cX1_stateAt 10 = .ok (.if_icmp .ge 12, 3) := by decide +kernel
theorem dX1_stateAt_13 : decode cX1_stateAt 13 = .ok (.aload_n 0, 1) := by decide +kernel
theorem dX1_stateAt_14 : decode cX1_stateAt 14 = .ok (.getfield 11, 3) := by decide +kernel
theorem dX1_stateAt_17 : decode cX1_stateAt 17 = .ok (.iload_n 1, 1) := by decide +kernel
theorem dX1_stateAt_18 : decode cX1_stateAt 18 = .ok (.aaload, 1) := by decide +kernel
theorem dX1_stateAt_19 : decode cX1_stateAt 19 = .ok (.goto 4, 3) := by decide +kernel
theorem dX1_stateAt_22 : decode cX1_stateAt 22 = .ok (.aconst_null, 1) := by decide +kernel
theorem dX1_stateAt_23 : decode cX1_stateAt 23 = .ok (.areturn, 1) := by decide +kernel
set_option maxRecDepth 20000 in
theorem ggX2_init_X3_init : GoodIn wsX2_init wsX3_init := goodIn_r _ [26, 27, 2, 3, 8, 28, 29, 30, 31, 32, 33, 34, 35] (by decide +kernel) (by decide +kernel)
set_option maxRecDepth 20000 in
theorem gX2_init_X3_init_n11 : GoodIn wsX2_init (wsX3_init) := ggX2_init_X3_init
theorem dX2_init_0 : decode cX2_init 0 = .ok (.aload_n 0, 1) := by decide +kernel
theorem dX2_init_1 : decode cX2_init 1 = .ok (.invokespecial 3, 3) := by decide +kernel
theorem dX2_init_4 : decode cX2_init 4 = .ok (.aload_n 0, 1) := by decide +kernel
theorem dX2_init_5 : decode cX2_init 5 = .ok (.new 9, 3) := by decide +kernel
theorem dX2_init_8 : decode cX2_init 8 = .ok (.dup, 1) := by decide +kernel
theorem dX2_init_9 : decode cX2_init 9 = .ok (.invokespecial 11, 3) := by decide +kernel
theorem dX2_init_12 : decode cX2_init 12 = .ok (.putfield 12, 3) := by decide +kernel
theorem dX2_init_15 : decode cX2_init 15 = .ok (.aload_n 0, 1) := by decide +kernel
theorem dX2_init_16 : decode cX2_init 16 = .ok (.bipush 12, 2) := by decide +kernel
theorem dX2_init_18 : decode cX2_init 18 = .ok (.newarray .int, 2) := by decide +kernel
theorem dX2_init_20 : decode cX2_init 20 = .ok (.putfield 18, 3) := by decide +kernel
theorem dX2_init_23 : decode cX2_init 23 = .ok (.aload_n 0, 1) := by decide +kernel
theorem dX2_init_24 : decode cX2_init 24 = .ok (.getstatic 22, 3) := by decide +kernel
theorem dX2_init_27 : decode cX2_init 27 = .ok (.invokevirtual 25, 3) := by decide +kernel
theorem dX2_init_30 : decode cX2_init 30 = .ok (.checkcast 26, 3) := by decide +kernel
theorem dX2_init_33 : decode cX2_init 33 = .ok (.putfield 30, 3) := by decide +kernel
theorem dX2_init_36 : decode cX2_init 36 = .ok (.aload_n 0, 1) := by decide +kernel
theorem dX2_init_37 : decode cX2_init 37 = .ok (.sipush 5000, 3) := by decide +kernel
theorem dX2_init_40 : decode cX2_init 40 = .ok (.putfield 33, 3) := by decide +kernel
theorem dX2_init_43 : decode cX2_init 43 = .ok (.aload_n 0, 1) := by decide +kernel
theorem dX2_init_44 : decode cX2_init 44 = .ok (.iconst 0, 1) := by decide +kernel
theorem dX2_init_45 : decode cX2_init 45 = .ok (.putfield 37, 3) := by decide +kernel
theorem dX2_init_48 : decode cX2_init 48 = .ok (.aload_n 0, 1) := by decide +kernel
theorem dX2_init_49 : decode cX2_init 49 = .ok (.iconst 0, 1) := by decide +kernel
theorem dX2_init_50 : decode cX2_init 50 = .ok (.putfield 40, 3) := by decide +kernel
theorem dX2_init_53 : decode cX2_init 53 = .ok (.aload_n 0, 1) := by decide +kernel
theorem dX2_init_54 : decode cX2_init 54 = .ok (.iconst (-1), 1) := by decide +kernel
theorem dX2_init_55 : decode cX2_init 55 = .ok (.putfield 44, 3) := by decide +kernel
theorem dX2_init_58 : decode cX2_init 58 = .ok (.aload_n 0, 1) := by decide +kernel
theorem dX2_init_59 : decode cX2_init 59 = .ok (.iconst 0, 1) := by decide +kernel
theorem dX2_init_60 : decode cX2_init 60 = .ok (.putfield 47, 3) := by decide +kernel
theorem dX2_init_63 : decode cX2_init 63 = .ok (.aload_n 0, 1) := by decide +kernel
theorem dX2_init_64 : decode cX2_init 64 = .ok (.iconst 0, 1) := by decide +kernel
theorem dX2_init_65 : decode cX2_init 65 = .ok (.putfield 50, 3) := by decide +kernel
theorem dX2_init_68 : decode cX2_init 68 = .ok (.aload_n 0, 1) := by decide +kernel
theorem dX2_init_69 : decode cX2_init 69 = .ok (.iconst 0, 1) := by decide +kernel
theorem dX2_init_70 : decode cX2_init 70 = .ok (.putfield 53, 3) := by decide +kernel
theorem dX2_init_73 : decode cX2_init 73 = .ok (.aload_n 0, 1) := by decide +kernel
theorem dX2_init_74 : decode cX2_init 74 = .ok (.iconst 0, 1) := by decide +kernel
theorem dX2_init_75 : decode cX2_init 75 = .ok (.putfield 56, 3) := by decide +kernel
theorem dX2_init_78 : decode cX2_init 78 = .ok (.return_, 1) := by decide +kernel
set_option maxRecDepth 20000 in
theorem ggX2_copyFrom_X3_copyFrom : GoodIn wsX2_copyFrom wsX3_copyFrom := goodIn_r _ [19, 20, 21, 4, 5, 6, 22, 23, 24, 36, 37, 38, 39] (by decide +kernel) (by decide +kernel)
set_option maxRecDepth 20000 in
theorem gX2_copyFrom_X3_copyFrom_n59 : GoodIn wsX2_copyFrom (wsX3_copyFrom) := ggX2_copyFrom_X3_copyFrom
theorem dX2_copyFrom_0 : decode cX2_copyFrom 0 = .ok (.aload_n 0, 1) := by decide +kernel
theorem dX2_copyFrom_1 : decode cX2_copyFrom 1 = .ok (.getfield 12, 3) := by decide +kernel
theorem dX2_copyFrom_4 : decode cX2_copyFrom 4 = .ok (.aload_n 1, 1) := by decide +kernel
theorem dX2_copyFrom_5 : decode cX2_copyFrom 5 = .ok (.getfield 12, 3) := by decide +kernel
theorem dX2_copyFrom_8 : decode cX2_copyFrom 8 = .ok (.invokevirtual 59, 3) := by decide +kernel
theorem dX2_copyFrom_11 : decode cX2_copyFrom 11 = .ok (.aload_n 1, 1) := by decide +kernel
theorem dX2_copyFrom_12 : decode cX2_copyFrom 12 = .ok (.getfield 18, 3) := by decide +kernel
theorem dX2_copyFrom_15 : decode cX2_copyFrom 15 = .ok (.iconst 0, 1) := by decide +kernel
theorem dX2_copyFrom_16 : decode cX2_copyFrom 16 = .ok (.aload_n 0, 1) := by decide +kernel
theorem dX2_copyFrom_17 : decode cX2_copyFrom 17 = .ok (.getfield 18, 3) := by decide +kernel
theorem dX2_copyFrom_20 : decode cX2_copyFrom 20 = .ok (.iconst 0, 1) := by decide +kernel
theorem dX2_copyFrom_21 : decode cX2_copyFrom 21 = .ok (.bipush 12, 2) := by decide +kernel
theorem dX2_copyFrom_23 : decode cX2_copyFrom 23 = .ok (.invokestatic 63, 3) := by decide +kernel
theorem dX2_copyFrom_26 : decode cX2_copyFrom 26 = .ok (.aload_n 1, 1) := by decide +kernel
theorem dX2_copyFrom_27 : decode cX2_copyFrom 27 = .ok (.getfield 30, 3) := by decide +kernel
theorem dX2_copyFrom_30 : decode cX2_copyFrom 30 = .ok (.iconst 0, 1) := by decide +kernel
theorem dX2_copyFrom_31 : decode cX2_copyFrom 31 = .ok (.aload_n 0, 1) := by decide +kernel
theorem dX2_copyFrom_32 : decode cX2_copyFrom 32 = .ok (.getfield 30, 3) := by decide +kernel
theorem dX2_copyFrom_35 : decode cX2_copyFrom 35 = .ok (.iconst 0, 1) := by decide +kernel
theorem dX2_copyFrom_36 : decode cX2_copyFrom 36 = .ok (.getstatic 22, 3) := by decide +kernel
theorem dX2_copyFrom_39 : decode cX2_copyFrom 39 = .ok (.arraylength, 1) := by decide +kernel
theorem dX2_copyFrom_40 : decode cX2_copyFrom 40 = .ok (.invokestatic 63, 3) := by decide +kernel
theorem dX2_copyFrom_43 : decode cX2_copyFrom 43 = .ok (.aload_n 0, 1) := by decide +kernel
theorem dX2_copyFrom_44 : decode cX2_copyFrom 44 = .ok (.aload_n 1, 1) := by decide +kernel
theorem dX2_copyFrom_45 : decode cX2_copyFrom 45 = .ok (.getfield 33, 3) := by decide +kernel
theorem dX2_copyFrom_48 : decode cX2_copyFrom 48 = .ok (.putfield 33, 3) := by decide +kernel
theorem dX2_copyFrom_51 : decode cX2_copyFrom 51 = .ok (.aload_n 0, 1) := by decide +kernel
theorem dX2_copyFrom_52 : decode cX2_copyFrom 52 = .ok (.aload_n 1, 1) := by decide +kernel
theorem dX2_copyFrom_53 : decode cX2_copyFrom 53 = .ok (.getfield 37, 3) := by decide +kernel
theorem dX2_copyFrom_56 : decode cX2_copyFrom 56 = .ok (.putfield 37, 3) := by decide +kernel
theorem dX2_copyFrom_59 : decode cX2_copyFrom 59 = .ok (.aload_n 0, 1) := by decide +kernel
theorem dX2_copyFrom_60 : decode cX2_copyFrom 60 = .ok (.aload_n 1, 1) := by decide +kernel
theorem dX2_copyFrom_61 : decode cX2_copyFrom 61 = .ok (.getfield 40, 3) := by decide +kernel
theorem dX2_copyFrom_64 : decode cX2_copyFrom 64 = .ok (.putfield 40, 3) := by decide +kernel
theorem dX2_copyFrom_67 : decode cX2_copyFrom 67 = .ok (.aload_n 0, 1) := by decide +kernel
theorem dX2_copyFrom_68 : decode cX2_copyFrom 68 = .ok (.aload_n 1, 1) := by decide +kernel
theorem dX2_copyFrom_69 : decode cX2_copyFrom 69 = .ok (.getfield 44, 3) := by decide +kernel
theorem dX2_copyFrom_72 : decode cX2_copyFrom 72 = .ok (.putfield 44, 3) := by decide +kernel
theorem dX2_copyFrom_75 : decode cX2_copyFrom 75 = .ok (.aload_n 0, 1) := by decide +kernel
theorem dX2_copyFrom_76 : decode cX2_copyFrom 76 = .ok (.aload_n 1, 1) := by decide +kernel
theorem dX2_copyFrom_77 : decode cX2_copyFrom 77 = .ok (.getfield 47, 3) := by decide +kernel
theorem dX2_copyFrom_80 : decode cX2_copyFrom 80 = .ok (.putfield 47, 3) := by decide +kernel
theorem dX2_copyFrom_83 : decode cX2_copyFrom 83 = .ok (.aload_n 0, 1) := by decide +kernel
theorem dX2_copyFrom_84 : decode cX2_copyFrom 84 = .ok (.aload_n 1, 1) := by decide +kernel
theorem dX2_copyFrom_85 : decode cX2_copyFrom 85 = .ok (.getfield 50, 3) := by decide +kernel
theorem dX2_copyFrom_88 : decode cX2_copyFrom 88 = .ok (.putfield 50, 3) := by decide +kernel
theorem dX2_copyFrom_91 : decode cX2_copyFrom 91 = .ok (.aload_n 0, 1) := by decide +kernel
theorem dX2_copyFrom_92 : decode cX2_copyFrom 92 = .ok (.aload_n 1, 1) := by decide +kernel
theorem dX2_copyFrom_93 : decode cX2_copyFrom 93 = .ok (.getfield 53, 3) := by decide +kernel
theorem dX2_copyFrom_96 : decode cX2_copyFrom 96 = .ok (.putfield 53, 3) := by decide +kernel
theorem dX2_copyFrom_99 : decode cX2_copyFrom 99 = .ok (.aload_n 0, 1) := by decide +kernel
theorem dX2_copyFrom_100 : decode cX2_copyFrom 100 = .ok (.aload_n 1, 1) := by decide +kernel
theorem dX2_copyFrom_101 : decode cX2_copyFrom 101 = .ok (.getfield 56, 3) := by decide +kernel
theorem dX2_copyFrom_104 : decode cX2_copyFrom 104 = .ok (.putfield 56, 3) := by decide +kernel
theorem dX2_copyFrom_107 : decode cX2_copyFrom 107 = .ok (.return_, 1) := by decide +kernel
set_option maxRecDepth 20000 in
theorem ggX2_obey_X2_turnOften : GoodIn wsX2_obey wsX2_turnOften := goodIn_r _ [5, 6, 7, 8, 9, 10, 11, 12, 13, 14, 15, 16, 17, 18, 19, 20, 4, 21, 22, 23, 24, 25, 26, 27, 28, 29, 30, 31, 32, 33, 34, 35, 36, 37, 38, 39, 40, 41, 42, 43, 44, 45, 46, 47, 48, 49, 50, 51, 52, 53, 54, 55, 56, 57, 58, 59, 60, 61, 62, 63, 64, 65, 66, 67, 68, 69, 70, 71, 72, 73, 74, 75, 76, 77, 78, 79, 80, 81, 82, 83, 97, 98, 99, 100, 101, 102, 103, 104, 105, 106, 107, 108, 109, 110, 111] (by decide +kernel) (by decide +kernel)
set_option maxRecDepth 20000 in
theorem gX2_obey_X2_turnOften : GoodIn wsX2_obey (wsV RX2 69 RX2 yX2_turnOften wsX2_turnOften) := goodIn_app (goodIn_of _ (by decide +kernel)) ggX2_obey_X2_turnOften
set_option maxRecDepth 20000 in
theorem ggX2_obey_X2_changeCone : GoodIn wsX2_obey wsX2_changeCone := goodIn_r _ [87, 27, 6, 22, 7, 8, 9, 10, 11, 12, 13, 14, 15, 16, 17, 97, 98, 99, 100, 101, 102, 103, 104, 105, 106, 107, 108, 109, 110, 111] (by decide +kernel) (by decide +kernel)
set_option maxRecDepth 20000 in
theorem gX2_obey_X2_changeCone : GoodIn wsX2_obey (wsV RX2 73 RX2 yX2_changeCone wsX2_changeCone) := goodIn_app (goodIn_of _ (by decide +kernel)) ggX2_obey_X2_changeCone
set_option maxRecDepth 20000 in
theorem ggX2_obey_X2_tieKnot : GoodIn wsX2_obey wsX2_tieKnot := goodIn_r _ [91, 27, 22, 39, 92, 66, 67, 68, 4, 69, 70, 97, 98, 99, 100, 101, 102, 103, 104, 105, 106, 107] (by decide +kernel) (by decide +kernel)
set_option maxRecDepth 20000 in
theorem gX2_obey_X2_tieKnot : GoodIn wsX2_obey (wsV RX2 76 RX2 yX2_tieKnot wsX2_tieKnot) := goodIn_app (goodIn_of _ (by decide +kernel)) ggX2_obey_X2_tieKnot
set_option maxRecDepth 20000 in
theorem ggX2_obey_X2_changeNumber : GoodIn wsX2_obey wsX2_changeNumber := goodIn_r _ [96, 70, 7, 8, 9, 10, 11, 12, 13, 14, 15, 16, 17, 97, 98, 99, 100, 101, 102, 103, 104, 105, 106, 107] (by decide +kernel) (by decide +kernel)
set_option maxRecDepth 20000 in
theorem gX2_obey_X2_changeNumber : GoodIn wsX2_obey (wsV RX2 80 RX2 yX2_changeNumber wsX2_changeNumber) := goodIn_app (goodIn_of _ (by decide +kernel)) ggX2_obey_X2_changeNumber
theorem dX2_obey_0 : decode cX2_obey 0 = .ok (.iload_n 1, 1) := by decide +kernel
theorem dX2_obey_1 : decode cX2_obey 1 = .ok (.tableswitch 44 5 7 #[27, 33, 39], 27) := by decide +kernel
theorem dX2_obey_28 : decode cX2_obey 28 = .ok (.aload_n 0, 1) := by decide +kernel
theorem dX2_obey_29 : decode cX2_obey 29 = .ok (.iload_n 2, 1) := by decide +kernel
theorem dX2_obey_30 : decode cX2_obey 30 = .ok (.invokevirtual 69, 3) := by decide +kernel
theorem dX2_obey_33 : decode cX2_obey 33 = .ok (.ireturn, 1) := by decide +kernel
theorem dX2_obey_34 : decode cX2_obey 34 = .ok (.aload_n 0, 1) := by decide +kernel
theorem dX2_obey_35 : decode cX2_obey 35 = .ok (.iload_n 2, 1) := by decide +kernel
theorem dX2_obey_36 : decode cX2_obey 36 = .ok (.invokevirtual 73, 3) := by decide +kernel
theorem dX2_obey_39 : decode cX2_obey 39 = .ok (.ireturn, 1) := by decide +kernel
theorem dX2_obey_40 : decode cX2_obey 40 = .ok (.aload_n 0, 1) := by decide +kernel
theorem dX2_obey_41 : decode cX2_obey 41 = .ok (.invokevirtual 76, 3) := by decide +kernel
theorem dX2_obey_44 : decode cX2_obey 44 = .ok (.ireturn, 1) := by decide +kernel
theorem dX2_obey_45 : decode cX2_obey 45 = .ok (.aload_n 0, 1) := by decide +kernel
theorem dX2_obey_46 : decode cX2_obey 46 = .ok (.iload_n 1, 1) := by decide +kernel
theorem dX2_obey_47 : decode cX2_obey 47 = .ok (.iload_n 2, 1) := by decide +kernel
theorem dX2_obey_48 : decode cX2_obey 48 = .ok (.invokevirtual 80, 3) := by decide +kernel
theorem dX2_obey_51 : decode cX2_obey 51 = .ok (.ireturn, 1) := by decide +kernel
set_option maxRecDepth 20000 in
theorem ggX2_changeNumber_X4_inRange : GoodIn wsX2_changeNumber wsX4_inRange := goodIn_r _ [4, 5, 6, 3, 7, 8, 9, 10, 11, 12] (by decide +kernel) (by decide +kernel)
set_option maxRecDepth 20000 in
theorem gX2_changeNumber_X4_inRange_n84 : GoodIn wsX2_changeNumber (wsX4_inRange) := ggX2_changeNumber_X4_inRange
theorem dX2_changeNumber_0 : decode cX2_changeNumber 0 = .ok (.iload_n 1, 1) := by decide +kernel
theorem dX2_changeNumber_1 : decode cX2_changeNumber 1 = .ok (.ifCond .lt 12, 3) := by decide +kernel
theorem dX2_changeNumber_4 : decode cX2_changeNumber 4 = .ok (.iload_n 1, 1) := by decide +kernel
theorem dX2_changeNumber_5 : decode cX2_changeNumber 5 = .ok (.aload_n 0, 1) := by decide +kernel
theorem dX2_changeNumber_6 : decode cX2_changeNumber 6 = .ok (.getfield 30, 3) := by decide +kernel
theorem dX2_changeNumber_9 : decode cX2_changeNumber 9 = .ok (.arraylength, 1) := by decide +kernel
theorem dX2_changeNumber_10 : decode cX2_changeNumber 10 = .ok (.if_icmp .lt 5, 3) := by decide +kernel
theorem dX2_changeNumber_13 : decode cX2_changeNumber 13 = .ok (.iconst (-1), 1) := by decide +kernel
theorem dX2_changeNumber_14 : decode cX2_changeNumber 14 = .ok (.ireturn, 1) := by decide +kernel
theorem dX2_changeNumber_15 : decode cX2_changeNumber 15 = .ok (.iload_n 1, 1) := by decide +kernel
theorem dX2_changeNumber_16 : decode cX2_changeNumber 16 = .ok (.iload_n 2, 1) := by decide +kernel
theorem dX2_changeNumber_17 : decode cX2_changeNumber 17 = .ok (.invokestatic 84, 3) := by decide +kernel
theorem dX2_changeNumber_20 : decode cX2_changeNumber 20 = .ok (.ifCond .ne 6, 3) := by decide +kernel
theorem dX2_changeNumber_23 : decode cX2_changeNumber 23 = .ok (.bipush (-2), 2) := by decide +kernel
theorem dX2_changeNumber_25 : decode cX2_changeNumber 25 = .ok (.ireturn, 1) := by decide +kernel
theorem dX2_changeNumber_26 : decode cX2_changeNumber 26 = .ok (.aload_n 0, 1) := by decide +kernel
theorem dX2_changeNumber_27 : decode cX2_changeNumber 27 = .ok (.getfield 30, 3) := by decide +kernel
theorem dX2_changeNumber_30 : decode cX2_changeNumber 30 = .ok (.iload_n 1, 1) := by decide +kernel
theorem dX2_changeNumber_31 : decode cX2_changeNumber 31 = .ok (.iaload, 1) := by decide +kernel
theorem dX2_changeNumber_32 : decode cX2_changeNumber 32 = .ok (.istore_n 3, 1) := by decide +kernel
theorem dX2_changeNumber_33 : decode cX2_changeNumber 33 = .ok (.iload_n 3, 1) := by decide +kernel
theorem dX2_changeNumber_34 : decode cX2_changeNumber 34 = .ok (.iload_n 2, 1) := by decide +kernel
theorem dX2_changeNumber_35 : decode cX2_changeNumber 35 = .ok (.if_icmp .ne 6, 3) := by decide +kernel
theorem dX2_changeNumber_38 : decode cX2_changeNumber 38 = .ok (.bipush (-5), 2) := by decide +kernel
theorem dX2_changeNumber_40 : decode cX2_changeNumber 40 = .ok (.ireturn, 1) := by decide +kernel
theorem dX2_changeNumber_41 : decode cX2_changeNumber 41 = .ok (.aload_n 0, 1) := by decide +kernel
theorem dX2_changeNumber_42 : decode cX2_changeNumber 42 = .ok (.getfield 30, 3) := by decide +kernel
theorem dX2_changeNumber_45 : decode cX2_changeNumber 45 = .ok (.iload_n 1, 1) := by decide +kernel
theorem dX2_changeNumber_46 : decode cX2_changeNumber 46 = .ok (.iload_n 2, 1) := by decide +kernel
theorem dX2_changeNumber_47 : decode cX2_changeNumber 47 = .ok (.iastore, 1) := by decide +kernel
theorem dX2_changeNumber_48 : decode cX2_changeNumber 48 = .ok (.iload_n 3, 1) := by decide +kernel
theorem dX2_changeNumber_49 : decode cX2_changeNumber 49 = .ok (.ireturn, 1) := by decide +kernel
set_option maxRecDepth 20000 in
theorem ggX2_turnOften_X4_inRange : GoodIn wsX2_turnOften wsX4_inRange := goodIn_r _ [4, 5, 6, 3, 7, 8, 9, 10, 11, 12] (by decide +kernel) (by decide +kernel)
set_option maxRecDepth 20000 in
theorem gX2_turnOften_X4_inRange_n84 : GoodIn wsX2_turnOften (wsX4_inRange) := ggX2_turnOften_X4_inRange
set_option maxRecDepth 20000 in
theorem ggX2_turnOften_X2_isIdle : GoodIn wsX2_turnOften wsX2_isIdle := goodIn_r _ [17, 18, 1, 19, 20, 21, 16, 22, 23, 24, 25, 26, 27, 28, 80, 81, 82, 83, 84, 85, 86, 87, 88, 89, 90, 91, 92, 93, 94] (by decide +kernel) (by decide +kernel)
set_option maxRecDepth 20000 in
theorem gX2_turnOften_X2_isIdle : GoodIn wsX2_turnOften (wsV RX2 88 RX2 yX2_isIdle wsX2_isIdle) := goodIn_app (goodIn_of _ (by decide +kernel)) ggX2_turnOften_X2_isIdle
set_option maxRecDepth 20000 in
theorem ggX2_turnOften_X2_turnOnce : GoodIn wsX2_turnOften wsX2_turnOnce := goodIn_r _ [32, 33, 1, 23, 34, 35, 18, 36, 13, 14, 15, 16, 17, 19, 20, 21, 22, 24, 25, 26, 27, 28, 37, 38, 39, 40, 41, 42, 43, 44, 45, 46, 47, 48, 49, 50, 51, 52, 53, 54, 55, 56, 57, 58, 59, 60, 61, 62, 63, 64, 65, 66, 67, 68, 69, 70, 71, 72, 73, 74, 75, 76, 77, 78, 3, 79, 80, 81, 82, 83, 84, 85, 86, 87, 88, 89, 90, 91, 92, 93, 94] (by decide +kernel) (by decide +kernel)
set_option maxRecDepth 20000 in
theorem gX2_turnOften_X2_turnOnce : GoodIn wsX2_turnOften (wsV RX2 95 RX2 yX2_turnOnce wsX2_turnOnce) := goodIn_app (goodIn_of _ (by decide +kernel)) ggX2_turnOften_X2_turnOnce
theorem dX2_turnOften_0 : decode cX2_turnOften 0 = .ok (.iconst 5, 1) := by decide +kernel
theorem dX2_turnOften_1 : decode cX2_turnOften 1 = .ok (.iload_n 1, 1) := by decide +kernel
theorem dX2_turnOften_2 : decode cX2_turnOften 2 = .ok (.invokestatic 84, 3) := by decide +kernel
theorem dX2_turnOften_5 : decode cX2_turnOften 5 = .ok (.ifCond .ne 6, 3) := by decide +kernel
theorem dX2_turnOften_8 : decode cX2_turnOften 8 = .ok (.bipush (-2), 2) := by decide +kernel
theorem dX2_turnOften_10 : decode cX2_turnOften 10 = .ok (.ireturn, 1) := by decide +kernel
theorem dX2_turnOften_11 : decode cX2_turnOften 11 = .ok (.aload_n 0, 1) := by decide +kernel
theorem dX2_turnOften_12 : decode cX2_turnOften 12 = .ok (.invokevirtual 88, 3) := by decide +kernel
theorem dX2_turnOften_15 : decode cX2_turnOften 15 = .ok (.ifCond .eq 6, 3) := by decide +kernel
theorem dX2_turnOften_18 : decode cX2_turnOften 18 = .ok (.bipush (-5), 2) := by decide +kernel
theorem dX2_turnOften_20 : decode cX2_turnOften 20 = .ok (.ireturn, 1) := by decide +kernel
theorem dX2_turnOften_21 : decode cX2_turnOften 21 = .ok (.aload_n 0, 1) := by decide +kernel
theorem dX2_turnOften_22 : decode cX2_turnOften 22 = .ok (.getfield 12, 3) := by decide +kernel
theorem dX2_turnOften_25 : decode cX2_turnOften 25 = .ok (.getfield 92, 3) := by decide +kernel
theorem dX2_turnOften_28 : decode cX2_turnOften 28 = .ok (.istore_n 2, 1) := by decide +kernel
theorem dX2_turnOften_29 : decode cX2_turnOften 29 = .ok (.iconst 0, 1) := by decide +kernel
theorem dX2_turnOften_30 : decode cX2_turnOften 30 = .ok (.istore_n 3, 1) := by decide +kernel
theorem dX2_turnOften_31 : decode cX2_turnOften 31 = .ok (.iload_n 3, 1) := by decide +kernel
theorem dX2_turnOften_32 : decode cX2_turnOften 32 = .ok (.iload_n 1, 1) := by decide +kernel
theorem dX2_turnOften_33 : decode cX2_turnOften 33 = .ok (.if_icmp .ge 20, 3) := by decide +kernel
theorem dX2_turnOften_36 : decode cX2_turnOften 36 = .ok (.aload_n 0, 1) := by decide +kernel
theorem dX2_turnOften_37 : decode cX2_turnOften 37 = .ok (.invokevirtual 88, 3) := by decide +kernel
theorem dX2_turnOften_40 : decode cX2_turnOften 40 = .ok (.ifCond .ne 13, 3) := by decide +kernel
theorem dX2_turnOften_43 : decode cX2_turnOften 43 = .ok (.aload_n 0, 1) := by decide +kernel
theorem dX2_turnOften_44 : decode cX2_turnOften 44 = .ok (.invokevirtual 95, 3) := by decide +kernel
theorem dX2_turnOften_47 : decode cX2_turnOften 47 = .ok (.iinc 3 1, 3) := by decide +kernel
theorem dX2_turnOften_50 : decode cX2_turnOften 50 = .ok (.goto (-19), 3) := by decide +kernel
theorem dX2_turnOften_53 : decode cX2_turnOften 53 = .ok (.aload_n 0, 1) := by decide +kernel
theorem dX2_turnOften_54 : decode cX2_turnOften 54 = .ok (.getfield 12, 3) := by decide +kernel
theorem dX2_turnOften_57 : decode cX2_turnOften 57 = .ok (.getfield 92, 3) := by decide +kernel
theorem dX2_turnOften_60 : decode cX2_turnOften 60 = .ok (.iload_n 2, 1) := by decide +kernel
theorem dX2_turnOften_61 : decode cX2_turnOften 61 = .ok (.isub, 1) := by decide +kernel
theorem dX2_turnOften_62 : decode cX2_turnOften 62 = .ok (.ireturn, 1) := by decide +kernel
set_option maxRecDepth 20000 in
theorem ggX2_turnOnce_X2_isIdle : GoodIn wsX2_turnOnce wsX2_isIdle := goodIn_r _ [12, 6, 2, 13, 14, 15, 11, 16, 3, 17, 18, 19, 20, 21, 66, 67, 68, 69, 70, 71, 72, 73, 74, 75, 76, 77, 78, 79, 80] (by decide +kernel) (by decide +kernel)
set_option maxRecDepth 20000 in
theorem gX2_turnOnce_X2_isIdle : GoodIn wsX2_turnOnce (wsV RX2 88 RX2 yX2_isIdle wsX2_isIdle) := goodIn_app (goodIn_of _ (by decide +kernel)) ggX2_turnOnce_X2_isIdle
set_option maxRecDepth 20000 in
theorem ggX2_turnOnce_X3_guidePlace : GoodIn wsX2_turnOnce wsX3_guidePlace := goodIn_r _ [24, 25, 77, 78, 79, 80] (by decide +kernel) (by decide +kernel)
set_option maxRecDepth 20000 in
theorem gX2_turnOnce_X3_guidePlace_n98 : GoodIn wsX2_turnOnce (wsX3_guidePlace) := ggX2_turnOnce_X3_guidePlace
set_option maxRecDepth 20000 in
theorem ggX2_turnOnce_X3_heightAt : GoodIn wsX2_turnOnce wsX3_heightAt := goodIn_r _ [28, 29, 77, 78, 79, 80] (by decide +kernel) (by decide +kernel)
set_option maxRecDepth 20000 in
theorem gX2_turnOnce_X3_heightAt_n101 : GoodIn wsX2_turnOnce (wsX3_heightAt) := ggX2_turnOnce_X3_heightAt
set_option maxRecDepth 20000 in
theorem ggX2_turnOnce_X3_layWrap : GoodIn wsX2_turnOnce wsX3_layWrap := goodIn_r _ [32, 29, 33, 21, 34, 35, 36, 37, 38, 22, 23, 18, 24, 25, 77, 78, 79, 80] (by decide +kernel) (by decide +kernel)
set_option maxRecDepth 20000 in
theorem gX2_turnOnce_X3_layWrap_n104 : GoodIn wsX2_turnOnce (wsX3_layWrap) := ggX2_turnOnce_X3_layWrap
set_option maxRecDepth 20000 in
theorem ggX2_turnOnce_X2_tensionAt : GoodIn wsX2_turnOnce wsX2_tensionAt := goodIn_r _ [42, 43, 5, 2, 44, 45, 36, 46, 47, 48, 49, 11, 50, 51, 26, 18, 27, 28, 29, 66, 67, 68, 69, 70, 71, 72, 73, 74, 75, 76, 77, 78, 79, 80] (by decide +kernel) (by decide +kernel)
set_option maxRecDepth 20000 in
theorem gX2_turnOnce_X2_tensionAt : GoodIn wsX2_turnOnce (wsV RX2 107 RX2 yX2_tensionAt wsX2_tensionAt) := goodIn_app (goodIn_of _ (by decide +kernel)) ggX2_turnOnce_X2_tensionAt
set_option maxRecDepth 20000 in
theorem ggX2_turnOnce_X2_warmDiscs : GoodIn wsX2_turnOnce wsX2_warmDiscs := goodIn_r _ [55, 43, 56, 57, 36, 58, 59, 35, 37, 47, 48, 49, 11, 50, 51, 66, 67, 68, 69, 70, 71, 72, 73, 74, 75, 76] (by decide +kernel) (by decide +kernel)
set_option maxRecDepth 20000 in
theorem gX2_turnOnce_X2_warmDiscs : GoodIn wsX2_turnOnce (wsV RX2 110 RX2 yX2_warmDiscs wsX2_warmDiscs) := goodIn_app (goodIn_of _ (by decide +kernel)) ggX2_turnOnce_X2_warmDiscs
set_option maxRecDepth 20000 in
theorem ggX2_turnOnce_X2_number : GoodIn wsX2_turnOnce wsX2_number := goodIn_r _ [50, 51, 66, 67, 68, 69, 70, 71, 72, 73, 74, 75, 76] (by decide +kernel) (by decide +kernel)
set_option maxRecDepth 20000 in
theorem gX2_turnOnce_X2_number : GoodIn wsX2_turnOnce (wsV RX2 113 RX2 yX2_number wsX2_number) := goodIn_app (goodIn_of _ (by decide +kernel)) ggX2_turnOnce_X2_number
set_option maxRecDepth 20000 in
theorem ggX2_turnOnce_X3_moveGuide : GoodIn wsX2_turnOnce wsX3_moveGuide := goodIn_r _ [62, 25, 63, 64, 65, 77, 78, 79, 80] (by decide +kernel) (by decide +kernel)
set_option maxRecDepth 20000 in
theorem gX2_turnOnce_X3_moveGuide_n116 : GoodIn wsX2_turnOnce (wsX3_moveGuide) := ggX2_turnOnce_X3_moveGuide
theorem dX2_turnOnce_0 : decode cX2_turnOnce 0 = .ok (.aload_n 0, 1) := by decide +kernel
theorem dX2_turnOnce_1 : decode cX2_turnOnce 1 = .ok (.invokevirtual 88, 3) := by decide +kernel
theorem dX2_turnOnce_4 : decode cX2_turnOnce 4 = .ok (.ifCond .eq 4, 3) := by decide +kernel
theorem dX2_turnOnce_7 : decode cX2_turnOnce 7 = .ok (.return_, 1) := by decide +kernel
theorem dX2_turnOnce_8 : decode cX2_turnOnce 8 = .ok (.aload_n 0, 1) := by decide +kernel
theorem dX2_turnOnce_9 : decode cX2_turnOnce 9 = .ok (.dup, 1) := by decide +kernel
theorem dX2_turnOnce_10 : decode cX2_turnOnce 10 = .ok (.getfield 50, 3) := by decide +kernel
theorem dX2_turnOnce_13 : decode cX2_turnOnce 13 = .ok (.iconst 1, 1) := by decide +kernel
theorem dX2_turnOnce_14 : decode cX2_turnOnce 14 = .ok (.iadd, 1) := by decide +kernel
theorem dX2_turnOnce_15 : decode cX2_turnOnce 15 = .ok (.putfield 50, 3) := by decide +kernel
theorem dX2_turnOnce_18 : decode cX2_turnOnce 18 = .ok (.aload_n 0, 1) := by decide +kernel
theorem dX2_turnOnce_19 : decode cX2_turnOnce 19 = .ok (.getfield 12, 3) := by decide +kernel
theorem dX2_turnOnce_22 : decode cX2_turnOnce 22 = .ok (.invokevirtual 98, 3) := by decide +kernel
theorem dX2_turnOnce_25 : decode cX2_turnOnce 25 = .ok (.istore_n 1, 1) := by decide +kernel
theorem dX2_turnOnce_26 : decode cX2_turnOnce 26 = .ok (.bipush 10, 2) := by decide +kernel
theorem dX2_turnOnce_28 : decode cX2_turnOnce 28 = .ok (.aload_n 0, 1) := by decide +kernel
theorem dX2_turnOnce_29 : decode cX2_turnOnce 29 = .ok (.getfield 12, 3) := by decide +kernel
theorem dX2_turnOnce_32 : decode cX2_turnOnce 32 = .ok (.iload_n 1, 1) := by decide +kernel
theorem dX2_turnOnce_33 : decode cX2_turnOnce 33 = .ok (.invokevirtual 101, 3) := by decide +kernel
theorem dX2_turnOnce_36 : decode cX2_turnOnce 36 = .ok (.iadd, 1) := by decide +kernel
theorem dX2_turnOnce_37 : decode cX2_turnOnce 37 = .ok (.istore_n 2, 1) := by decide +kernel
theorem dX2_turnOnce_38 : decode cX2_turnOnce 38 = .ok (.aload_n 0, 1) := by decide +kernel
theorem dX2_turnOnce_39 : decode cX2_turnOnce 39 = .ok (.getfield 33, 3) := by decide +kernel
theorem dX2_turnOnce_42 : decode cX2_turnOnce 42 = .ok (.iload_n 2, 1) := by decide +kernel
theorem dX2_turnOnce_43 : decode cX2_turnOnce 43 = .ok (.if_icmp .ge 9, 3) := by decide +kernel
theorem dX2_turnOnce_46 : decode cX2_turnOnce 46 = .ok (.aload_n 0, 1) := by decide +kernel
theorem dX2_turnOnce_47 : decode cX2_turnOnce 47 = .ok (.iconst 0, 1) := by decide +kernel
theorem dX2_turnOnce_48 : decode cX2_turnOnce 48 = .ok (.putfield 33, 3) := by decide +kernel
theorem dX2_turnOnce_51 : decode cX2_turnOnce 51 = .ok (.return_, 1) := by decide +kernel
theorem dX2_turnOnce_52 : decode cX2_turnOnce 52 = .ok (.aload_n 0, 1) := by decide +kernel
theorem dX2_turnOnce_53 : decode cX2_turnOnce 53 = .ok (.dup, 1) := by decide +kernel
theorem dX2_turnOnce_54 : decode cX2_turnOnce 54 = .ok (.getfield 33, 3) := by decide +kernel
theorem dX2_turnOnce_57 : decode cX2_turnOnce 57 = .ok (.iload_n 2, 1) := by decide +kernel
theorem dX2_turnOnce_58 : decode cX2_turnOnce 58 = .ok (.isub, 1) := by decide +kernel
theorem dX2_turnOnce_59 : decode cX2_turnOnce 59 = .ok (.putfield 33, 3) := by decide +kernel
theorem dX2_turnOnce_62 : decode cX2_turnOnce 62 = .ok (.aload_n 0, 1) := by decide +kernel
theorem dX2_turnOnce_63 : decode cX2_turnOnce 63 = .ok (.getfield 12, 3) := by decide +kernel
theorem dX2_turnOnce_66 : decode cX2_turnOnce 66 = .ok (.invokevirtual 104, 3) := by decide +kernel
theorem dX2_turnOnce_69 : decode cX2_turnOnce 69 = .ok (.aload_n 0, 1) := by decide +kernel
theorem dX2_turnOnce_70 : decode cX2_turnOnce 70 = .ok (.aload_n 0, 1) := by decide +kernel
theorem dX2_turnOnce_71 : decode cX2_turnOnce 71 = .ok (.iload_n 1, 1) := by decide +kernel
theorem dX2_turnOnce_72 : decode cX2_turnOnce 72 = .ok (.invokevirtual 107, 3) := by decide +kernel
theorem dX2_turnOnce_75 : decode cX2_turnOnce 75 = .ok (.putfield 47, 3) := by decide +kernel
theorem dX2_turnOnce_78 : decode cX2_turnOnce 78 = .ok (.aload_n 0, 1) := by decide +kernel
theorem dX2_turnOnce_79 : decode cX2_turnOnce 79 = .ok (.iload_n 1, 1) := by decide +kernel
theorem dX2_turnOnce_80 : decode cX2_turnOnce 80 = .ok (.putfield 44, 3) := by decide +kernel
theorem dX2_turnOnce_83 : decode cX2_turnOnce 83 = .ok (.aload_n 0, 1) := by decide +kernel
theorem dX2_turnOnce_84 : decode cX2_turnOnce 84 = .ok (.invokevirtual 110, 3) := by decide +kernel
theorem dX2_turnOnce_87 : decode cX2_turnOnce 87 = .ok (.aload_n 0, 1) := by decide +kernel
theorem dX2_turnOnce_88 : decode cX2_turnOnce 88 = .ok (.getfield 47, 3) := by decide +kernel
theorem dX2_turnOnce_91 : decode cX2_turnOnce 91 = .ok (.aload_n 0, 1) := by decide +kernel
theorem dX2_turnOnce_92 : decode cX2_turnOnce 92 = .ok (.iconst 4, 1) := by decide +kernel
theorem dX2_turnOnce_93 : decode cX2_turnOnce 93 = .ok (.invokevirtual 113, 3) := by decide +kernel
theorem dX2_turnOnce_96 : decode cX2_turnOnce 96 = .ok (.if_icmp .le 18, 3) := by decide +kernel
theorem dX2_turnOnce_99 : decode cX2_turnOnce 99 = .ok (.aload_n 0, 1) := by decide +kernel
theorem dX2_turnOnce_100 : decode cX2_turnOnce 100 = .ok (.iconst 1, 1) := by decide +kernel
theorem dX2_turnOnce_101 : decode cX2_turnOnce 101 = .ok (.putfield 40, 3) := by decide +kernel
theorem dX2_turnOnce_104 : decode cX2_turnOnce 104 = .ok (.aload_n 0, 1) := by decide +kernel
theorem dX2_turnOnce_105 : decode cX2_turnOnce 105 = .ok (.dup, 1) := by decide +kernel
theorem dX2_turnOnce_106 : decode cX2_turnOnce 106 = .ok (.getfield 53, 3) := by decide +kernel
theorem dX2_turnOnce_109 : decode cX2_turnOnce 109 = .ok (.iconst 1, 1) := by decide +kernel
theorem dX2_turnOnce_110 : decode cX2_turnOnce 110 = .ok (.iadd, 1) := by decide +kernel
theorem dX2_turnOnce_111 : decode cX2_turnOnce 111 = .ok (.putfield 53, 3) := by decide +kernel
theorem dX2_turnOnce_114 : decode cX2_turnOnce 114 = .ok (.aload_n 0, 1) := by decide +kernel
theorem dX2_turnOnce_115 : decode cX2_turnOnce 115 = .ok (.getfield 12, 3) := by decide +kernel
theorem dX2_turnOnce_118 : decode cX2_turnOnce 118 = .ok (.aload_n 0, 1) := by decide +kernel
theorem dX2_turnOnce_119 : decode cX2_turnOnce 119 = .ok (.iconst 0, 1) := by decide +kernel
theorem dX2_turnOnce_120 : decode cX2_turnOnce 120 = .ok (.invokevirtual 113, 3) := by decide +kernel
theorem dX2_turnOnce_123 : decode cX2_turnOnce 123 = .ok (.aload_n 0, 1) := by decide +kernel
theorem dX2_turnOnce_124 : decode cX2_turnOnce 124 = .ok (.iconst 2, 1) := by decide +kernel
theorem dX2_turnOnce_125 : decode cX2_turnOnce 125 = .ok (.invokevirtual 113, 3) := by decide +kernel
theorem dX2_turnOnce_128 : decode cX2_turnOnce 128 = .ok (.aload_n 0, 1) := by decide +kernel
theorem dX2_turnOnce_129 : decode cX2_turnOnce 129 = .ok (.getfield 50, 3) := by decide +kernel
theorem dX2_turnOnce_132 : decode cX2_turnOnce 132 = .ok (.invokevirtual 116, 3) := by decide +kernel
theorem dX2_turnOnce_135 : decode cX2_turnOnce 135 = .ok (.return_, 1) := by decide +kernel
set_option maxRecDepth 20000 in
theorem ggX2_tensionAt_X2_number : GoodIn wsX2_tensionAt wsX2_number := goodIn_r _ [12, 13, 19, 20, 21, 22, 23, 24, 25, 26, 27, 28, 29] (by decide +kernel) (by decide +kernel)
set_option maxRecDepth 20000 in
theorem gX2_tensionAt_X2_number : GoodIn wsX2_tensionAt (wsV RX2 113 RX2 yX2_number wsX2_number) := goodIn_app (goodIn_of _ (by decide +kernel)) ggX2_tensionAt_X2_number
set_option maxRecDepth 20000 in
theorem ggX2_tensionAt_X3_heightAt : GoodIn wsX2_tensionAt wsX3_heightAt := goodIn_r _ [17, 18, 30, 31, 32, 33] (by decide +kernel) (by decide +kernel)
set_option maxRecDepth 20000 in
theorem gX2_tensionAt_X3_heightAt_n101 : GoodIn wsX2_tensionAt (wsX3_heightAt) := ggX2_tensionAt_X3_heightAt
theorem dX2_tensionAt_0 : decode cX2_tensionAt 0 = .ok (.iconst 4, 1) := by decide +kernel
theorem dX2_tensionAt_1 : decode cX2_tensionAt 1 = .ok (.aload_n 0, 1) := by decide +kernel
theorem dX2_tensionAt_2 : decode cX2_tensionAt 2 = .ok (.iconst 1, 1) := by decide +kernel
theorem dX2_tensionAt_3 : decode cX2_tensionAt 3 = .ok (.invokevirtual 113, 3) := by decide +kernel
theorem dX2_tensionAt_6 : decode cX2_tensionAt 6 = .ok (.imul, 1) := by decide +kernel
theorem dX2_tensionAt_7 : decode cX2_tensionAt 7 = .ok (.aload_n 0, 1) := by decide +kernel
theorem dX2_tensionAt_8 : decode cX2_tensionAt 8 = .ok (.getfield 37, 3) := by decide +kernel
theorem dX2_tensionAt_11 : decode cX2_tensionAt 11 = .ok (.bipush 10, 2) := by decide +kernel
theorem dX2_tensionAt_13 : decode cX2_tensionAt 13 = .ok (.idiv, 1) := by decide +kernel
theorem dX2_tensionAt_14 : decode cX2_tensionAt 14 = .ok (.iadd, 1) := by decide +kernel
theorem dX2_tensionAt_15 : decode cX2_tensionAt 15 = .ok (.istore_n 2, 1) := by decide +kernel
theorem dX2_tensionAt_16 : decode cX2_tensionAt 16 = .ok (.aload_n 0, 1) := by decide +kernel
theorem dX2_tensionAt_17 : decode cX2_tensionAt 17 = .ok (.getfield 44, 3) := by decide +kernel
theorem dX2_tensionAt_20 : decode cX2_tensionAt 20 = .ok (.iconst (-1), 1) := by decide +kernel
theorem dX2_tensionAt_21 : decode cX2_tensionAt 21 = .ok (.if_icmp .ne 5, 3) := by decide +kernel
theorem dX2_tensionAt_24 : decode cX2_tensionAt 24 = .ok (.iload_n 2, 1) := by decide +kernel
theorem dX2_tensionAt_25 : decode cX2_tensionAt 25 = .ok (.ireturn, 1) := by decide +kernel
theorem dX2_tensionAt_26 : decode cX2_tensionAt 26 = .ok (.aload_n 0, 1) := by decide +kernel
theorem dX2_tensionAt_27 : decode cX2_tensionAt 27 = .ok (.getfield 12, 3) := by decide +kernel
theorem dX2_tensionAt_30 : decode cX2_tensionAt 30 = .ok (.iload_n 1, 1) := by decide +kernel
theorem dX2_tensionAt_31 : decode cX2_tensionAt 31 = .ok (.invokevirtual 101, 3) := by decide +kernel
theorem dX2_tensionAt_34 : decode cX2_tensionAt 34 = .ok (.aload_n 0, 1) := by decide +kernel
theorem dX2_tensionAt_35 : decode cX2_tensionAt 35 = .ok (.getfield 12, 3) := by decide +kernel
theorem dX2_tensionAt_38 : decode cX2_tensionAt 38 = .ok (.aload_n 0, 1) := by decide +kernel
theorem dX2_tensionAt_39 : decode cX2_tensionAt 39 = .ok (.getfield 44, 3) := by decide +kernel
theorem dX2_tensionAt_42 : decode cX2_tensionAt 42 = .ok (.invokevirtual 101, 3) := by decide +kernel
theorem dX2_tensionAt_45 : decode cX2_tensionAt 45 = .ok (.isub, 1) := by decide +kernel
theorem dX2_tensionAt_46 : decode cX2_tensionAt 46 = .ok (.invokestatic 120, 3) := by decide +kernel
theorem dX2_tensionAt_49 : decode cX2_tensionAt 49 = .ok (.istore_n 3, 1) := by decide +kernel
theorem dX2_tensionAt_50 : decode cX2_tensionAt 50 = .ok (.iload_n 2, 1) := by decide +kernel
theorem dX2_tensionAt_51 : decode cX2_tensionAt 51 = .ok (.iconst 2, 1) := by decide +kernel
theorem dX2_tensionAt_52 : decode cX2_tensionAt 52 = .ok (.iload_n 3, 1) := by decide +kernel
theorem dX2_tensionAt_53 : decode cX2_tensionAt 53 = .ok (.imul, 1) := by decide +kernel
theorem dX2_tensionAt_54 : decode cX2_tensionAt 54 = .ok (.iadd, 1) := by decide +kernel
theorem dX2_tensionAt_55 : decode cX2_tensionAt 55 = .ok (.ireturn, 1) := by decide +kernel
set_option maxRecDepth 20000 in
theorem ggX2_warmDiscs_X2_number : GoodIn wsX2_warmDiscs wsX2_number := goodIn_r _ [13, 14, 15, 16, 17, 18, 19, 20, 21, 22, 23, 24, 25] (by decide +kernel) (by decide +kernel)
set_option maxRecDepth 20000 in
theorem gX2_warmDiscs_X2_number : GoodIn wsX2_warmDiscs (wsV RX2 113 RX2 yX2_number wsX2_number) := goodIn_app (goodIn_of _ (by decide +kernel)) ggX2_warmDiscs_X2_number
theorem dX2_warmDiscs_0 : decode cX2_warmDiscs 0 = .ok (.aload_n 0, 1) := by decide +kernel
theorem dX2_warmDiscs_1 : decode cX2_warmDiscs 1 = .ok (.iconst 0, 1) := by decide +kernel
theorem dX2_warmDiscs_2 : decode cX2_warmDiscs 2 = .ok (.sipush 300, 3) := by decide +kernel
theorem dX2_warmDiscs_5 : decode cX2_warmDiscs 5 = .ok (.aload_n 0, 1) := by decide +kernel
theorem dX2_warmDiscs_6 : decode cX2_warmDiscs 6 = .ok (.getfield 37, 3) := by decide +kernel
theorem dX2_warmDiscs_9 : decode cX2_warmDiscs 9 = .ok (.aload_n 0, 1) := by decide +kernel
theorem dX2_warmDiscs_10 : decode cX2_warmDiscs 10 = .ok (.iconst 1, 1) := by decide +kernel
theorem dX2_warmDiscs_11 : decode cX2_warmDiscs 11 = .ok (.invokevirtual 113, 3) := by decide +kernel
theorem dX2_warmDiscs_14 : decode cX2_warmDiscs 14 = .ok (.iadd, 1) := by decide +kernel
theorem dX2_warmDiscs_15 : decode cX2_warmDiscs 15 = .ok (.iconst 1, 1) := by decide +kernel
theorem dX2_warmDiscs_16 : decode cX2_warmDiscs 16 = .ok (.isub, 1) := by decide +kernel
theorem dX2_warmDiscs_17 : decode cX2_warmDiscs 17 = .ok (.invokestatic 125, 3) := by decide +kernel
theorem dX2_warmDiscs_20 : decode cX2_warmDiscs 20 = .ok (.invokestatic 128, 3) := by decide +kernel
theorem dX2_warmDiscs_23 : decode cX2_warmDiscs 23 = .ok (.putfield 37, 3) := by decide +kernel
theorem dX2_warmDiscs_26 : decode cX2_warmDiscs 26 = .ok (.return_, 1) := by decide +kernel
set_option maxRecDepth 20000 in
theorem ggX2_tieKnot_X2_number : GoodIn wsX2_tieKnot wsX2_number := goodIn_r _ [9, 10, 11, 12, 13, 14, 15, 16, 17, 18, 19, 20, 21] (by decide +kernel) (by decide +kernel)
set_option maxRecDepth 20000 in
theorem gX2_tieKnot_X2_number : GoodIn wsX2_tieKnot (wsV RX2 113 RX2 yX2_number wsX2_number) := goodIn_app (goodIn_of _ (by decide +kernel)) ggX2_tieKnot_X2_number
theorem dX2_tieKnot_0 : decode cX2_tieKnot 0 = .ok (.aload_n 0, 1) := by decide +kernel
theorem dX2_tieKnot_1 : decode cX2_tieKnot 1 = .ok (.iconst 3, 1) := by decide +kernel
theorem dX2_tieKnot_2 : decode cX2_tieKnot 2 = .ok (.invokevirtual 113, 3) := by decide +kernel
theorem dX2_tieKnot_5 : decode cX2_tieKnot 5 = .ok (.istore_n 1, 1) := by decide +kernel
theorem dX2_tieKnot_6 : decode cX2_tieKnot 6 = .ok (.aload_n 0, 1) := by decide +kernel
theorem dX2_tieKnot_7 : decode cX2_tieKnot 7 = .ok (.getfield 33, 3) := by decide +kernel
theorem dX2_tieKnot_10 : decode cX2_tieKnot 10 = .ok (.iload_n 1, 1) := by decide +kernel
theorem dX2_tieKnot_11 : decode cX2_tieKnot 11 = .ok (.if_icmp .ge 6, 3) := by decide +kernel
theorem dX2_tieKnot_14 : decode cX2_tieKnot 14 = .ok (.bipush (-4), 2) := by decide +kernel
theorem dX2_tieKnot_16 : decode cX2_tieKnot 16 = .ok (.ireturn, 1) := by decide +kernel
theorem dX2_tieKnot_17 : decode cX2_tieKnot 17 = .ok (.aload_n 0, 1) := by decide +kernel
theorem dX2_tieKnot_18 : decode cX2_tieKnot 18 = .ok (.getfield 40, 3) := by decide +kernel
theorem dX2_tieKnot_21 : decode cX2_tieKnot 21 = .ok (.ifCond .eq 22, 3) := by decide +kernel
theorem dX2_tieKnot_24 : decode cX2_tieKnot 24 = .ok (.aload_n 0, 1) := by decide +kernel
theorem dX2_tieKnot_25 : decode cX2_tieKnot 25 = .ok (.getfield 44, 3) := by decide +kernel
theorem dX2_tieKnot_28 : decode cX2_tieKnot 28 = .ok (.ifCond .lt 15, 3) := by decide +kernel
theorem dX2_tieKnot_31 : decode cX2_tieKnot 31 = .ok (.aload_n 0, 1) := by decide +kernel
theorem dX2_tieKnot_32 : decode cX2_tieKnot 32 = .ok (.getfield 44, 3) := by decide +kernel
theorem dX2_tieKnot_35 : decode cX2_tieKnot 35 = .ok (.aload_n 0, 1) := by decide +kernel
theorem dX2_tieKnot_36 : decode cX2_tieKnot 36 = .ok (.getfield 18, 3) := by decide +kernel
theorem dX2_tieKnot_39 : decode cX2_tieKnot 39 = .ok (.arraylength, 1) := by decide +kernel
theorem dX2_tieKnot_40 : decode cX2_tieKnot 40 = .ok (.if_icmp .lt 6, 3) := by decide +kernel
theorem dX2_tieKnot_43 : decode cX2_tieKnot 43 = .ok (.bipush (-5), 2) := by decide +kernel
theorem dX2_tieKnot_45 : decode cX2_tieKnot 45 = .ok (.ireturn, 1) := by decide +kernel
theorem dX2_tieKnot_46 : decode cX2_tieKnot 46 = .ok (.aload_n 0, 1) := by decide +kernel
theorem dX2_tieKnot_47 : decode cX2_tieKnot 47 = .ok (.dup, 1) := by decide +kernel
theorem dX2_tieKnot_48 : decode cX2_tieKnot 48 = .ok (.getfield 33, 3) := by decide +kernel
theorem dX2_tieKnot_51 : decode cX2_tieKnot 51 = .ok (.iload_n 1, 1) := by decide +kernel
theorem dX2_tieKnot_52 : decode cX2_tieKnot 52 = .ok (.isub, 1) := by decide +kernel
theorem dX2_tieKnot_53 : decode cX2_tieKnot 53 = .ok (.putfield 33, 3) := by decide +kernel
theorem dX2_tieKnot_56 : decode cX2_tieKnot 56 = .ok (.aload_n 0, 1) := by decide +kernel
theorem dX2_tieKnot_57 : decode cX2_tieKnot 57 = .ok (.iconst 0, 1) := by decide +kernel
theorem dX2_tieKnot_58 : decode cX2_tieKnot 58 = .ok (.putfield 40, 3) := by decide +kernel
theorem dX2_tieKnot_61 : decode cX2_tieKnot 61 = .ok (.aload_n 0, 1) := by decide +kernel
theorem dX2_tieKnot_62 : decode cX2_tieKnot 62 = .ok (.getfield 18, 3) := by decide +kernel
theorem dX2_tieKnot_65 : decode cX2_tieKnot 65 = .ok (.aload_n 0, 1) := by decide +kernel
theorem dX2_tieKnot_66 : decode cX2_tieKnot 66 = .ok (.getfield 44, 3) := by decide +kernel
theorem dX2_tieKnot_69 : decode cX2_tieKnot 69 = .ok (.dup2, 1) := by decide +kernel
theorem dX2_tieKnot_70 : decode cX2_tieKnot 70 = .ok (.iaload, 1) := by decide +kernel
theorem dX2_tieKnot_71 : decode cX2_tieKnot 71 = .ok (.iconst 1, 1) := by decide +kernel
theorem dX2_tieKnot_72 : decode cX2_tieKnot 72 = .ok (.iadd, 1) := by decide +kernel
theorem dX2_tieKnot_73 : decode cX2_tieKnot 73 = .ok (.iastore, 1) := by decide +kernel
theorem dX2_tieKnot_74 : decode cX2_tieKnot 74 = .ok (.aload_n 0, 1) := by decide +kernel
theorem dX2_tieKnot_75 : decode cX2_tieKnot 75 = .ok (.getfield 18, 3) := by decide +kernel
theorem dX2_tieKnot_78 : decode cX2_tieKnot 78 = .ok (.aload_n 0, 1) := by decide +kernel
theorem dX2_tieKnot_79 : decode cX2_tieKnot 79 = .ok (.getfield 44, 3) := by decide +kernel
theorem dX2_tieKnot_82 : decode cX2_tieKnot 82 = .ok (.iaload, 1) := by decide +kernel
theorem dX2_tieKnot_83 : decode cX2_tieKnot 83 = .ok (.ireturn, 1) := by decide +kernel
set_option maxRecDepth 20000 in
theorem ggX2_changeCone_X4_inRange : GoodIn wsX2_changeCone wsX4_inRange := goodIn_r _ [6, 7, 8, 5, 9, 10, 11, 12, 13, 14] (by decide +kernel) (by decide +kernel)
set_option maxRecDepth 20000 in
theorem gX2_changeCone_X4_inRange_n84 : GoodIn wsX2_changeCone (wsX4_inRange) := ggX2_changeCone_X4_inRange
theorem dX2_changeCone_0 : decode cX2_changeCone 0 = .ok (.bipush 6, 2) := by decide +kernel
theorem dX2_changeCone_2 : decode cX2_changeCone 2 = .ok (.iload_n 1, 1) := by decide +kernel
theorem dX2_changeCone_3 : decode cX2_changeCone 3 = .ok (.invokestatic 84, 3) := by decide +kernel
theorem dX2_changeCone_6 : decode cX2_changeCone 6 = .ok (.ifCond .ne 6, 3) := by decide +kernel
theorem dX2_changeCone_9 : decode cX2_changeCone 9 = .ok (.bipush (-2), 2) := by decide +kernel
theorem dX2_changeCone_11 : decode cX2_changeCone 11 = .ok (.ireturn, 1) := by decide +kernel
theorem dX2_changeCone_12 : decode cX2_changeCone 12 = .ok (.aload_n 0, 1) := by decide +kernel
theorem dX2_changeCone_13 : decode cX2_changeCone 13 = .ok (.getfield 33, 3) := by decide +kernel
theorem dX2_changeCone_16 : decode cX2_changeCone 16 = .ok (.istore_n 2, 1) := by decide +kernel
theorem dX2_changeCone_17 : decode cX2_changeCone 17 = .ok (.aload_n 0, 1) := by decide +kernel
theorem dX2_changeCone_18 : decode cX2_changeCone 18 = .ok (.iload_n 1, 1) := by decide +kernel
theorem dX2_changeCone_19 : decode cX2_changeCone 19 = .ok (.putfield 33, 3) := by decide +kernel
theorem dX2_changeCone_22 : decode cX2_changeCone 22 = .ok (.aload_n 0, 1) := by decide +kernel
theorem dX2_changeCone_23 : decode cX2_changeCone 23 = .ok (.aload_n 0, 1) := by decide +kernel
theorem dX2_changeCone_24 : decode cX2_changeCone 24 = .ok (.getfield 12, 3) := by decide +kernel
theorem dX2_changeCone_27 : decode cX2_changeCone 27 = .ok (.getfield 92, 3) := by decide +kernel
theorem dX2_changeCone_30 : decode cX2_changeCone 30 = .ok (.ifCond .le 7, 3) := by decide +kernel
theorem dX2_changeCone_33 : decode cX2_changeCone 33 = .ok (.iconst 1, 1) := by decide +kernel
theorem dX2_changeCone_34 : decode cX2_changeCone 34 = .ok (.goto 4, 3) := by decide +kernel
theorem dX2_changeCone_37 : decode cX2_changeCone 37 = .ok (.iconst 0, 1) := by decide +kernel
theorem dX2_changeCone_38 : decode cX2_changeCone 38 = .ok (.putfield 40, 3) := by decide +kernel
theorem dX2_changeCone_41 : decode cX2_changeCone 41 = .ok (.iload_n 2, 1) := by decide +kernel
theorem dX2_changeCone_42 : decode cX2_changeCone 42 = .ok (.ireturn, 1) := by decide +kernel
set_option maxRecDepth 20000 in
theorem ggX2_takePackageOff_X3_clear : GoodIn wsX2_takePackageOff wsX3_clear := goodIn_r _ [10, 11, 12, 13, 14, 15, 16, 17, 18, 31, 32, 33, 34] (by decide +kernel) (by decide +kernel)
set_option maxRecDepth 20000 in
theorem gX2_takePackageOff_X3_clear_n131 : GoodIn wsX2_takePackageOff (wsX3_clear) := ggX2_takePackageOff_X3_clear
set_option maxRecDepth 20000 in
theorem ggX2_takePackageOff_J7_fill_53178 : GoodIn wsX2_takePackageOff wsJ7_fill_53178 := goodIn_r _ [18] (by decide +kernel) (by decide +kernel)
set_option maxRecDepth 20000 in
theorem gX2_takePackageOff_J7_fill_53178 : GoodIn wsX2_takePackageOff (va_wsS RX2 134 yJ7_fill_53178 wsJ7_fill_53178) := goodIn_app (goodIn_of _ (by decide +kernel)) ggX2_takePackageOff_J7_fill_53178
theorem dX2_takePackageOff_0 : decode cX2_takePackageOff 0 = .ok (.aload_n 0, 1) := by decide +kernel
theorem dX2_takePackageOff_1 : decode cX2_takePackageOff 1 = .ok (.getfield 12, 3) := by decide +kernel
theorem dX2_takePackageOff_4 : decode cX2_takePackageOff 4 = .ok (.getfield 92, 3) := by decide +kernel
theorem dX2_takePackageOff_7 : decode cX2_takePackageOff 7 = .ok (.istore_n 1, 1) := by decide +kernel
theorem dX2_takePackageOff_8 : decode cX2_takePackageOff 8 = .ok (.iload_n 1, 1) := by decide +kernel
theorem dX2_takePackageOff_9 : decode cX2_takePackageOff 9 = .ok (.ifCond .ne 6, 3) := by decide +kernel
theorem dX2_takePackageOff_12 : decode cX2_takePackageOff 12 = .ok (.bipush (-5), 2) := by decide +kernel
theorem dX2_takePackageOff_14 : decode cX2_takePackageOff 14 = .ok (.ireturn, 1) := by decide +kernel
theorem dX2_takePackageOff_15 : decode cX2_takePackageOff 15 = .ok (.aload_n 0, 1) := by decide +kernel
theorem dX2_takePackageOff_16 : decode cX2_takePackageOff 16 = .ok (.getfield 12, 3) := by decide +kernel
theorem dX2_takePackageOff_19 : decode cX2_takePackageOff 19 = .ok (.invokevirtual 131, 3) := by decide +kernel
theorem dX2_takePackageOff_22 : decode cX2_takePackageOff 22 = .ok (.aload_n 0, 1) := by decide +kernel
theorem dX2_takePackageOff_23 : decode cX2_takePackageOff 23 = .ok (.getfield 18, 3) := by decide +kernel
theorem dX2_takePackageOff_26 : decode cX2_takePackageOff 26 = .ok (.iconst 0, 1) := by decide +kernel
theorem dX2_takePackageOff_27 : decode cX2_takePackageOff 27 = .ok (.invokestatic 134, 3) := by decide +kernel
theorem dX2_takePackageOff_30 : decode cX2_takePackageOff 30 = .ok (.aload_n 0, 1) := by decide +kernel
theorem dX2_takePackageOff_31 : decode cX2_takePackageOff 31 = .ok (.iconst 0, 1) := by decide +kernel
theorem dX2_takePackageOff_32 : decode cX2_takePackageOff 32 = .ok (.putfield 40, 3) := by decide +kernel
theorem dX2_takePackageOff_35 : decode cX2_takePackageOff 35 = .ok (.aload_n 0, 1) := by decide +kernel
theorem dX2_takePackageOff_36 : decode cX2_takePackageOff 36 = .ok (.iconst (-1), 1) := by decide +kernel
theorem dX2_takePackageOff_37 : decode cX2_takePackageOff 37 = .ok (.putfield 44, 3) := by decide +kernel
theorem dX2_takePackageOff_40 : decode cX2_takePackageOff 40 = .ok (.aload_n 0, 1) := by decide +kernel
theorem dX2_takePackageOff_41 : decode cX2_takePackageOff 41 = .ok (.iconst 0, 1) := by decide +kernel
theorem dX2_takePackageOff_42 : decode cX2_takePackageOff 42 = .ok (.putfield 47, 3) := by decide +kernel
theorem dX2_takePackageOff_45 : decode cX2_takePackageOff 45 = .ok (.aload_n 0, 1) := by decide +kernel
theorem dX2_takePackageOff_46 : decode cX2_takePackageOff 46 = .ok (.dup, 1) := by decide +kernel
theorem dX2_takePackageOff_47 : decode cX2_takePackageOff 47 = .ok (.getfield 56, 3) := by decide +kernel
theorem dX2_takePackageOff_50 : decode cX2_takePackageOff 50 = .ok (.iconst 1, 1) := by decide +kernel
theorem dX2_takePackageOff_51 : decode cX2_takePackageOff 51 = .ok (.iadd, 1) := by decide +kernel
theorem dX2_takePackageOff_52 : decode cX2_takePackageOff 52 = .ok (.putfield 56, 3) := by decide +kernel
theorem dX2_takePackageOff_55 : decode cX2_takePackageOff 55 = .ok (.iload_n 1, 1) := by decide +kernel
theorem dX2_takePackageOff_56 : decode cX2_takePackageOff 56 = .ok (.ireturn, 1) := by decide +kernel
set_option maxRecDepth 20000 in
theorem ggX2_isIdle_X2_isConeEmpty : GoodIn wsX2_isIdle wsX2_isConeEmpty := goodIn_r _ [7, 8, 14, 15, 16, 17, 18, 19, 20, 21, 22, 23, 24] (by decide +kernel) (by decide +kernel)
set_option maxRecDepth 20000 in
theorem gX2_isIdle_X2_isConeEmpty : GoodIn wsX2_isIdle (wsV RX2 140 RX2 yX2_isConeEmpty wsX2_isConeEmpty) := goodIn_app (goodIn_of _ (by decide +kernel)) ggX2_isIdle_X2_isConeEmpty
set_option maxRecDepth 20000 in
theorem ggX2_isIdle_X3_isFull : GoodIn wsX2_isIdle wsX3_isFull := goodIn_r _ [12, 13, 25, 26, 27, 28] (by decide +kernel) (by decide +kernel)
set_option maxRecDepth 20000 in
theorem gX2_isIdle_X3_isFull_n143 : GoodIn wsX2_isIdle (wsX3_isFull) := ggX2_isIdle_X3_isFull
theorem dX2_isIdle_0 : decode cX2_isIdle 0 = .ok (.aload_n 0, 1) := by decide +kernel
theorem dX2_isIdle_1 : decode cX2_isIdle 1 = .ok (.getfield 40, 3) := by decide +kernel
theorem dX2_isIdle_4 : decode cX2_isIdle 4 = .ok (.ifCond .ne 20, 3) := by decide +kernel
theorem dX2_isIdle_7 : decode cX2_isIdle 7 = .ok (.aload_n 0, 1) := by decide +kernel
theorem dX2_isIdle_8 : decode cX2_isIdle 8 = .ok (.invokevirtual 140, 3) := by decide +kernel
theorem dX2_isIdle_11 : decode cX2_isIdle 11 = .ok (.ifCond .ne 13, 3) := by decide +kernel
theorem dX2_isIdle_14 : decode cX2_isIdle 14 = .ok (.aload_n 0, 1) := by decide +kernel
theorem dX2_isIdle_15 : decode cX2_isIdle 15 = .ok (.getfield 12, 3) := by decide +kernel
theorem dX2_isIdle_18 : decode cX2_isIdle 18 = .ok (.invokevirtual 143, 3) := by decide +kernel
theorem dX2_isIdle_21 : decode cX2_isIdle 21 = .ok (.ifCond .eq 7, 3) := by decide +kernel
theorem dX2_isIdle_24 : decode cX2_isIdle 24 = .ok (.iconst 1, 1) := by decide +kernel
theorem dX2_isIdle_25 : decode cX2_isIdle 25 = .ok (.goto 4, 3) := by decide +kernel
theorem dX2_isIdle_28 : decode cX2_isIdle 28 = .ok (.iconst 0, 1) := by decide +kernel
theorem dX2_isIdle_29 : decode cX2_isIdle 29 = .ok (.ireturn, 1) := by decide +kernel
theorem dX2_isConeEmpty_0 : decode cX2_isConeEmpty 0 = .ok (.aload_n 0, 1) := by decide +kernel
theorem dX2_isConeEmpty_1 : decode cX2_isConeEmpty 1 = .ok (.getfield 33, 3) := by decide +kernel
theorem dX2_isConeEmpty_4 : decode cX2_isConeEmpty 4 = .ok (.ifCond .ne 7, 3) := by decide +kernel
theorem dX2_isConeEmpty_7 : decode cX2_isConeEmpty 7 = .ok (.iconst 1, 1) := by decide +kernel
theorem dX2_isConeEmpty_8 : decode cX2_isConeEmpty 8 = .ok (.goto 4, 3) := by decide +kernel
theorem dX2_isConeEmpty_11 : decode cX2_isConeEmpty 11 = .ok (.iconst 0, 1) := by decide +kernel
theorem dX2_isConeEmpty_12 : decode cX2_isConeEmpty 12 = .ok (.ireturn, 1) := by decide +kernel
theorem dX2_number_0 : decode cX2_number 0 = .ok (.iload_n 1, 1) := by decide +kernel
theorem dX2_number_1 : decode cX2_number 1 = .ok (.ifCond .lt 21, 3) := by decide +kernel
theorem dX2_number_4 : decode cX2_number 4 = .ok (.iload_n 1, 1) := by decide +kernel
theorem dX2_number_5 : decode cX2_number 5 = .ok (.aload_n 0, 1) := by decide +kernel
theorem dX2_number_6 : decode cX2_number 6 = .ok (.getfield 30, 3) := by decide +kernel
theorem dX2_number_9 : decode cX2_number 9 = .ok (.arraylength, 1) := by decide +kernel
theorem dX2_number_10 : decode cX2_number 10 = .ok (.if_icmp .ge 12, 3) := by decide +kernel
theorem dX2_number_13 : decode cX2_number 13 = .ok (.aload_n 0, 1) := by decide +kernel
theorem dX2_number_14 : decode cX2_number 14 = .ok (.getfield 30, 3) := by decide +kernel
theorem dX2_number_17 : decode cX2_number 17 = .ok (.iload_n 1, 1) := by decide +kernel
theorem dX2_number_18 : decode cX2_number 18 = .ok (.iaload, 1) := by decide +kernel
theorem dX2_number_19 : decode cX2_number 19 = .ok (.goto 4, 3) := by decide +kernel
theorem dX2_number_22 : decode cX2_number 22 = .ok (.iconst 0, 1) := by decide +kernel
theorem dX2_number_23 : decode cX2_number 23 = .ok (.ireturn, 1) := by decide +kernel
theorem dX2_knotsAt_0 : decode cX2_knotsAt 0 = .ok (.iload_n 1, 1) := by decide +kernel
theorem dX2_knotsAt_1 : decode cX2_knotsAt 1 = .ok (.ifCond .lt 21, 3) := by decide +kernel
theorem dX2_knotsAt_4 : decode cX2_knotsAt 4 = .ok (.iload_n 1, 1) := by decide +kernel
theorem dX2_knotsAt_5 : decode cX2_knotsAt 5 = .ok (.aload_n 0, 1) := by decide +kernel
theorem dX2_knotsAt_6 : decode cX2_knotsAt 6 = .ok (.getfield 18, 3) := by decide +kernel
theorem dX2_knotsAt_9 : decode cX2_knotsAt 9 = .ok (.arraylength, 1) := by decide +kernel
theorem dX2_knotsAt_10 : decode cX2_knotsAt 10 = .ok (.if_icmp .ge 12, 3) := by decide +kernel
theorem dX2_knotsAt_13 : decode cX2_knotsAt 13 = .ok (.aload_n 0, 1) := by decide +kernel
theorem dX2_knotsAt_14 : decode cX2_knotsAt 14 = .ok (.getfield 18, 3) := by decide +kernel
theorem dX2_knotsAt_17 : decode cX2_knotsAt 17 = .ok (.iload_n 1, 1) := by decide +kernel
theorem dX2_knotsAt_18 : decode cX2_knotsAt 18 = .ok (.iaload, 1) := by decide +kernel
theorem dX2_knotsAt_19 : decode cX2_knotsAt 19 = .ok (.goto 4, 3) := by decide +kernel
theorem dX2_knotsAt_22 : decode cX2_knotsAt 22 = .ok (.iconst 0, 1) := by decide +kernel
theorem dX2_knotsAt_23 : decode cX2_knotsAt 23 = .ok (.ireturn, 1) := by decide +kernel
set_option maxRecDepth 20000 in
theorem ggX2_isBad_X2_knotsAt : GoodIn wsX2_isBad wsX2_knotsAt := goodIn_r _ [5, 6, 7, 8, 9, 10, 11, 12, 13, 14, 15, 16, 17] (by decide +kernel) (by decide +kernel)
set_option maxRecDepth 20000 in
theorem gX2_isBad_X2_knotsAt : GoodIn wsX2_isBad (wsV RX2 146 RX2 yX2_knotsAt wsX2_knotsAt) := goodIn_app (goodIn_of _ (by decide +kernel)) ggX2_isBad_X2_knotsAt
theorem dX2_isBad_0 : decode cX2_isBad 0 = .ok (.aload_n 0, 1) := by decide +kernel
theorem dX2_isBad_1 : decode cX2_isBad 1 = .ok (.iload_n 1, 1) := by decide +kernel
theorem dX2_isBad_2 : decode cX2_isBad 2 = .ok (.invokevirtual 146, 3) := by decide +kernel
theorem dX2_isBad_5 : decode cX2_isBad 5 = .ok (.iconst 2, 1) := by decide +kernel
theorem dX2_isBad_6 : decode cX2_isBad 6 = .ok (.if_icmp .le 7, 3) := by decide +kernel
theorem dX2_isBad_9 : decode cX2_isBad 9 = .ok (.iconst 1, 1) := by decide +kernel
theorem dX2_isBad_10 : decode cX2_isBad 10 = .ok (.goto 4, 3) := by decide +kernel
theorem dX2_isBad_13 : decode cX2_isBad 13 = .ok (.iconst 0, 1) := by decide +kernel
theorem dX2_isBad_14 : decode cX2_isBad 14 = .ok (.ireturn, 1) := by decide +kernel
set_option maxRecDepth 20000 in
theorem ggX2_hasBadPlace_X2_isBad : GoodIn wsX2_hasBadPlace wsX2_isBad := goodIn_r _ [5, 6, 7, 8, 4, 9, 10, 11, 12, 13, 14, 15, 16, 17, 18, 19, 20, 21] (by decide +kernel) (by decide +kernel)
set_option maxRecDepth 20000 in
theorem gX2_hasBadPlace_X2_isBad : GoodIn wsX2_hasBadPlace (wsV RX2 149 RX2 yX2_isBad wsX2_isBad) := goodIn_app (goodIn_of _ (by decide +kernel)) ggX2_hasBadPlace_X2_isBad
theorem dX2_hasBadPlace_0 : decode cX2_hasBadPlace 0 = .ok (.iconst 0, 1) := by decide +kernel
theorem dX2_hasBadPlace_1 : decode cX2_hasBadPlace 1 = .ok (.istore_n 1, 1) := by decide +kernel
theorem dX2_hasBadPlace_2 : decode cX2_hasBadPlace 2 = .ok (.iconst 0, 1) := by decide +kernel
theorem dX2_hasBadPlace_3 : decode cX2_hasBadPlace 3 = .ok (.istore_n 2, 1) := by decide +kernel
theorem dX2_hasBadPlace_4 : decode cX2_hasBadPlace 4 = .ok (.iload_n 2, 1) := by decide +kernel
theorem dX2_hasBadPlace_5 : decode cX2_hasBadPlace 5 = .ok (.bipush 12, 2) := by decide +kernel
theorem dX2_hasBadPlace_7 : decode cX2_hasBadPlace 7 = .ok (.if_icmp .ge 27, 3) := by decide +kernel
theorem dX2_hasBadPlace_10 : decode cX2_hasBadPlace 10 = .ok (.iload_n 1, 1) := by decide +kernel
theorem dX2_hasBadPlace_11 : decode cX2_hasBadPlace 11 = .ok (.ifCond .ne 11, 3) := by decide +kernel
theorem dX2_hasBadPlace_14 : decode cX2_hasBadPlace 14 = .ok (.aload_n 0, 1) := by decide +kernel
theorem dX2_hasBadPlace_15 : decode cX2_hasBadPlace 15 = .ok (.iload_n 2, 1) := by decide +kernel
theorem dX2_hasBadPlace_16 : decode cX2_hasBadPlace 16 = .ok (.invokevirtual 149, 3) := by decide +kernel
theorem dX2_hasBadPlace_19 : decode cX2_hasBadPlace 19 = .ok (.ifCond .eq 7, 3) := by decide +kernel
theorem dX2_hasBadPlace_22 : decode cX2_hasBadPlace 22 = .ok (.iconst 1, 1) := by decide +kernel
theorem dX2_hasBadPlace_23 : decode cX2_hasBadPlace 23 = .ok (.goto 4, 3) := by decide +kernel
theorem dX2_hasBadPlace_26 : decode cX2_hasBadPlace 26 = .ok (.iconst 0, 1) := by decide +kernel
theorem dX2_hasBadPlace_27 : decode cX2_hasBadPlace 27 = .ok (.istore_n 1, 1) := by decide +kernel
theorem dX2_hasBadPlace_28 : decode cX2_hasBadPlace 28 = .ok (.iinc 2 1, 3) := by decide +kernel
theorem dX2_hasBadPlace_31 : decode cX2_hasBadPlace 31 = .ok (.goto (-27), 3) := by decide +kernel
theorem dX2_hasBadPlace_34 : decode cX2_hasBadPlace 34 = .ok (.iload_n 1, 1) := by decide +kernel
theorem dX2_hasBadPlace_35 : decode cX2_hasBadPlace 35 = .ok (.ireturn, 1) := by decide +kernel
theorem dX2_allKnots_0 : decode cX2_allKnots 0 = .ok (.iconst 0, 1) := by decide +kernel
theorem dX2_allKnots_1 : decode cX2_allKnots 1 = .ok (.istore_n 1, 1) := by decide +kernel
theorem dX2_allKnots_2 : decode cX2_allKnots 2 = .ok (.aload_n 0, 1) := by decide +kernel
theorem dX2_allKnots_3 : decode cX2_allKnots 3 = .ok (.getfield 18, 3) := by decide +kernel
theorem dX2_allKnots_6 : decode cX2_allKnots 6 = .ok (.astore_n 2, 1) := by decide +kernel
theorem dX2_allKnots_7 : decode cX2_allKnots 7 = .ok (.aload_n 2, 1) := by decide +kernel
theorem dX2_allKnots_8 : decode cX2_allKnots 8 = .ok (.arraylength, 1) := by decide +kernel
theorem dX2_allKnots_9 : decode cX2_allKnots 9 = .ok (.istore_n 3, 1) := by decide +kernel
theorem dX2_allKnots_10 : decode cX2_allKnots 10 = .ok (.iconst 0, 1) := by decide +kernel
theorem dX2_allKnots_11 : decode cX2_allKnots 11 = .ok (.istore 4, 2) := by decide +kernel
theorem dX2_allKnots_13 : decode cX2_allKnots 13 = .ok (.iload 4, 2) := by decide +kernel
theorem dX2_allKnots_15 : decode cX2_allKnots 15 = .ok (.iload_n 3, 1) := by decide +kernel
theorem dX2_allKnots_16 : decode cX2_allKnots 16 = .ok (.if_icmp .ge 20, 3) := by decide +kernel
theorem dX2_allKnots_19 : decode cX2_allKnots 19 = .ok (.aload_n 2, 1) := by decide +kernel
theorem dX2_allKnots_20 : decode cX2_allKnots 20 = .ok (.iload 4, 2) := by decide +kernel
theorem dX2_allKnots_22 : decode cX2_allKnots 22 = .ok (.iaload, 1) := by decide +kernel
theorem dX2_allKnots_23 : decode cX2_allKnots 23 = .ok (.istore 5, 2) := by decide +kernel
theorem dX2_allKnots_25 : decode cX2_allKnots 25 = .ok (.iload_n 1, 1) := by decide +kernel
theorem dX2_allKnots_26 : decode cX2_allKnots 26 = .ok (.iload 5, 2) := by decide +kernel
theorem dX2_allKnots_28 : decode cX2_allKnots 28 = .ok (.iadd, 1) := by decide +kernel
theorem dX2_allKnots_29 : decode cX2_allKnots 29 = .ok (.istore_n 1, 1) := by decide +kernel
theorem dX2_allKnots_30 : decode cX2_allKnots 30 = .ok (.iinc 4 1, 3) := by decide +kernel
theorem dX2_allKnots_33 : decode cX2_allKnots 33 = .ok (.goto (-20), 3) := by decide +kernel
theorem dX2_allKnots_36 : decode cX2_allKnots 36 = .ok (.iload_n 1, 1) := by decide +kernel
theorem dX2_allKnots_37 : decode cX2_allKnots 37 = .ok (.ireturn, 1) := by decide +kernel
