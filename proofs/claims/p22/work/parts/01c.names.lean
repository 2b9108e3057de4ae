theorem dX3_init_0 : decode cX3_init 0 = .ok (.aload_n 0, 1) := by decide +kernel
theorem dX3_init_1 : decode cX3_init 1 = .ok (.invokespecial 3, 3) := by decide +kernel
theorem dX3_init_4 : decode cX3_init 4 = .ok (.aload_n 0, 1) := by decide +kernel
theorem dX3_init_5 : decode cX3_init 5 = .ok (.bipush 12, 2) := by decide +kernel
theorem dX3_init_7 : decode cX3_init 7 = .ok (.newarray .int, 2) := by decide +kernel
theorem dX3_init_9 : decode cX3_init 9 = .ok (.putfield 9, 3) := by decide +kernel
theorem dX3_init_12 : decode cX3_init 12 = .ok (.aload_n 0, 1) := by decide +kernel
theorem dX3_init_13 : decode cX3_init 13 = .ok (.iconst 0, 1) := by decide +kernel
theorem dX3_init_14 : decode cX3_init 14 = .ok (.putfield 15, 3) := by decide +kernel
theorem dX3_init_17 : decode cX3_init 17 = .ok (.aload_n 0, 1) := by decide +kernel
theorem dX3_init_18 : decode cX3_init 18 = .ok (.iconst 0, 1) := by decide +kernel
theorem dX3_init_19 : decode cX3_init 19 = .ok (.putfield 19, 3) := by decide +kernel
theorem dX3_init_22 : decode cX3_init 22 = .ok (.aload_n 0, 1) := by decide +kernel
theorem dX3_init_23 : decode cX3_init 23 = .ok (.iconst 0, 1) := by decide +kernel
theorem dX3_init_24 : decode cX3_init 24 = .ok (.putfield 22, 3) := by decide +kernel
theorem dX3_init_27 : decode cX3_init 27 = .ok (.return_, 1) := by decide +kernel
theorem dX3_copyFrom_0 : decode cX3_copyFrom 0 = .ok (.aload_n 1, 1) := by decide +kernel
theorem dX3_copyFrom_1 : decode cX3_copyFrom 1 = .ok (.getfield 9, 3) := by decide +kernel
theorem dX3_copyFrom_4 : decode cX3_copyFrom 4 = .ok (.iconst 0, 1) := by decide +kernel
theorem dX3_copyFrom_5 : decode cX3_copyFrom 5 = .ok (.aload_n 0, 1) := by decide +kernel
theorem dX3_copyFrom_6 : decode cX3_copyFrom 6 = .ok (.getfield 9, 3) := by decide +kernel
theorem dX3_copyFrom_9 : decode cX3_copyFrom 9 = .ok (.iconst 0, 1) := by decide +kernel
theorem dX3_copyFrom_10 : decode cX3_copyFrom 10 = .ok (.bipush 12, 2) := by decide +kernel
theorem dX3_copyFrom_12 : decode cX3_copyFrom 12 = .ok (.invokestatic 25, 3) := by decide +kernel
theorem dX3_copyFrom_15 : decode cX3_copyFrom 15 = .ok (.aload_n 0, 1) := by decide +kernel
theorem dX3_copyFrom_16 : decode cX3_copyFrom 16 = .ok (.aload_n 1, 1) := by decide +kernel
theorem dX3_copyFrom_17 : decode cX3_copyFrom 17 = .ok (.getfield 15, 3) := by decide +kernel
theorem dX3_copyFrom_20 : decode cX3_copyFrom 20 = .ok (.putfield 15, 3) := by decide +kernel
theorem dX3_copyFrom_23 : decode cX3_copyFrom 23 = .ok (.aload_n 0, 1) := by decide +kernel
theorem dX3_copyFrom_24 : decode cX3_copyFrom 24 = .ok (.aload_n 1, 1) := by decide +kernel
theorem dX3_copyFrom_25 : decode cX3_copyFrom 25 = .ok (.getfield 19, 3) := by decide +kernel
theorem dX3_copyFrom_28 : decode cX3_copyFrom 28 = .ok (.putfield 19, 3) := by decide +kernel
theorem dX3_copyFrom_31 : decode cX3_copyFrom 31 = .ok (.aload_n 0, 1) := by decide +kernel
theorem dX3_copyFrom_32 : decode cX3_copyFrom 32 = .ok (.aload_n 1, 1) := by decide +kernel
theorem dX3_copyFrom_33 : decode cX3_copyFrom 33 = .ok (.getfield 22, 3) := by decide +kernel
theorem dX3_copyFrom_36 : decode cX3_copyFrom 36 = .ok (.putfield 22, 3) := by decide +kernel
theorem dX3_copyFrom_39 : decode cX3_copyFrom 39 = .ok (.return_, 1) := by decide +kernel
set_option maxRecDepth 20000 in
theorem ggX3_clear_J7_fill_53178 : GoodIn wsX3_clear wsJ7_fill_53178 := goodIn_r _ [8] (by decide +kernel) (by decide +kernel)
set_option maxRecDepth 20000 in
theorem gX3_clear_J7_fill_53178 : GoodIn wsX3_clear (va_wsS RX3 31 yJ7_fill_53178 wsJ7_fill_53178) := goodIn_app (goodIn_of _ (by decide +kernel)) ggX3_clear_J7_fill_53178
theorem dX3_clear_0 : decode cX3_clear 0 = .ok (.aload_n 0, 1) := by decide +kernel
theorem dX3_clear_1 : decode cX3_clear 1 = .ok (.getfield 9, 3) := by decide +kernel
theorem dX3_clear_4 : decode cX3_clear 4 = .ok (.iconst 0, 1) := by decide +kernel
theorem dX3_clear_5 : decode cX3_clear 5 = .ok (.invokestatic 31, 3) := by decide +kernel
theorem dX3_clear_8 : decode cX3_clear 8 = .ok (.aload_n 0, 1) := by decide +kernel
theorem dX3_clear_9 : decode cX3_clear 9 = .ok (.iconst 0, 1) := by decide +kernel
theorem dX3_clear_10 : decode cX3_clear 10 = .ok (.putfield 15, 3) := by decide +kernel
theorem dX3_clear_13 : decode cX3_clear 13 = .ok (.aload_n 0, 1) := by decide +kernel
theorem dX3_clear_14 : decode cX3_clear 14 = .ok (.iconst 0, 1) := by decide +kernel
theorem dX3_clear_15 : decode cX3_clear 15 = .ok (.putfield 19, 3) := by decide +kernel
theorem dX3_clear_18 : decode cX3_clear 18 = .ok (.aload_n 0, 1) := by decide +kernel
theorem dX3_clear_19 : decode cX3_clear 19 = .ok (.iconst 0, 1) := by decide +kernel
theorem dX3_clear_20 : decode cX3_clear 20 = .ok (.putfield 22, 3) := by decide +kernel
theorem dX3_clear_23 : decode cX3_clear 23 = .ok (.return_, 1) := by decide +kernel
theorem dX3_guidePlace_0 : decode cX3_guidePlace 0 = .ok (.aload_n 0, 1) := by decide +kernel
theorem dX3_guidePlace_1 : decode cX3_guidePlace 1 = .ok (.getfield 22, 3) := by decide +kernel
theorem dX3_guidePlace_4 : decode cX3_guidePlace 4 = .ok (.bipush 11, 2) := by decide +kernel
theorem dX3_guidePlace_6 : decode cX3_guidePlace 6 = .ok (.if_icmp .gt 10, 3) := by decide +kernel
theorem dX3_guidePlace_9 : decode cX3_guidePlace 9 = .ok (.aload_n 0, 1) := by decide +kernel
theorem dX3_guidePlace_10 : decode cX3_guidePlace 10 = .ok (.getfield 22, 3) := by decide +kernel
theorem dX3_guidePlace_13 : decode cX3_guidePlace 13 = .ok (.goto 10, 3) := by decide +kernel
theorem dX3_guidePlace_16 : decode cX3_guidePlace 16 = .ok (.bipush 22, 2) := by decide +kernel
theorem dX3_guidePlace_18 : decode cX3_guidePlace 18 = .ok (.aload_n 0, 1) := by decide +kernel
theorem dX3_guidePlace_19 : decode cX3_guidePlace 19 = .ok (.getfield 22, 3) := by decide +kernel
theorem dX3_guidePlace_22 : decode cX3_guidePlace 22 = .ok (.isub, 1) := by decide +kernel
theorem dX3_guidePlace_23 : decode cX3_guidePlace 23 = .ok (.ireturn, 1) := by decide +kernel
theorem dX3_guideGoesBack_0 : decode cX3_guideGoesBack 0 = .ok (.aload_n 0, 1) := by decide +kernel
theorem dX3_guideGoesBack_1 : decode cX3_guideGoesBack 1 = .ok (.getfield 22, 3) := by decide +kernel
theorem dX3_guideGoesBack_4 : decode cX3_guideGoesBack 4 = .ok (.bipush 11, 2) := by decide +kernel
theorem dX3_guideGoesBack_6 : decode cX3_guideGoesBack 6 = .ok (.if_icmp .lt 7, 3) := by decide +kernel
theorem dX3_guideGoesBack_9 : decode cX3_guideGoesBack 9 = .ok (.iconst 1, 1) := by decide +kernel
theorem dX3_guideGoesBack_10 : decode cX3_guideGoesBack 10 = .ok (.goto 4, 3) := by decide +kernel
theorem dX3_guideGoesBack_13 : decode cX3_guideGoesBack 13 = .ok (.iconst 0, 1) := by decide +kernel
theorem dX3_guideGoesBack_14 : decode cX3_guideGoesBack 14 = .ok (.ireturn, 1) := by decide +kernel
set_option maxRecDepth 20000 in
theorem ggX3_moveGuide_X4_oneIf : GoodIn wsX3_moveGuide wsX4_oneIf := goodIn_r _ [4] (by decide +kernel) (by decide +kernel)
set_option maxRecDepth 20000 in
theorem gX3_moveGuide_X4_oneIf_n37 : GoodIn wsX3_moveGuide (wsX4_oneIf) := ggX3_moveGuide_X4_oneIf
theorem dX3_moveGuide_0 : decode cX3_moveGuide 0 = .ok (.bipush 8, 2) := by decide +kernel
theorem dX3_moveGuide_2 : decode cX3_moveGuide 2 = .ok (.iload_n 2, 1) := by decide +kernel
theorem dX3_moveGuide_3 : decode cX3_moveGuide 3 = .ok (.isub, 1) := by decide +kernel
theorem dX3_moveGuide_4 : decode cX3_moveGuide 4 = .ok (.istore 4, 2) := by decide +kernel
theorem dX3_moveGuide_6 : decode cX3_moveGuide 6 = .ok (.iload_n 2, 1) := by decide +kernel
theorem dX3_moveGuide_7 : decode cX3_moveGuide 7 = .ok (.ifCond .le 19, 3) := by decide +kernel
theorem dX3_moveGuide_10 : decode cX3_moveGuide 10 = .ok (.iload 4, 2) := by decide +kernel
theorem dX3_moveGuide_12 : decode cX3_moveGuide 12 = .ok (.ifCond .le 14, 3) := by decide +kernel
theorem dX3_moveGuide_15 : decode cX3_moveGuide 15 = .ok (.iload_n 3, 1) := by decide +kernel
theorem dX3_moveGuide_16 : decode cX3_moveGuide 16 = .ok (.iload 4, 2) := by decide +kernel
theorem dX3_moveGuide_18 : decode cX3_moveGuide 18 = .ok (.irem, 1) := by decide +kernel
theorem dX3_moveGuide_19 : decode cX3_moveGuide 19 = .ok (.ifCond .ne 7, 3) := by decide +kernel
theorem dX3_moveGuide_22 : decode cX3_moveGuide 22 = .ok (.iconst 1, 1) := by decide +kernel
theorem dX3_moveGuide_23 : decode cX3_moveGuide 23 = .ok (.goto 4, 3) := by decide +kernel
theorem dX3_moveGuide_26 : decode cX3_moveGuide 26 = .ok (.iconst 0, 1) := by decide +kernel
theorem dX3_moveGuide_27 : decode cX3_moveGuide 27 = .ok (.istore 5, 2) := by decide +kernel
theorem dX3_moveGuide_29 : decode cX3_moveGuide 29 = .ok (.aload_n 0, 1) := by decide +kernel
theorem dX3_moveGuide_30 : decode cX3_moveGuide 30 = .ok (.aload_n 0, 1) := by decide +kernel
theorem dX3_moveGuide_31 : decode cX3_moveGuide 31 = .ok (.getfield 22, 3) := by decide +kernel
theorem dX3_moveGuide_34 : decode cX3_moveGuide 34 = .ok (.iload_n 1, 1) := by decide +kernel
theorem dX3_moveGuide_35 : decode cX3_moveGuide 35 = .ok (.iadd, 1) := by decide +kernel
theorem dX3_moveGuide_36 : decode cX3_moveGuide 36 = .ok (.iload 5, 2) := by decide +kernel
theorem dX3_moveGuide_38 : decode cX3_moveGuide 38 = .ok (.invokestatic 37, 3) := by decide +kernel
theorem dX3_moveGuide_41 : decode cX3_moveGuide 41 = .ok (.iadd, 1) := by decide +kernel
theorem dX3_moveGuide_42 : decode cX3_moveGuide 42 = .ok (.bipush 22, 2) := by decide +kernel
theorem dX3_moveGuide_44 : decode cX3_moveGuide 44 = .ok (.irem, 1) := by decide +kernel
theorem dX3_moveGuide_45 : decode cX3_moveGuide 45 = .ok (.putfield 22, 3) := by decide +kernel
theorem dX3_moveGuide_48 : decode cX3_moveGuide 48 = .ok (.return_, 1) := by decide +kernel
set_option maxRecDepth 20000 in
theorem ggX3_layWrap_X3_guidePlace : GoodIn wsX3_layWrap wsX3_guidePlace := goodIn_r _ [12, 13, 14, 15, 16, 17] (by decide +kernel) (by decide +kernel)
set_option maxRecDepth 20000 in
theorem gX3_layWrap_X3_guidePlace : GoodIn wsX3_layWrap (wsV RX3 41 RX3 yX3_guidePlace wsX3_guidePlace) := goodIn_app (goodIn_of _ (by decide +kernel)) ggX3_layWrap_X3_guidePlace
theorem dX3_layWrap_0 : decode cX3_layWrap 0 = .ok (.aload_n 0, 1) := by decide +kernel
theorem dX3_layWrap_1 : decode cX3_layWrap 1 = .ok (.invokevirtual 41, 3) := by decide +kernel
theorem dX3_layWrap_4 : decode cX3_layWrap 4 = .ok (.istore_n 1, 1) := by decide +kernel
theorem dX3_layWrap_5 : decode cX3_layWrap 5 = .ok (.iload_n 1, 1) := by decide +kernel
theorem dX3_layWrap_6 : decode cX3_layWrap 6 = .ok (.ifCond .lt 49, 3) := by decide +kernel
theorem dX3_layWrap_9 : decode cX3_layWrap 9 = .ok (.iload_n 1, 1) := by decide +kernel
theorem dX3_layWrap_10 : decode cX3_layWrap 10 = .ok (.aload_n 0, 1) := by decide +kernel
theorem dX3_layWrap_11 : decode cX3_layWrap 11 = .ok (.getfield 9, 3) := by decide +kernel
theorem dX3_layWrap_14 : decode cX3_layWrap 14 = .ok (.arraylength, 1) := by decide +kernel
theorem dX3_layWrap_15 : decode cX3_layWrap 15 = .ok (.if_icmp .ge 40, 3) := by decide +kernel
theorem dX3_layWrap_18 : decode cX3_layWrap 18 = .ok (.aload_n 0, 1) := by decide +kernel
theorem dX3_layWrap_19 : decode cX3_layWrap 19 = .ok (.getfield 9, 3) := by decide +kernel
theorem dX3_layWrap_22 : decode cX3_layWrap 22 = .ok (.iload_n 1, 1) := by decide +kernel
theorem dX3_layWrap_23 : decode cX3_layWrap 23 = .ok (.dup2, 1) := by decide +kernel
theorem dX3_layWrap_24 : decode cX3_layWrap 24 = .ok (.iaload, 1) := by decide +kernel
theorem dX3_layWrap_25 : decode cX3_layWrap 25 = .ok (.iconst 1, 1) := by decide +kernel
theorem dX3_layWrap_26 : decode cX3_layWrap 26 = .ok (.iadd, 1) := by decide +kernel
theorem dX3_layWrap_27 : decode cX3_layWrap 27 = .ok (.iastore, 1) := by decide +kernel
theorem dX3_layWrap_28 : decode cX3_layWrap 28 = .ok (.aload_n 0, 1) := by decide +kernel
theorem dX3_layWrap_29 : decode cX3_layWrap 29 = .ok (.dup, 1) := by decide +kernel
theorem dX3_layWrap_30 : decode cX3_layWrap 30 = .ok (.getfield 15, 3) := by decide +kernel
theorem dX3_layWrap_33 : decode cX3_layWrap 33 = .ok (.iconst 1, 1) := by decide +kernel
theorem dX3_layWrap_34 : decode cX3_layWrap 34 = .ok (.iadd, 1) := by decide +kernel
theorem dX3_layWrap_35 : decode cX3_layWrap 35 = .ok (.putfield 15, 3) := by decide +kernel
theorem dX3_layWrap_38 : decode cX3_layWrap 38 = .ok (.aload_n 0, 1) := by decide +kernel
theorem dX3_layWrap_39 : decode cX3_layWrap 39 = .ok (.aload_n 0, 1) := by decide +kernel
theorem dX3_layWrap_40 : decode cX3_layWrap 40 = .ok (.getfield 19, 3) := by decide +kernel
theorem dX3_layWrap_43 : decode cX3_layWrap 43 = .ok (.aload_n 0, 1) := by decide +kernel
theorem dX3_layWrap_44 : decode cX3_layWrap 44 = .ok (.getfield 9, 3) := by decide +kernel
theorem dX3_layWrap_47 : decode cX3_layWrap 47 = .ok (.iload_n 1, 1) := by decide +kernel
theorem dX3_layWrap_48 : decode cX3_layWrap 48 = .ok (.iaload, 1) := by decide +kernel
theorem dX3_layWrap_49 : decode cX3_layWrap 49 = .ok (.invokestatic 45, 3) := by decide +kernel
theorem dX3_layWrap_52 : decode cX3_layWrap 52 = .ok (.putfield 19, 3) := by decide +kernel
theorem dX3_layWrap_55 : decode cX3_layWrap 55 = .ok (.return_, 1) := by decide +kernel
theorem dX3_heightAt_0 : decode cX3_heightAt 0 = .ok (.iload_n 1, 1) := by decide +kernel
theorem dX3_heightAt_1 : decode cX3_heightAt 1 = .ok (.ifCond .lt 21, 3) := by decide +kernel
theorem dX3_heightAt_4 : decode cX3_heightAt 4 = .ok (.iload_n 1, 1) := by decide +kernel
theorem dX3_heightAt_5 : decode cX3_heightAt 5 = .ok (.aload_n 0, 1) := by decide +kernel
theorem dX3_heightAt_6 : decode cX3_heightAt 6 = .ok (.getfield 9, 3) := by decide +kernel
theorem dX3_heightAt_9 : decode cX3_heightAt 9 = .ok (.arraylength, 1) := by decide +kernel
theorem dX3_heightAt_10 : decode cX3_heightAt 10 = .ok (.if_icmp .ge 12, 3) := by decide +kernel
theorem dX3_heightAt_13 : decode cX3_heightAt 13 = .ok (.aload_n 0, 1) := by decide +kernel
theorem dX3_heightAt_14 : decode cX3_heightAt 14 = .ok (.getfield 9, 3) := by decide +kernel
theorem dX3_heightAt_17 : decode cX3_heightAt 17 = .ok (.iload_n 1, 1) := by decide +kernel
theorem dX3_heightAt_18 : decode cX3_heightAt 18 = .ok (.iaload, 1) := by decide +kernel
theorem dX3_heightAt_19 : decode cX3_heightAt 19 = .ok (.goto 4, 3) := by decide +kernel
theorem dX3_heightAt_22 : decode cX3_heightAt 22 = .ok (.iconst 0, 1) := by decide +kernel
theorem dX3_heightAt_23 : decode cX3_heightAt 23 = .ok (.ireturn, 1) := by decide +kernel
theorem dX3_isFull_0 : decode cX3_isFull 0 = .ok (.aload_n 0, 1) := by decide +kernel
theorem dX3_isFull_1 : decode cX3_isFull 1 = .ok (.getfield 19, 3) := by decide +kernel
theorem dX3_isFull_4 : decode cX3_isFull 4 = .ok (.sipush 200, 3) := by decide +kernel
theorem dX3_isFull_7 : decode cX3_isFull 7 = .ok (.if_icmp .lt 7, 3) := by decide +kernel
theorem dX3_isFull_10 : decode cX3_isFull 10 = .ok (.iconst 1, 1) := by decide +kernel
theorem dX3_isFull_11 : decode cX3_isFull 11 = .ok (.goto 4, 3) := by decide +kernel
theorem dX3_isFull_14 : decode cX3_isFull 14 = .ok (.iconst 0, 1) := by decide +kernel
theorem dX3_isFull_15 : decode cX3_isFull 15 = .ok (.ireturn, 1) := by decide +kernel
theorem dX3_evenness_0 : decode cX3_evenness 0 = .ok (.aload_n 0, 1) := by decide +kernel
theorem dX3_evenness_1 : decode cX3_evenness 1 = .ok (.getfield 19, 3) := by decide +kernel
theorem dX3_evenness_4 : decode cX3_evenness 4 = .ok (.istore_n 1, 1) := by decide +kernel
theorem dX3_evenness_5 : decode cX3_evenness 5 = .ok (.aload_n 0, 1) := by decide +kernel
theorem dX3_evenness_6 : decode cX3_evenness 6 = .ok (.getfield 9, 3) := by decide +kernel
theorem dX3_evenness_9 : decode cX3_evenness 9 = .ok (.astore_n 2, 1) := by decide +kernel
theorem dX3_evenness_10 : decode cX3_evenness 10 = .ok (.aload_n 2, 1) := by decide +kernel
theorem dX3_evenness_11 : decode cX3_evenness 11 = .ok (.arraylength, 1) := by decide +kernel
theorem dX3_evenness_12 : decode cX3_evenness 12 = .ok (.istore_n 3, 1) := by decide +kernel
theorem dX3_evenness_13 : decode cX3_evenness 13 = .ok (.iconst 0, 1) := by decide +kernel
theorem dX3_evenness_14 : decode cX3_evenness 14 = .ok (.istore 4, 2) := by decide +kernel
theorem dX3_evenness_16 : decode cX3_evenness 16 = .ok (.iload 4, 2) := by decide +kernel
theorem dX3_evenness_18 : decode cX3_evenness 18 = .ok (.iload_n 3, 1) := by decide +kernel
theorem dX3_evenness_19 : decode cX3_evenness 19 = .ok (.if_icmp .ge 22, 3) := by decide +kernel
theorem dX3_evenness_22 : decode cX3_evenness 22 = .ok (.aload_n 2, 1) := by decide +kernel
theorem dX3_evenness_23 : decode cX3_evenness 23 = .ok (.iload 4, 2) := by decide +kernel
theorem dX3_evenness_25 : decode cX3_evenness 25 = .ok (.iaload, 1) := by decide +kernel
theorem dX3_evenness_26 : decode cX3_evenness 26 = .ok (.istore 5, 2) := by decide +kernel
theorem dX3_evenness_28 : decode cX3_evenness 28 = .ok (.iload_n 1, 1) := by decide +kernel
theorem dX3_evenness_29 : decode cX3_evenness 29 = .ok (.iload 5, 2) := by decide +kernel
theorem dX3_evenness_31 : decode cX3_evenness 31 = .ok (.invokestatic 51, 3) := by decide +kernel
theorem dX3_evenness_34 : decode cX3_evenness 34 = .ok (.istore_n 1, 1) := by decide +kernel
theorem dX3_evenness_35 : decode cX3_evenness 35 = .ok (.iinc 4 1, 3) := by decide +kernel
theorem dX3_evenness_38 : decode cX3_evenness 38 = .ok (.goto (-22), 3) := by decide +kernel
theorem dX3_evenness_41 : decode cX3_evenness 41 = .ok (.aload_n 0, 1) := by decide +kernel
theorem dX3_evenness_42 : decode cX3_evenness 42 = .ok (.getfield 19, 3) := by decide +kernel
theorem dX3_evenness_45 : decode cX3_evenness 45 = .ok (.iload_n 1, 1) := by decide +kernel
theorem dX3_evenness_46 : decode cX3_evenness 46 = .ok (.isub, 1) := by decide +kernel
theorem dX3_evenness_47 : decode cX3_evenness 47 = .ok (.ireturn, 1) := by decide +kernel
set_option maxRecDepth 20000 in
theorem ggX3_isRibbon_X3_isRibbonOver : GoodIn wsX3_isRibbon wsX3_isRibbonOver := goodIn_r _ [5, 6, 7, 8, 4, 9, 10, 11, 12, 13, 14] (by decide +kernel) (by decide +kernel)
set_option maxRecDepth 20000 in
theorem gX3_isRibbon_X3_isRibbonOver : GoodIn wsX3_isRibbon (wsV RX3 54 RX3 yX3_isRibbonOver wsX3_isRibbonOver) := goodIn_app (goodIn_of _ (by decide +kernel)) ggX3_isRibbon_X3_isRibbonOver
theorem dX3_isRibbon_0 : decode cX3_isRibbon 0 = .ok (.iload_n 1, 1) := by decide +kernel
theorem dX3_isRibbon_1 : decode cX3_isRibbon 1 = .ok (.ifCond .eq 14, 3) := by decide +kernel
theorem dX3_isRibbon_4 : decode cX3_isRibbon 4 = .ok (.aload_n 0, 1) := by decide +kernel
theorem dX3_isRibbon_5 : decode cX3_isRibbon 5 = .ok (.iload_n 1, 1) := by decide +kernel
theorem dX3_isRibbon_6 : decode cX3_isRibbon 6 = .ok (.iload_n 1, 1) := by decide +kernel
theorem dX3_isRibbon_7 : decode cX3_isRibbon 7 = .ok (.iconst 1, 1) := by decide +kernel
theorem dX3_isRibbon_8 : decode cX3_isRibbon 8 = .ok (.isub, 1) := by decide +kernel
theorem dX3_isRibbon_9 : decode cX3_isRibbon 9 = .ok (.invokevirtual 54, 3) := by decide +kernel
theorem dX3_isRibbon_12 : decode cX3_isRibbon 12 = .ok (.ifCond .eq 7, 3) := by decide +kernel
theorem dX3_isRibbon_15 : decode cX3_isRibbon 15 = .ok (.iconst 1, 1) := by decide +kernel
theorem dX3_isRibbon_16 : decode cX3_isRibbon 16 = .ok (.goto 4, 3) := by decide +kernel
theorem dX3_isRibbon_19 : decode cX3_isRibbon 19 = .ok (.iconst 0, 1) := by decide +kernel
theorem dX3_isRibbon_20 : decode cX3_isRibbon 20 = .ok (.istore_n 2, 1) := by decide +kernel
theorem dX3_isRibbon_21 : decode cX3_isRibbon 21 = .ok (.iload_n 1, 1) := by decide +kernel
theorem dX3_isRibbon_22 : decode cX3_isRibbon 22 = .ok (.bipush 11, 2) := by decide +kernel
theorem dX3_isRibbon_24 : decode cX3_isRibbon 24 = .ok (.if_icmp .eq 14, 3) := by decide +kernel
theorem dX3_isRibbon_27 : decode cX3_isRibbon 27 = .ok (.aload_n 0, 1) := by decide +kernel
theorem dX3_isRibbon_28 : decode cX3_isRibbon 28 = .ok (.iload_n 1, 1) := by decide +kernel
theorem dX3_isRibbon_29 : decode cX3_isRibbon 29 = .ok (.iload_n 1, 1) := by decide +kernel
theorem dX3_isRibbon_30 : decode cX3_isRibbon 30 = .ok (.iconst 1, 1) := by decide +kernel
theorem dX3_isRibbon_31 : decode cX3_isRibbon 31 = .ok (.iadd, 1) := by decide +kernel
theorem dX3_isRibbon_32 : decode cX3_isRibbon 32 = .ok (.invokevirtual 54, 3) := by decide +kernel
theorem dX3_isRibbon_35 : decode cX3_isRibbon 35 = .ok (.ifCond .eq 7, 3) := by decide +kernel
theorem dX3_isRibbon_38 : decode cX3_isRibbon 38 = .ok (.iconst 1, 1) := by decide +kernel
theorem dX3_isRibbon_39 : decode cX3_isRibbon 39 = .ok (.goto 4, 3) := by decide +kernel
theorem dX3_isRibbon_42 : decode cX3_isRibbon 42 = .ok (.iconst 0, 1) := by decide +kernel
theorem dX3_isRibbon_43 : decode cX3_isRibbon 43 = .ok (.istore_n 3, 1) := by decide +kernel
theorem dX3_isRibbon_44 : decode cX3_isRibbon 44 = .ok (.iload_n 2, 1) := by decide +kernel
theorem dX3_isRibbon_45 : decode cX3_isRibbon 45 = .ok (.ifCond .eq 11, 3) := by decide +kernel
theorem dX3_isRibbon_48 : decode cX3_isRibbon 48 = .ok (.iload_n 3, 1) := by decide +kernel
theorem dX3_isRibbon_49 : decode cX3_isRibbon 49 = .ok (.ifCond .eq 7, 3) := by decide +kernel
theorem dX3_isRibbon_52 : decode cX3_isRibbon 52 = .ok (.iconst 1, 1) := by decide +kernel
theorem dX3_isRibbon_53 : decode cX3_isRibbon 53 = .ok (.goto 4, 3) := by decide +kernel
theorem dX3_isRibbon_56 : decode cX3_isRibbon 56 = .ok (.iconst 0, 1) := by decide +kernel
theorem dX3_isRibbon_57 : decode cX3_isRibbon 57 = .ok (.ireturn, 1) := by decide +kernel
set_option maxRecDepth 20000 in
theorem ggX3_isRibbonOver_X3_heightAt : GoodIn wsX3_isRibbonOver wsX3_heightAt := goodIn_r _ [5, 6, 7, 8, 9, 10] (by decide +kernel) (by decide +kernel)
set_option maxRecDepth 20000 in
theorem gX3_isRibbonOver_X3_heightAt : GoodIn wsX3_isRibbonOver (wsV RX3 58 RX3 yX3_heightAt wsX3_heightAt) := goodIn_app (goodIn_of _ (by decide +kernel)) ggX3_isRibbonOver_X3_heightAt
theorem dX3_isRibbonOver_0 : decode cX3_isRibbonOver 0 = .ok (.aload_n 0, 1) := by decide +kernel
theorem dX3_isRibbonOver_1 : decode cX3_isRibbonOver 1 = .ok (.iload_n 1, 1) := by decide +kernel
theorem dX3_isRibbonOver_2 : decode cX3_isRibbonOver 2 = .ok (.invokevirtual 58, 3) := by decide +kernel
theorem dX3_isRibbonOver_5 : decode cX3_isRibbonOver 5 = .ok (.aload_n 0, 1) := by decide +kernel
theorem dX3_isRibbonOver_6 : decode cX3_isRibbonOver 6 = .ok (.iload_n 2, 1) := by decide +kernel
theorem dX3_isRibbonOver_7 : decode cX3_isRibbonOver 7 = .ok (.invokevirtual 58, 3) := by decide +kernel
theorem dX3_isRibbonOver_10 : decode cX3_isRibbonOver 10 = .ok (.isub, 1) := by decide +kernel
theorem dX3_isRibbonOver_11 : decode cX3_isRibbonOver 11 = .ok (.bipush 6, 2) := by decide +kernel
theorem dX3_isRibbonOver_13 : decode cX3_isRibbonOver 13 = .ok (.if_icmp .lt 7, 3) := by decide +kernel
theorem dX3_isRibbonOver_16 : decode cX3_isRibbonOver 16 = .ok (.iconst 1, 1) := by decide +kernel
theorem dX3_isRibbonOver_17 : decode cX3_isRibbonOver 17 = .ok (.goto 4, 3) := by decide +kernel
theorem dX3_isRibbonOver_20 : decode cX3_isRibbonOver 20 = .ok (.iconst 0, 1) := by decide +kernel
theorem dX3_isRibbonOver_21 : decode cX3_isRibbonOver 21 = .ok (.ireturn, 1) := by decide +kernel
set_option maxRecDepth 20000 in
theorem ggX3_ribbons_X3_isRibbon : GoodIn wsX3_ribbons wsX3_isRibbon := goodIn_r _ [5, 6, 7, 8, 4, 9, 10, 11, 12, 13, 14, 18, 19, 20, 21] (by decide +kernel) (by decide +kernel)
set_option maxRecDepth 20000 in
theorem gX3_ribbons_X3_isRibbon : GoodIn wsX3_ribbons (wsV RX3 62 RX3 yX3_isRibbon wsX3_isRibbon) := goodIn_app (goodIn_of _ (by decide +kernel)) ggX3_ribbons_X3_isRibbon
set_option maxRecDepth 20000 in
theorem ggX3_ribbons_X4_oneIf : GoodIn wsX3_ribbons wsX4_oneIf := goodIn_r _ [17] (by decide +kernel) (by decide +kernel)
set_option maxRecDepth 20000 in
theorem gX3_ribbons_X4_oneIf_n37 : GoodIn wsX3_ribbons (wsX4_oneIf) := ggX3_ribbons_X4_oneIf
theorem dX3_ribbons_0 : decode cX3_ribbons 0 = .ok (.iconst 0, 1) := by decide +kernel
theorem dX3_ribbons_1 : decode cX3_ribbons 1 = .ok (.istore_n 1, 1) := by decide +kernel
theorem dX3_ribbons_2 : decode cX3_ribbons 2 = .ok (.iconst 0, 1) := by decide +kernel
theorem dX3_ribbons_3 : decode cX3_ribbons 3 = .ok (.istore_n 2, 1) := by decide +kernel
theorem dX3_ribbons_4 : decode cX3_ribbons 4 = .ok (.iload_n 2, 1) := by decide +kernel
theorem dX3_ribbons_5 : decode cX3_ribbons 5 = .ok (.bipush 12, 2) := by decide +kernel
theorem dX3_ribbons_7 : decode cX3_ribbons 7 = .ok (.if_icmp .ge 20, 3) := by decide +kernel
theorem dX3_ribbons_10 : decode cX3_ribbons 10 = .ok (.iload_n 1, 1) := by decide +kernel
theorem dX3_ribbons_11 : decode cX3_ribbons 11 = .ok (.aload_n 0, 1) := by decide +kernel
theorem dX3_ribbons_12 : decode cX3_ribbons 12 = .ok (.iload_n 2, 1) := by decide +kernel
theorem dX3_ribbons_13 : decode cX3_ribbons 13 = .ok (.invokevirtual 62, 3) := by decide +kernel
theorem dX3_ribbons_16 : decode cX3_ribbons 16 = .ok (.invokestatic 37, 3) := by decide +kernel
theorem dX3_ribbons_19 : decode cX3_ribbons 19 = .ok (.iadd, 1) := by decide +kernel
theorem dX3_ribbons_20 : decode cX3_ribbons 20 = .ok (.istore_n 1, 1) := by decide +kernel
theorem dX3_ribbons_21 : decode cX3_ribbons 21 = .ok (.iinc 2 1, 3) := by decide +kernel
theorem dX3_ribbons_24 : decode cX3_ribbons 24 = .ok (.goto (-20), 3) := by decide +kernel
theorem dX3_ribbons_27 : decode cX3_ribbons 27 = .ok (.iload_n 1, 1) := by decide +kernel
theorem dX3_ribbons_28 : decode cX3_ribbons 28 = .ok (.ireturn, 1) := by decide +kernel
set_option maxRecDepth 20000 in
theorem ggX3_barePlaces_X4_oneIf : GoodIn wsX3_barePlaces wsX4_oneIf := goodIn_r _ [4] (by decide +kernel) (by decide +kernel)
set_option maxRecDepth 20000 in
theorem gX3_barePlaces_X4_oneIf_n37 : GoodIn wsX3_barePlaces (wsX4_oneIf) := ggX3_barePlaces_X4_oneIf
theorem dX3_barePlaces_0 : decode cX3_barePlaces 0 = .ok (.iconst 0, 1) := by decide +kernel
theorem dX3_barePlaces_1 : decode cX3_barePlaces 1 = .ok (.istore_n 1, 1) := by decide +kernel
theorem dX3_barePlaces_2 : decode cX3_barePlaces 2 = .ok (.aload_n 0, 1) := by decide +kernel
theorem dX3_barePlaces_3 : decode cX3_barePlaces 3 = .ok (.getfield 9, 3) := by decide +kernel
theorem dX3_barePlaces_6 : decode cX3_barePlaces 6 = .ok (.astore_n 2, 1) := by decide +kernel
theorem dX3_barePlaces_7 : decode cX3_barePlaces 7 = .ok (.aload_n 2, 1) := by decide +kernel
theorem dX3_barePlaces_8 : decode cX3_barePlaces 8 = .ok (.arraylength, 1) := by decide +kernel
theorem dX3_barePlaces_9 : decode cX3_barePlaces 9 = .ok (.istore_n 3, 1) := by decide +kernel
theorem dX3_barePlaces_10 : decode cX3_barePlaces 10 = .ok (.iconst 0, 1) := by decide +kernel
theorem dX3_barePlaces_11 : decode cX3_barePlaces 11 = .ok (.istore 4, 2) := by decide +kernel
theorem dX3_barePlaces_13 : decode cX3_barePlaces 13 = .ok (.iload 4, 2) := by decide +kernel
theorem dX3_barePlaces_15 : decode cX3_barePlaces 15 = .ok (.iload_n 3, 1) := by decide +kernel
theorem dX3_barePlaces_16 : decode cX3_barePlaces 16 = .ok (.if_icmp .ge 31, 3) := by decide +kernel
theorem dX3_barePlaces_19 : decode cX3_barePlaces 19 = .ok (.aload_n 2, 1) := by decide +kernel
theorem dX3_barePlaces_20 : decode cX3_barePlaces 20 = .ok (.iload 4, 2) := by decide +kernel
theorem dX3_barePlaces_22 : decode cX3_barePlaces 22 = .ok (.iaload, 1) := by decide +kernel
theorem dX3_barePlaces_23 : decode cX3_barePlaces 23 = .ok (.istore 5, 2) := by decide +kernel
theorem dX3_barePlaces_25 : decode cX3_barePlaces 25 = .ok (.iload_n 1, 1) := by decide +kernel
theorem dX3_barePlaces_26 : decode cX3_barePlaces 26 = .ok (.iload 5, 2) := by decide +kernel
theorem dX3_barePlaces_28 : decode cX3_barePlaces 28 = .ok (.ifCond .ne 7, 3) := by decide +kernel
theorem dX3_barePlaces_31 : decode cX3_barePlaces 31 = .ok (.iconst 1, 1) := by decide +kernel
theorem dX3_barePlaces_32 : decode cX3_barePlaces 32 = .ok (.goto 4, 3) := by decide +kernel
theorem dX3_barePlaces_35 : decode cX3_barePlaces 35 = .ok (.iconst 0, 1) := by decide +kernel
theorem dX3_barePlaces_36 : decode cX3_barePlaces 36 = .ok (.invokestatic 37, 3) := by decide +kernel
theorem dX3_barePlaces_39 : decode cX3_barePlaces 39 = .ok (.iadd, 1) := by decide +kernel
theorem dX3_barePlaces_40 : decode cX3_barePlaces 40 = .ok (.istore_n 1, 1) := by decide +kernel
theorem dX3_barePlaces_41 : decode cX3_barePlaces 41 = .ok (.iinc 4 1, 3) := by decide +kernel
theorem dX3_barePlaces_44 : decode cX3_barePlaces 44 = .ok (.goto (-31), 3) := by decide +kernel
theorem dX3_barePlaces_47 : decode cX3_barePlaces 47 = .ok (.iload_n 1, 1) := by decide +kernel
theorem dX3_barePlaces_48 : decode cX3_barePlaces 48 = .ok (.ireturn, 1) := by decide +kernel
