theorem dX3_follow_59 : decode cX3_follow 59 = .ok (.aload_n 1, 1) := by decide +kernel
theorem dX3_follow_60 : decode cX3_follow 60 = .ok (.iload_n 2, 1) := by decide +kernel
theorem dX3_follow_61 : decode cX3_follow 61 = .ok (.invokevirtual 61, 3) := by decide +kernel
theorem dX3_follow_64 : decode cX3_follow 64 = .ok (.iadd, 1) := by decide +kernel
theorem dX3_follow_65 : decode cX3_follow 65 = .ok (.istore_n 2, 1) := by decide +kernel
theorem dX3_follow_66 : decode cX3_follow 66 = .ok (.iinc 3 1, 3) := by decide +kernel
theorem dX3_follow_69 : decode cX3_follow 69 = .ok (.goto (-65), 3) := by decide +kernel
theorem dX3_follow_72 : decode cX3_follow 72 = .ok (.return_, 1) := by decide +kernel
set_option maxRecDepth 20000 in
theorem ggX3_followDraws_X0_setByDraw : GoodIn wsX3_followDraws wsX0_setByDraw := goodIn_r _ [7, 8, 9, 10, 6, 11, 12, 13, 14, 120, 121, 122] (by decide +kernel) (by decide +kernel)
set_option maxRecDepth 20000 in
theorem gX3_followDraws_X0_setByDraw : GoodIn wsX3_followDraws (wsV RX3 66 RX0 yX0_setByDraw wsX0_setByDraw) := goodIn_app (goodIn_of _ (by decide +kernel)) ggX3_followDraws_X0_setByDraw
set_option maxRecDepth 20000 in
theorem ggX3_followDraws_X3_tryAct : GoodIn wsX3_followDraws wsX3_tryAct := goodIn_r _ [19, 2, 20, 21, 22, 23, 24, 6, 25, 12, 13, 14, 26, 27, 28, 29, 30, 31, 32, 33, 34, 35, 36, 37, 38, 39, 40, 41, 42, 43, 44, 45, 46, 47, 48, 49, 50, 51, 52, 53, 54, 55, 56, 57, 58, 59, 60, 61, 62, 63, 64, 65, 66, 67, 68, 69, 70, 71, 72, 73, 74, 75, 76, 77, 78, 79, 80, 81, 82, 83, 84, 85, 86, 87, 88, 89, 90, 91, 92, 93, 94, 95, 96, 18, 97, 98, 99, 100, 101, 102, 103, 104, 105, 106, 107, 108, 109, 110, 111, 112, 113, 114, 115, 116, 117, 118, 119, 120, 121, 122, 123, 124, 125, 126, 127, 128, 129, 130, 131, 132, 133] (by decide +kernel) (by decide +kernel)
set_option maxRecDepth 20000 in
theorem gX3_followDraws_X3_tryAct : GoodIn wsX3_followDraws (wsV RX3 57 RX3 yX3_tryAct wsX3_tryAct) := goodIn_app (goodIn_of _ (by decide +kernel)) ggX3_followDraws_X3_tryAct
theorem dX3_followDraws_0 : decode cX3_followDraws 0 = .ok (.iload_n 1, 1) := by decide +kernel
theorem dX3_followDraws_1 : decode cX3_followDraws 1 = .ok (.istore_n 3, 1) := by decide +kernel
theorem dX3_followDraws_2 : decode cX3_followDraws 2 = .ok (.iconst 0, 1) := by decide +kernel
theorem dX3_followDraws_3 : decode cX3_followDraws 3 = .ok (.istore 4, 2) := by decide +kernel
theorem dX3_followDraws_5 : decode cX3_followDraws 5 = .ok (.iload 4, 2) := by decide +kernel
theorem dX3_followDraws_7 : decode cX3_followDraws 7 = .ok (.iload_n 2, 1) := by decide +kernel
theorem dX3_followDraws_8 : decode cX3_followDraws 8 = .ok (.if_icmp .ge 33, 3) := by decide +kernel
theorem dX3_followDraws_11 : decode cX3_followDraws 11 = .ok (.bipush 75, 2) := by decide +kernel
theorem dX3_followDraws_13 : decode cX3_followDraws 13 = .ok (.iload_n 3, 1) := by decide +kernel
theorem dX3_followDraws_14 : decode cX3_followDraws 14 = .ok (.imul, 1) := by decide +kernel
theorem dX3_followDraws_15 : decode cX3_followDraws 15 = .ok (.bipush 74, 2) := by decide +kernel
theorem dX3_followDraws_17 : decode cX3_followDraws 17 = .ok (.iadd, 1) := by decide +kernel
theorem dX3_followDraws_18 : decode cX3_followDraws 18 = .ok (.ldc 65, 2) := by decide +kernel
theorem dX3_followDraws_20 : decode cX3_followDraws 20 = .ok (.irem, 1) := by decide +kernel
theorem dX3_followDraws_21 : decode cX3_followDraws 21 = .ok (.istore_n 3, 1) := by decide +kernel
theorem dX3_followDraws_22 : decode cX3_followDraws 22 = .ok (.aload_n 0, 1) := by decide +kernel
theorem dX3_followDraws_23 : decode cX3_followDraws 23 = .ok (.getfield 21, 3) := by decide +kernel
theorem dX3_followDraws_26 : decode cX3_followDraws 26 = .ok (.iload_n 3, 1) := by decide +kernel
theorem dX3_followDraws_27 : decode cX3_followDraws 27 = .ok (.invokevirtual 66, 3) := by decide +kernel
theorem dX3_followDraws_30 : decode cX3_followDraws 30 = .ok (.aload_n 0, 1) := by decide +kernel
theorem dX3_followDraws_31 : decode cX3_followDraws 31 = .ok (.invokevirtual 57, 3) := by decide +kernel
theorem dX3_followDraws_34 : decode cX3_followDraws 34 = .ok (.pop, 1) := by decide +kernel
theorem dX3_followDraws_35 : decode cX3_followDraws 35 = .ok (.iinc 4 1, 3) := by decide +kernel
theorem dX3_followDraws_38 : decode cX3_followDraws 38 = .ok (.goto (-33), 3) := by decide +kernel
theorem dX3_followDraws_41 : decode cX3_followDraws 41 = .ok (.return_, 1) := by decide +kernel
set_option maxRecDepth 20000 in
theorem ggX3_tryAct_X0_isSound : GoodIn wsX3_tryAct wsX0_isSound := goodIn_r _ [8, 9, 10, 11, 12, 13, 14, 15, 16, 17, 18, 19, 20, 21, 107, 108, 109] (by decide +kernel) (by decide +kernel)
set_option maxRecDepth 20000 in
theorem gX3_tryAct_X0_isSound : GoodIn wsX3_tryAct (wsV RX3 70 RX0 yX0_isSound wsX0_isSound) := goodIn_app (goodIn_of _ (by decide +kernel)) ggX3_tryAct_X0_isSound
set_option maxRecDepth 20000 in
theorem ggX3_tryAct_X5_whyNot : GoodIn wsX3_tryAct wsX5_whyNot := goodIn_r _ [26, 27, 28, 29, 30, 31, 32, 33, 34, 35, 36, 25, 37, 38, 39, 40, 41, 42, 43, 44, 45, 46, 47, 18, 13, 19, 15, 16, 17, 107, 108, 109, 110, 111, 112, 113, 114, 115, 116, 117, 118, 119, 120] (by decide +kernel) (by decide +kernel)
set_option maxRecDepth 20000 in
theorem gX3_tryAct_X5_whyNot : GoodIn wsX3_tryAct (wsV RX3 74 RX5 yX5_whyNot wsX5_whyNot) := goodIn_app (goodIn_of _ (by decide +kernel)) ggX3_tryAct_X5_whyNot
set_option maxRecDepth 20000 in
theorem ggX3_tryAct_X5_perform : GoodIn wsX3_tryAct wsX5_perform := goodIn_r _ [51, 27, 30, 29, 28, 31, 47, 52, 53, 54, 25, 55, 46, 56, 57, 58, 59, 60, 61, 62, 63, 64, 32, 65, 66, 67, 68, 69, 70, 71, 72, 73, 74, 75, 76, 77, 78, 79, 33, 38, 39, 40, 41, 107, 108, 109, 110, 111, 112, 113, 114, 115, 116, 117, 118, 119, 120] (by decide +kernel) (by decide +kernel)
set_option maxRecDepth 20000 in
theorem gX3_tryAct_X5_perform : GoodIn wsX3_tryAct (wsV RX3 78 RX5 yX5_perform wsX5_perform) := goodIn_app (goodIn_of _ (by decide +kernel)) ggX3_tryAct_X5_perform
set_option maxRecDepth 20000 in
theorem ggX3_tryAct_X3_noteLoss : GoodIn wsX3_tryAct wsX3_noteLoss := goodIn_r _ [84, 85, 86, 3, 87, 88, 89, 90, 91, 92, 93, 94, 95, 96, 97, 98, 99, 100, 101, 102, 103, 104, 105, 106] (by decide +kernel) (by decide +kernel)
set_option maxRecDepth 20000 in
theorem gX3_tryAct_X3_noteLoss : GoodIn wsX3_tryAct (wsV RX3 81 RX3 yX3_noteLoss wsX3_noteLoss) := goodIn_app (goodIn_of _ (by decide +kernel)) ggX3_tryAct_X3_noteLoss
theorem dX3_tryAct_0 : decode cX3_tryAct 0 = .ok (.aload_n 0, 1) := by decide +kernel
theorem dX3_tryAct_1 : decode cX3_tryAct 1 = .ok (.getfield 21, 3) := by decide +kernel
theorem dX3_tryAct_4 : decode cX3_tryAct 4 = .ok (.invokevirtual 70, 3) := by decide +kernel
theorem dX3_tryAct_7 : decode cX3_tryAct 7 = .ok (.ifCond .eq 17, 3) := by decide +kernel
theorem dX3_tryAct_10 : decode cX3_tryAct 10 = .ok (.aload_n 0, 1) := by decide +kernel
theorem dX3_tryAct_11 : decode cX3_tryAct 11 = .ok (.getfield 12, 3) := by decide +kernel
theorem dX3_tryAct_14 : decode cX3_tryAct 14 = .ok (.aload_n 0, 1) := by decide +kernel
theorem dX3_tryAct_15 : decode cX3_tryAct 15 = .ok (.getfield 21, 3) := by decide +kernel
theorem dX3_tryAct_18 : decode cX3_tryAct 18 = .ok (.invokevirtual 74, 3) := by decide +kernel
theorem dX3_tryAct_21 : decode cX3_tryAct 21 = .ok (.goto 5, 3) := by decide +kernel
theorem dX3_tryAct_24 : decode cX3_tryAct 24 = .ok (.bipush (-5), 2) := by decide +kernel
theorem dX3_tryAct_26 : decode cX3_tryAct 26 = .ok (.istore_n 1, 1) := by decide +kernel
theorem dX3_tryAct_27 : decode cX3_tryAct 27 = .ok (.iload_n 1, 1) := by decide +kernel
theorem dX3_tryAct_28 : decode cX3_tryAct 28 = .ok (.ifCond .ne 28, 3) := by decide +kernel
theorem dX3_tryAct_31 : decode cX3_tryAct 31 = .ok (.aload_n 0, 1) := by decide +kernel
theorem dX3_tryAct_32 : decode cX3_tryAct 32 = .ok (.aload_n 0, 1) := by decide +kernel
theorem dX3_tryAct_33 : decode cX3_tryAct 33 = .ok (.getfield 12, 3) := by decide +kernel
theorem dX3_tryAct_36 : decode cX3_tryAct 36 = .ok (.aload_n 0, 1) := by decide +kernel
theorem dX3_tryAct_37 : decode cX3_tryAct 37 = .ok (.getfield 21, 3) := by decide +kernel
theorem dX3_tryAct_40 : decode cX3_tryAct 40 = .ok (.invokevirtual 78, 3) := by decide +kernel
theorem dX3_tryAct_43 : decode cX3_tryAct 43 = .ok (.invokevirtual 81, 3) := by decide +kernel
theorem dX3_tryAct_46 : decode cX3_tryAct 46 = .ok (.aload_n 0, 1) := by decide +kernel
theorem dX3_tryAct_47 : decode cX3_tryAct 47 = .ok (.dup, 1) := by decide +kernel
theorem dX3_tryAct_48 : decode cX3_tryAct 48 = .ok (.getfield 25, 3) := by decide +kernel
theorem dX3_tryAct_51 : decode cX3_tryAct 51 = .ok (.iconst 1, 1) := by decide +kernel
theorem dX3_tryAct_52 : decode cX3_tryAct 52 = .ok (.iadd, 1) := by decide +kernel
theorem dX3_tryAct_53 : decode cX3_tryAct 53 = .ok (.putfield 25, 3) := by decide +kernel
theorem dX3_tryAct_56 : decode cX3_tryAct 56 = .ok (.iload_n 1, 1) := by decide +kernel
theorem dX3_tryAct_57 : decode cX3_tryAct 57 = .ok (.ireturn, 1) := by decide +kernel
set_option maxRecDepth 20000 in
theorem ggX3_noteLoss_J6_bitCount_0f7a4 : GoodIn wsX3_noteLoss wsJ6_bitCount_0f7a4 := goodIn_r _ [8, 9, 10, 11] (by decide +kernel) (by decide +kernel)
set_option maxRecDepth 20000 in
theorem gX3_noteLoss_J6_bitCount_0f7a4 : GoodIn wsX3_noteLoss (va_wsS RX3 84 yJ6_bitCount_0f7a4 wsJ6_bitCount_0f7a4) := goodIn_app (goodIn_of _ (by decide +kernel)) ggX3_noteLoss_J6_bitCount_0f7a4
set_option maxRecDepth 20000 in
theorem ggX3_noteLoss_J6_numberOfTrailingZeros_0f7a4 : GoodIn wsX3_noteLoss wsJ6_numberOfTrailingZeros_0f7a4 := goodIn_r _ [14, 15] (by decide +kernel) (by decide +kernel)
set_option maxRecDepth 20000 in
theorem gX3_noteLoss_J6_numberOfTrailingZeros_0f7a4 : GoodIn wsX3_noteLoss (va_wsS RX3 89 yJ6_numberOfTrailingZeros_0f7a4 wsJ6_numberOfTrailingZeros_0f7a4) := goodIn_app (goodIn_of _ (by decide +kernel)) ggX3_noteLoss_J6_numberOfTrailingZeros_0f7a4
theorem dX3_noteLoss_0 : decode cX3_noteLoss 0 = .ok (.aload_n 0, 1) := by decide +kernel
theorem dX3_noteLoss_1 : decode cX3_noteLoss 1 = .ok (.dup, 1) := by decide +kernel
theorem dX3_noteLoss_2 : decode cX3_noteLoss 2 = .ok (.getfield 35, 3) := by decide +kernel
theorem dX3_noteLoss_5 : decode cX3_noteLoss 5 = .ok (.iload_n 1, 1) := by decide +kernel
theorem dX3_noteLoss_6 : decode cX3_noteLoss 6 = .ok (.invokestatic 84, 3) := by decide +kernel
theorem dX3_noteLoss_9 : decode cX3_noteLoss 9 = .ok (.iadd, 1) := by decide +kernel
theorem dX3_noteLoss_10 : decode cX3_noteLoss 10 = .ok (.putfield 35, 3) := by decide +kernel
theorem dX3_noteLoss_13 : decode cX3_noteLoss 13 = .ok (.iload_n 1, 1) := by decide +kernel
theorem dX3_noteLoss_14 : decode cX3_noteLoss 14 = .ok (.ifCond .eq 28, 3) := by decide +kernel
theorem dX3_noteLoss_17 : decode cX3_noteLoss 17 = .ok (.aload_n 0, 1) := by decide +kernel
theorem dX3_noteLoss_18 : decode cX3_noteLoss 18 = .ok (.getfield 38, 3) := by decide +kernel
theorem dX3_noteLoss_21 : decode cX3_noteLoss 21 = .ok (.bipush (-6), 2) := by decide +kernel
theorem dX3_noteLoss_23 : decode cX3_noteLoss 23 = .ok (.if_icmp .ne 19, 3) := by decide +kernel
theorem dX3_noteLoss_26 : decode cX3_noteLoss 26 = .ok (.aload_n 0, 1) := by decide +kernel
theorem dX3_noteLoss_27 : decode cX3_noteLoss 27 = .ok (.aload_n 0, 1) := by decide +kernel
theorem dX3_noteLoss_28 : decode cX3_noteLoss 28 = .ok (.getfield 25, 3) := by decide +kernel
theorem dX3_noteLoss_31 : decode cX3_noteLoss 31 = .ok (.putfield 38, 3) := by decide +kernel
theorem dX3_noteLoss_34 : decode cX3_noteLoss 34 = .ok (.aload_n 0, 1) := by decide +kernel
theorem dX3_noteLoss_35 : decode cX3_noteLoss 35 = .ok (.iload_n 1, 1) := by decide +kernel
theorem dX3_noteLoss_36 : decode cX3_noteLoss 36 = .ok (.invokestatic 89, 3) := by decide +kernel
theorem dX3_noteLoss_39 : decode cX3_noteLoss 39 = .ok (.putfield 41, 3) := by decide +kernel
theorem dX3_noteLoss_42 : decode cX3_noteLoss 42 = .ok (.return_, 1) := by decide +kernel
theorem dX4_init_0 : decode cX4_init 0 = .ok (.aload_n 0, 1) := by decide +kernel
theorem dX4_init_1 : decode cX4_init 1 = .ok (.invokespecial 3, 3) := by decide +kernel
theorem dX4_init_4 : decode cX4_init 4 = .ok (.aload_n 0, 1) := by decide +kernel
theorem dX4_init_5 : decode cX4_init 5 = .ok (.bipush 60, 2) := by decide +kernel
theorem dX4_init_7 : decode cX4_init 7 = .ok (.newarray .int, 2) := by decide +kernel
theorem dX4_init_9 : decode cX4_init 9 = .ok (.putfield 9, 3) := by decide +kernel
theorem dX4_init_12 : decode cX4_init 12 = .ok (.aload_n 0, 1) := by decide +kernel
theorem dX4_init_13 : decode cX4_init 13 = .ok (.iconst 0, 1) := by decide +kernel
theorem dX4_init_14 : decode cX4_init 14 = .ok (.putfield 15, 3) := by decide +kernel
theorem dX4_init_17 : decode cX4_init 17 = .ok (.return_, 1) := by decide +kernel
theorem dX4_append_0 : decode cX4_append 0 = .ok (.aload_n 0, 1) := by decide +kernel
theorem dX4_append_1 : decode cX4_append 1 = .ok (.getfield 15, 3) := by decide +kernel
theorem dX4_append_4 : decode cX4_append 4 = .ok (.bipush 60, 2) := by decide +kernel
theorem dX4_append_6 : decode cX4_append 6 = .ok (.if_icmp .lt 5, 3) := by decide +kernel
theorem dX4_append_9 : decode cX4_append 9 = .ok (.iconst 0, 1) := by decide +kernel
theorem dX4_append_10 : decode cX4_append 10 = .ok (.ireturn, 1) := by decide +kernel
theorem dX4_append_11 : decode cX4_append 11 = .ok (.aload_n 0, 1) := by decide +kernel
theorem dX4_append_12 : decode cX4_append 12 = .ok (.getfield 9, 3) := by decide +kernel
theorem dX4_append_15 : decode cX4_append 15 = .ok (.aload_n 0, 1) := by decide +kernel
theorem dX4_append_16 : decode cX4_append 16 = .ok (.getfield 15, 3) := by decide +kernel
theorem dX4_append_19 : decode cX4_append 19 = .ok (.iload_n 1, 1) := by decide +kernel
theorem dX4_append_20 : decode cX4_append 20 = .ok (.iastore, 1) := by decide +kernel
theorem dX4_append_21 : decode cX4_append 21 = .ok (.aload_n 0, 1) := by decide +kernel
theorem dX4_append_22 : decode cX4_append 22 = .ok (.dup, 1) := by decide +kernel
theorem dX4_append_23 : decode cX4_append 23 = .ok (.getfield 15, 3) := by decide +kernel
theorem dX4_append_26 : decode cX4_append 26 = .ok (.iconst 1, 1) := by decide +kernel
theorem dX4_append_27 : decode cX4_append 27 = .ok (.iadd, 1) := by decide +kernel
theorem dX4_append_28 : decode cX4_append 28 = .ok (.putfield 15, 3) := by decide +kernel
theorem dX4_append_31 : decode cX4_append 31 = .ok (.iconst 1, 1) := by decide +kernel
theorem dX4_append_32 : decode cX4_append 32 = .ok (.ireturn, 1) := by decide +kernel
theorem dX4_clear_0 : decode cX4_clear 0 = .ok (.aload_n 0, 1) := by decide +kernel
theorem dX4_clear_1 : decode cX4_clear 1 = .ok (.getfield 15, 3) := by decide +kernel
theorem dX4_clear_4 : decode cX4_clear 4 = .ok (.istore_n 1, 1) := by decide +kernel
theorem dX4_clear_5 : decode cX4_clear 5 = .ok (.aload_n 0, 1) := by decide +kernel
theorem dX4_clear_6 : decode cX4_clear 6 = .ok (.iconst 0, 1) := by decide +kernel
theorem dX4_clear_7 : decode cX4_clear 7 = .ok (.putfield 15, 3) := by decide +kernel
theorem dX4_clear_10 : decode cX4_clear 10 = .ok (.iload_n 1, 1) := by decide +kernel
theorem dX4_clear_11 : decode cX4_clear 11 = .ok (.ireturn, 1) := by decide +kernel
theorem dX4_signAt_0 : decode cX4_signAt 0 = .ok (.iload_n 1, 1) := by decide +kernel
theorem dX4_signAt_1 : decode cX4_signAt 1 = .ok (.ifCond .lt 26, 3) := by decide +kernel
theorem dX4_signAt_4 : decode cX4_signAt 4 = .ok (.iload_n 1, 1) := by decide +kernel
theorem dX4_signAt_5 : decode cX4_signAt 5 = .ok (.aload_n 0, 1) := by decide +kernel
theorem dX4_signAt_6 : decode cX4_signAt 6 = .ok (.getfield 15, 3) := by decide +kernel
theorem dX4_signAt_9 : decode cX4_signAt 9 = .ok (.if_icmp .ge 18, 3) := by decide +kernel
theorem dX4_signAt_12 : decode cX4_signAt 12 = .ok (.iload_n 1, 1) := by decide +kernel
theorem dX4_signAt_13 : decode cX4_signAt 13 = .ok (.bipush 60, 2) := by decide +kernel
theorem dX4_signAt_15 : decode cX4_signAt 15 = .ok (.if_icmp .ge 12, 3) := by decide +kernel
theorem dX4_signAt_18 : decode cX4_signAt 18 = .ok (.aload_n 0, 1) := by decide +kernel
theorem dX4_signAt_19 : decode cX4_signAt 19 = .ok (.getfield 9, 3) := by decide +kernel
theorem dX4_signAt_22 : decode cX4_signAt 22 = .ok (.iload_n 1, 1) := by decide +kernel
theorem dX4_signAt_23 : decode cX4_signAt 23 = .ok (.iaload, 1) := by decide +kernel
theorem dX4_signAt_24 : decode cX4_signAt 24 = .ok (.goto 4, 3) := by decide +kernel
theorem dX4_signAt_27 : decode cX4_signAt 27 = .ok (.iconst 0, 1) := by decide +kernel
theorem dX4_signAt_28 : decode cX4_signAt 28 = .ok (.ireturn, 1) := by decide +kernel
set_option maxRecDepth 20000 in
theorem ggX4_firstFault_X4_faultOfAct : GoodIn wsX4_firstFault wsX4_faultOfAct := goodIn_r _ [6, 7, 8, 9, 5, 10, 1, 11, 12, 13, 14, 15, 16, 17, 18, 19, 20, 21, 22, 23, 24, 25, 26, 27, 28, 29, 34, 35] (by decide +kernel) (by decide +kernel)
set_option maxRecDepth 20000 in
theorem gX4_firstFault_X4_faultOfAct : GoodIn wsX4_firstFault (wsV RX4 19 RX4 yX4_faultOfAct wsX4_faultOfAct) := goodIn_app (goodIn_of _ (by decide +kernel)) ggX4_firstFault_X4_faultOfAct
set_option maxRecDepth 20000 in
theorem ggX4_firstFault_X4_signsOfAct : GoodIn wsX4_firstFault wsX4_signsOfAct := goodIn_r _ [33, 7, 8, 9, 5, 10, 1, 11, 12, 13, 14, 15, 16, 17, 34, 35] (by decide +kernel) (by decide +kernel)
set_option maxRecDepth 20000 in
theorem gX4_firstFault_X4_signsOfAct : GoodIn wsX4_firstFault (wsV RX4 23 RX4 yX4_signsOfAct wsX4_signsOfAct) := goodIn_app (goodIn_of _ (by decide +kernel)) ggX4_firstFault_X4_signsOfAct
theorem dX4_firstFault_0 : decode cX4_firstFault 0 = .ok (.iconst 0, 1) := by decide +kernel
theorem dX4_firstFault_1 : decode cX4_firstFault 1 = .ok (.istore_n 1, 1) := by decide +kernel
theorem dX4_firstFault_2 : decode cX4_firstFault 2 = .ok (.iconst 0, 1) := by decide +kernel
theorem dX4_firstFault_3 : decode cX4_firstFault 3 = .ok (.istore_n 2, 1) := by decide +kernel
theorem dX4_firstFault_4 : decode cX4_firstFault 4 = .ok (.iload_n 2, 1) := by decide +kernel
theorem dX4_firstFault_5 : decode cX4_firstFault 5 = .ok (.bipush 60, 2) := by decide +kernel
theorem dX4_firstFault_7 : decode cX4_firstFault 7 = .ok (.if_icmp .ge 39, 3) := by decide +kernel
theorem dX4_firstFault_10 : decode cX4_firstFault 10 = .ok (.iload_n 1, 1) := by decide +kernel
theorem dX4_firstFault_11 : decode cX4_firstFault 11 = .ok (.aload_n 0, 1) := by decide +kernel
theorem dX4_firstFault_12 : decode cX4_firstFault 12 = .ok (.getfield 15, 3) := by decide +kernel
theorem dX4_firstFault_15 : decode cX4_firstFault 15 = .ok (.if_icmp .ge 31, 3) := by decide +kernel
theorem dX4_firstFault_18 : decode cX4_firstFault 18 = .ok (.aload_n 0, 1) := by decide +kernel
theorem dX4_firstFault_19 : decode cX4_firstFault 19 = .ok (.iload_n 1, 1) := by decide +kernel
theorem dX4_firstFault_20 : decode cX4_firstFault 20 = .ok (.invokevirtual 19, 3) := by decide +kernel
theorem dX4_firstFault_23 : decode cX4_firstFault 23 = .ok (.istore_n 3, 1) := by decide +kernel
theorem dX4_firstFault_24 : decode cX4_firstFault 24 = .ok (.iload_n 3, 1) := by decide +kernel
theorem dX4_firstFault_25 : decode cX4_firstFault 25 = .ok (.bipush (-6), 2) := by decide +kernel
theorem dX4_firstFault_27 : decode cX4_firstFault 27 = .ok (.if_icmp .eq 5, 3) := by decide +kernel
theorem dX4_firstFault_30 : decode cX4_firstFault 30 = .ok (.iload_n 3, 1) := by decide +kernel
theorem dX4_firstFault_31 : decode cX4_firstFault 31 = .ok (.ireturn, 1) := by decide +kernel
theorem dX4_firstFault_32 : decode cX4_firstFault 32 = .ok (.iload_n 1, 1) := by decide +kernel
theorem dX4_firstFault_33 : decode cX4_firstFault 33 = .ok (.aload_n 0, 1) := by decide +kernel
theorem dX4_firstFault_34 : decode cX4_firstFault 34 = .ok (.iload_n 1, 1) := by decide +kernel
theorem dX4_firstFault_35 : decode cX4_firstFault 35 = .ok (.invokevirtual 23, 3) := by decide +kernel
theorem dX4_firstFault_38 : decode cX4_firstFault 38 = .ok (.iadd, 1) := by decide +kernel
theorem dX4_firstFault_39 : decode cX4_firstFault 39 = .ok (.istore_n 1, 1) := by decide +kernel
theorem dX4_firstFault_40 : decode cX4_firstFault 40 = .ok (.iinc 2 1, 3) := by decide +kernel
theorem dX4_firstFault_43 : decode cX4_firstFault 43 = .ok (.goto (-39), 3) := by decide +kernel
theorem dX4_firstFault_46 : decode cX4_firstFault 46 = .ok (.bipush (-6), 2) := by decide +kernel
theorem dX4_firstFault_48 : decode cX4_firstFault 48 = .ok (.ireturn, 1) := by decide +kernel
set_option maxRecDepth 20000 in
theorem ggX4_faultOfAct_X4_signAt : GoodIn wsX4_faultOfAct wsX4_signAt := goodIn_r _ [5, 6, 7, 26, 27] (by decide +kernel) (by decide +kernel)
set_option maxRecDepth 20000 in
theorem gX4_faultOfAct_X4_signAt : GoodIn wsX4_faultOfAct (wsV RX4 26 RX4 yX4_signAt wsX4_signAt) := goodIn_app (goodIn_of _ (by decide +kernel)) ggX4_faultOfAct_X4_signAt
set_option maxRecDepth 20000 in
theorem ggX4_faultOfAct_X8_isPerson : GoodIn wsX4_faultOfAct wsX8_isPerson := goodIn_r _ [10, 11, 12, 9, 13] (by decide +kernel) (by decide +kernel)
set_option maxRecDepth 20000 in
theorem gX4_faultOfAct_X8_isPerson_n29 : GoodIn wsX4_faultOfAct (wsX8_isPerson) := ggX4_faultOfAct_X8_isPerson
set_option maxRecDepth 20000 in
theorem ggX4_faultOfAct_X4_faultOfPersonsAct : GoodIn wsX4_faultOfAct wsX4_faultOfPersonsAct := goodIn_r _ [17, 1, 2, 3, 4, 5, 6, 7, 8, 9, 10, 11, 12, 13, 18, 19, 26, 27] (by decide +kernel) (by decide +kernel)
set_option maxRecDepth 20000 in
theorem gX4_faultOfAct_X4_faultOfPersonsAct : GoodIn wsX4_faultOfAct (wsV RX4 33 RX4 yX4_faultOfPersonsAct wsX4_faultOfPersonsAct) := goodIn_app (goodIn_of _ (by decide +kernel)) ggX4_faultOfAct_X4_faultOfPersonsAct
set_option maxRecDepth 20000 in
theorem ggX4_faultOfAct_X8_isReader : GoodIn wsX4_faultOfAct wsX8_isReader := goodIn_r _ [21, 11, 12, 9, 13] (by decide +kernel) (by decide +kernel)
set_option maxRecDepth 20000 in
theorem gX4_faultOfAct_X8_isReader_n36 : GoodIn wsX4_faultOfAct (wsX8_isReader) := ggX4_faultOfAct_X8_isReader
set_option maxRecDepth 20000 in
theorem ggX4_faultOfAct_X4_faultOfReadersAct : GoodIn wsX4_faultOfAct wsX4_faultOfReadersAct := goodIn_r _ [25, 1, 2, 3, 4, 5, 6, 7, 8, 9, 10, 11, 12, 13, 26, 27] (by decide +kernel) (by decide +kernel)
set_option maxRecDepth 20000 in
theorem gX4_faultOfAct_X4_faultOfReadersAct : GoodIn wsX4_faultOfAct (wsV RX4 39 RX4 yX4_faultOfReadersAct wsX4_faultOfReadersAct) := goodIn_app (goodIn_of _ (by decide +kernel)) ggX4_faultOfAct_X4_faultOfReadersAct
theorem dX4_faultOfAct_0 : decode cX4_faultOfAct 0 = .ok (.aload_n 0, 1) := by decide +kernel
theorem dX4_faultOfAct_1 : decode cX4_faultOfAct 1 = .ok (.iload_n 1, 1) := by decide +kernel
theorem dX4_faultOfAct_2 : decode cX4_faultOfAct 2 = .ok (.invokevirtual 26, 3) := by decide +kernel
theorem dX4_faultOfAct_5 : decode cX4_faultOfAct 5 = .ok (.istore_n 2, 1) := by decide +kernel
theorem dX4_faultOfAct_6 : decode cX4_faultOfAct 6 = .ok (.iload_n 2, 1) := by decide +kernel
theorem dX4_faultOfAct_7 : decode cX4_faultOfAct 7 = .ok (.bipush 46, 2) := by decide +kernel
theorem dX4_faultOfAct_9 : decode cX4_faultOfAct 9 = .ok (.if_icmp .ne 6, 3) := by decide +kernel
theorem dX4_faultOfAct_12 : decode cX4_faultOfAct 12 = .ok (.bipush (-6), 2) := by decide +kernel
theorem dX4_faultOfAct_14 : decode cX4_faultOfAct 14 = .ok (.ireturn, 1) := by decide +kernel
theorem dX4_faultOfAct_15 : decode cX4_faultOfAct 15 = .ok (.iload_n 2, 1) := by decide +kernel
theorem dX4_faultOfAct_16 : decode cX4_faultOfAct 16 = .ok (.bipush 65, 2) := by decide +kernel
theorem dX4_faultOfAct_18 : decode cX4_faultOfAct 18 = .ok (.isub, 1) := by decide +kernel
theorem dX4_faultOfAct_19 : decode cX4_faultOfAct 19 = .ok (.invokestatic 29, 3) := by decide +kernel
theorem dX4_faultOfAct_22 : decode cX4_faultOfAct 22 = .ok (.ifCond .eq 9, 3) := by decide +kernel
theorem dX4_faultOfAct_25 : decode cX4_faultOfAct 25 = .ok (.aload_n 0, 1) := by decide +kernel
theorem dX4_faultOfAct_26 : decode cX4_faultOfAct 26 = .ok (.iload_n 1, 1) := by decide +kernel
theorem dX4_faultOfAct_27 : decode cX4_faultOfAct 27 = .ok (.invokevirtual 33, 3) := by decide +kernel
theorem dX4_faultOfAct_30 : decode cX4_faultOfAct 30 = .ok (.ireturn, 1) := by decide +kernel
theorem dX4_faultOfAct_31 : decode cX4_faultOfAct 31 = .ok (.iload_n 2, 1) := by decide +kernel
theorem dX4_faultOfAct_32 : decode cX4_faultOfAct 32 = .ok (.bipush 48, 2) := by decide +kernel
theorem dX4_faultOfAct_34 : decode cX4_faultOfAct 34 = .ok (.isub, 1) := by decide +kernel
theorem dX4_faultOfAct_35 : decode cX4_faultOfAct 35 = .ok (.invokestatic 36, 3) := by decide +kernel
theorem dX4_faultOfAct_38 : decode cX4_faultOfAct 38 = .ok (.ifCond .eq 11, 3) := by decide +kernel
theorem dX4_faultOfAct_41 : decode cX4_faultOfAct 41 = .ok (.aload_n 0, 1) := by decide +kernel
theorem dX4_faultOfAct_42 : decode cX4_faultOfAct 42 = .ok (.iload_n 1, 1) := by decide +kernel
theorem dX4_faultOfAct_43 : decode cX4_faultOfAct 43 = .ok (.invokevirtual 39, 3) := by decide +kernel
theorem dX4_faultOfAct_46 : decode cX4_faultOfAct 46 = .ok (.goto 4, 3) := by decide +kernel
theorem dX4_faultOfAct_49 : decode cX4_faultOfAct 49 = .ok (.iload_n 1, 1) := by decide +kernel
theorem dX4_faultOfAct_50 : decode cX4_faultOfAct 50 = .ok (.ireturn, 1) := by decide +kernel
set_option maxRecDepth 20000 in
theorem ggX4_faultOfPersonsAct_X4_signAt : GoodIn wsX4_faultOfPersonsAct wsX4_signAt := goodIn_r _ [5, 6, 7, 16, 17] (by decide +kernel) (by decide +kernel)
set_option maxRecDepth 20000 in
theorem gX4_faultOfPersonsAct_X4_signAt : GoodIn wsX4_faultOfPersonsAct (wsV RX4 26 RX4 yX4_signAt wsX4_signAt) := goodIn_app (goodIn_of _ (by decide +kernel)) ggX4_faultOfPersonsAct_X4_signAt
set_option maxRecDepth 20000 in
theorem ggX4_faultOfPersonsAct_X8_isPerson : GoodIn wsX4_faultOfPersonsAct wsX8_isPerson := goodIn_r _ [10, 11, 12, 9, 13] (by decide +kernel) (by decide +kernel)
set_option maxRecDepth 20000 in
theorem gX4_faultOfPersonsAct_X8_isPerson_n29 : GoodIn wsX4_faultOfPersonsAct (wsX8_isPerson) := ggX4_faultOfPersonsAct_X8_isPerson
set_option maxRecDepth 20000 in
theorem ggX4_faultOfPersonsAct_X8_isCell : GoodIn wsX4_faultOfPersonsAct wsX8_isCell := goodIn_r _ [15, 11, 12, 9, 13] (by decide +kernel) (by decide +kernel)
set_option maxRecDepth 20000 in
theorem gX4_faultOfPersonsAct_X8_isCell_n42 : GoodIn wsX4_faultOfPersonsAct (wsX8_isCell) := ggX4_faultOfPersonsAct_X8_isCell
theorem dX4_faultOfPersonsAct_0 : decode cX4_faultOfPersonsAct 0 = .ok (.aload_n 0, 1) := by decide +kernel
theorem dX4_faultOfPersonsAct_1 : decode cX4_faultOfPersonsAct 1 = .ok (.iload_n 1, 1) := by decide +kernel
theorem dX4_faultOfPersonsAct_2 : decode cX4_faultOfPersonsAct 2 = .ok (.iconst 1, 1) := by decide +kernel
theorem dX4_faultOfPersonsAct_3 : decode cX4_faultOfPersonsAct 3 = .ok (.iadd, 1) := by decide +kernel
theorem dX4_faultOfPersonsAct_4 : decode cX4_faultOfPersonsAct 4 = .ok (.invokevirtual 26, 3) := by decide +kernel
theorem dX4_faultOfPersonsAct_7 : decode cX4_faultOfPersonsAct 7 = .ok (.istore_n 2, 1) := by decide +kernel
theorem dX4_faultOfPersonsAct_8 : decode cX4_faultOfPersonsAct 8 = .ok (.aload_n 0, 1) := by decide +kernel
theorem dX4_faultOfPersonsAct_9 : decode cX4_faultOfPersonsAct 9 = .ok (.iload_n 1, 1) := by decide +kernel
theorem dX4_faultOfPersonsAct_10 : decode cX4_faultOfPersonsAct 10 = .ok (.iconst 2, 1) := by decide +kernel
theorem dX4_faultOfPersonsAct_11 : decode cX4_faultOfPersonsAct 11 = .ok (.iadd, 1) := by decide +kernel
theorem dX4_faultOfPersonsAct_12 : decode cX4_faultOfPersonsAct 12 = .ok (.invokevirtual 26, 3) := by decide +kernel
theorem dX4_faultOfPersonsAct_15 : decode cX4_faultOfPersonsAct 15 = .ok (.istore_n 3, 1) := by decide +kernel
theorem dX4_faultOfPersonsAct_16 : decode cX4_faultOfPersonsAct 16 = .ok (.iload_n 2, 1) := by decide +kernel
theorem dX4_faultOfPersonsAct_17 : decode cX4_faultOfPersonsAct 17 = .ok (.bipush 62, 2) := by decide +kernel
theorem dX4_faultOfPersonsAct_19 : decode cX4_faultOfPersonsAct 19 = .ok (.if_icmp .ne 22, 3) := by decide +kernel
theorem dX4_faultOfPersonsAct_22 : decode cX4_faultOfPersonsAct 22 = .ok (.iload_n 3, 1) := by decide +kernel
theorem dX4_faultOfPersonsAct_23 : decode cX4_faultOfPersonsAct 23 = .ok (.bipush 65, 2) := by decide +kernel
theorem dX4_faultOfPersonsAct_25 : decode cX4_faultOfPersonsAct 25 = .ok (.isub, 1) := by decide +kernel
theorem dX4_faultOfPersonsAct_26 : decode cX4_faultOfPersonsAct 26 = .ok (.invokestatic 29, 3) := by decide +kernel
theorem dX4_faultOfPersonsAct_29 : decode cX4_faultOfPersonsAct 29 = .ok (.ifCond .eq 8, 3) := by decide +kernel
theorem dX4_faultOfPersonsAct_32 : decode cX4_faultOfPersonsAct 32 = .ok (.bipush (-6), 2) := by decide +kernel
theorem dX4_faultOfPersonsAct_34 : decode cX4_faultOfPersonsAct 34 = .ok (.goto 6, 3) := by decide +kernel
theorem dX4_faultOfPersonsAct_37 : decode cX4_faultOfPersonsAct 37 = .ok (.iload_n 1, 1) := by decide +kernel
theorem dX4_faultOfPersonsAct_38 : decode cX4_faultOfPersonsAct 38 = .ok (.iconst 2, 1) := by decide +kernel
theorem dX4_faultOfPersonsAct_39 : decode cX4_faultOfPersonsAct 39 = .ok (.iadd, 1) := by decide +kernel
theorem dX4_faultOfPersonsAct_40 : decode cX4_faultOfPersonsAct 40 = .ok (.ireturn, 1) := by decide +kernel
theorem dX4_faultOfPersonsAct_41 : decode cX4_faultOfPersonsAct 41 = .ok (.iload_n 2, 1) := by decide +kernel
theorem dX4_faultOfPersonsAct_42 : decode cX4_faultOfPersonsAct 42 = .ok (.bipush 64, 2) := by decide +kernel
theorem dX4_faultOfPersonsAct_44 : decode cX4_faultOfPersonsAct 44 = .ok (.if_icmp .ne 22, 3) := by decide +kernel
theorem dX4_faultOfPersonsAct_47 : decode cX4_faultOfPersonsAct 47 = .ok (.iload_n 3, 1) := by decide +kernel
theorem dX4_faultOfPersonsAct_48 : decode cX4_faultOfPersonsAct 48 = .ok (.bipush 97, 2) := by decide +kernel
theorem dX4_faultOfPersonsAct_50 : decode cX4_faultOfPersonsAct 50 = .ok (.isub, 1) := by decide +kernel
theorem dX4_faultOfPersonsAct_51 : decode cX4_faultOfPersonsAct 51 = .ok (.invokestatic 42, 3) := by decide +kernel
theorem dX4_faultOfPersonsAct_54 : decode cX4_faultOfPersonsAct 54 = .ok (.ifCond .eq 8, 3) := by decide +kernel
theorem dX4_faultOfPersonsAct_57 : decode cX4_faultOfPersonsAct 57 = .ok (.bipush (-6), 2) := by decide +kernel
theorem dX4_faultOfPersonsAct_59 : decode cX4_faultOfPersonsAct 59 = .ok (.goto 6, 3) := by decide +kernel
theorem dX4_faultOfPersonsAct_62 : decode cX4_faultOfPersonsAct 62 = .ok (.iload_n 1, 1) := by decide +kernel
theorem dX4_faultOfPersonsAct_63 : decode cX4_faultOfPersonsAct 63 = .ok (.iconst 2, 1) := by decide +kernel
theorem dX4_faultOfPersonsAct_64 : decode cX4_faultOfPersonsAct 64 = .ok (.iadd, 1) := by decide +kernel
theorem dX4_faultOfPersonsAct_65 : decode cX4_faultOfPersonsAct 65 = .ok (.ireturn, 1) := by decide +kernel
theorem dX4_faultOfPersonsAct_66 : decode cX4_faultOfPersonsAct 66 = .ok (.iload_n 1, 1) := by decide +kernel
theorem dX4_faultOfPersonsAct_67 : decode cX4_faultOfPersonsAct 67 = .ok (.iconst 1, 1) := by decide +kernel
theorem dX4_faultOfPersonsAct_68 : decode cX4_faultOfPersonsAct 68 = .ok (.iadd, 1) := by decide +kernel
theorem dX4_faultOfPersonsAct_69 : decode cX4_faultOfPersonsAct 69 = .ok (.ireturn, 1) := by decide +kernel
set_option maxRecDepth 20000 in
theorem ggX4_faultOfReadersAct_X4_signAt : GoodIn wsX4_faultOfReadersAct wsX4_signAt := goodIn_r _ [5, 6, 7, 14, 15] (by decide +kernel) (by decide +kernel)
set_option maxRecDepth 20000 in
theorem gX4_faultOfReadersAct_X4_signAt : GoodIn wsX4_faultOfReadersAct (wsV RX4 26 RX4 yX4_signAt wsX4_signAt) := goodIn_app (goodIn_of _ (by decide +kernel)) ggX4_faultOfReadersAct_X4_signAt
set_option maxRecDepth 20000 in
theorem ggX4_faultOfReadersAct_X8_isPerson : GoodIn wsX4_faultOfReadersAct wsX8_isPerson := goodIn_r _ [10, 11, 12, 9, 13] (by decide +kernel) (by decide +kernel)
set_option maxRecDepth 20000 in
theorem gX4_faultOfReadersAct_X8_isPerson_n29 : GoodIn wsX4_faultOfReadersAct (wsX8_isPerson) := ggX4_faultOfReadersAct_X8_isPerson
theorem dX4_faultOfReadersAct_0 : decode cX4_faultOfReadersAct 0 = .ok (.aload_n 0, 1) := by decide +kernel
theorem dX4_faultOfReadersAct_1 : decode cX4_faultOfReadersAct 1 = .ok (.iload_n 1, 1) := by decide +kernel
theorem dX4_faultOfReadersAct_2 : decode cX4_faultOfReadersAct 2 = .ok (.iconst 1, 1) := by decide +kernel
theorem dX4_faultOfReadersAct_3 : decode cX4_faultOfReadersAct 3 = .ok (.iadd, 1) := by decide +kernel
theorem dX4_faultOfReadersAct_4 : decode cX4_faultOfReadersAct 4 = .ok (.invokevirtual 26, 3) := by decide +kernel
theorem dX4_faultOfReadersAct_7 : decode cX4_faultOfReadersAct 7 = .ok (.istore_n 2, 1) := by decide +kernel
theorem dX4_faultOfReadersAct_8 : decode cX4_faultOfReadersAct 8 = .ok (.iload_n 2, 1) := by decide +kernel
theorem dX4_faultOfReadersAct_9 : decode cX4_faultOfReadersAct 9 = .ok (.bipush 62, 2) := by decide +kernel
theorem dX4_faultOfReadersAct_11 : decode cX4_faultOfReadersAct 11 = .ok (.if_icmp .eq 9, 3) := by decide +kernel
theorem dX4_faultOfReadersAct_14 : decode cX4_faultOfReadersAct 14 = .ok (.iload_n 2, 1) := by decide +kernel
theorem dX4_faultOfReadersAct_15 : decode cX4_faultOfReadersAct 15 = .ok (.bipush 60, 2) := by decide +kernel
theorem dX4_faultOfReadersAct_17 : decode cX4_faultOfReadersAct 17 = .ok (.if_icmp .ne 6, 3) := by decide +kernel
theorem dX4_faultOfReadersAct_20 : decode cX4_faultOfReadersAct 20 = .ok (.bipush (-6), 2) := by decide +kernel
theorem dX4_faultOfReadersAct_22 : decode cX4_faultOfReadersAct 22 = .ok (.ireturn, 1) := by decide +kernel
theorem dX4_faultOfReadersAct_23 : decode cX4_faultOfReadersAct 23 = .ok (.iload_n 2, 1) := by decide +kernel
theorem dX4_faultOfReadersAct_24 : decode cX4_faultOfReadersAct 24 = .ok (.bipush 63, 2) := by decide +kernel
theorem dX4_faultOfReadersAct_26 : decode cX4_faultOfReadersAct 26 = .ok (.if_icmp .ne 28, 3) := by decide +kernel
theorem dX4_faultOfReadersAct_29 : decode cX4_faultOfReadersAct 29 = .ok (.aload_n 0, 1) := by decide +kernel
theorem dX4_faultOfReadersAct_30 : decode cX4_faultOfReadersAct 30 = .ok (.iload_n 1, 1) := by decide +kernel
theorem dX4_faultOfReadersAct_31 : decode cX4_faultOfReadersAct 31 = .ok (.iconst 2, 1) := by decide +kernel
theorem dX4_faultOfReadersAct_32 : decode cX4_faultOfReadersAct 32 = .ok (.iadd, 1) := by decide +kernel
theorem dX4_faultOfReadersAct_33 : decode cX4_faultOfReadersAct 33 = .ok (.invokevirtual 26, 3) := by decide +kernel
theorem dX4_faultOfReadersAct_36 : decode cX4_faultOfReadersAct 36 = .ok (.bipush 65, 2) := by decide +kernel
theorem dX4_faultOfReadersAct_38 : decode cX4_faultOfReadersAct 38 = .ok (.isub, 1) := by decide +kernel
theorem dX4_faultOfReadersAct_39 : decode cX4_faultOfReadersAct 39 = .ok (.invokestatic 29, 3) := by decide +kernel
theorem dX4_faultOfReadersAct_42 : decode cX4_faultOfReadersAct 42 = .ok (.ifCond .eq 8, 3) := by decide +kernel
theorem dX4_faultOfReadersAct_45 : decode cX4_faultOfReadersAct 45 = .ok (.bipush (-6), 2) := by decide +kernel
theorem dX4_faultOfReadersAct_47 : decode cX4_faultOfReadersAct 47 = .ok (.goto 6, 3) := by decide +kernel
theorem dX4_faultOfReadersAct_50 : decode cX4_faultOfReadersAct 50 = .ok (.iload_n 1, 1) := by decide +kernel
theorem dX4_faultOfReadersAct_51 : decode cX4_faultOfReadersAct 51 = .ok (.iconst 2, 1) := by decide +kernel
theorem dX4_faultOfReadersAct_52 : decode cX4_faultOfReadersAct 52 = .ok (.iadd, 1) := by decide +kernel
theorem dX4_faultOfReadersAct_53 : decode cX4_faultOfReadersAct 53 = .ok (.ireturn, 1) := by decide +kernel
theorem dX4_faultOfReadersAct_54 : decode cX4_faultOfReadersAct 54 = .ok (.iload_n 1, 1) := by decide +kernel
theorem dX4_faultOfReadersAct_55 : decode cX4_faultOfReadersAct 55 = .ok (.iconst 1, 1) := by decide +kernel
theorem dX4_faultOfReadersAct_56 : decode cX4_faultOfReadersAct 56 = .ok (.iadd, 1) := by decide +kernel
theorem dX4_faultOfReadersAct_57 : decode cX4_faultOfReadersAct 57 = .ok (.ireturn, 1) := by decide +kernel
set_option maxRecDepth 20000 in
theorem ggX4_signsOfAct_X4_signAt : GoodIn wsX4_signsOfAct wsX4_signAt := goodIn_r _ [5, 6, 7, 14, 15] (by decide +kernel) (by decide +kernel)
set_option maxRecDepth 20000 in
theorem gX4_signsOfAct_X4_signAt : GoodIn wsX4_signsOfAct (wsV RX4 26 RX4 yX4_signAt wsX4_signAt) := goodIn_app (goodIn_of _ (by decide +kernel)) ggX4_signsOfAct_X4_signAt
set_option maxRecDepth 20000 in
theorem ggX4_signsOfAct_X8_isPerson : GoodIn wsX4_signsOfAct wsX8_isPerson := goodIn_r _ [10, 11, 12, 9, 13] (by decide +kernel) (by decide +kernel)
set_option maxRecDepth 20000 in
theorem gX4_signsOfAct_X8_isPerson_n29 : GoodIn wsX4_signsOfAct (wsX8_isPerson) := ggX4_signsOfAct_X8_isPerson
theorem dX4_signsOfAct_0 : decode cX4_signsOfAct 0 = .ok (.aload_n 0, 1) := by decide +kernel
theorem dX4_signsOfAct_1 : decode cX4_signsOfAct 1 = .ok (.iload_n 1, 1) := by decide +kernel
theorem dX4_signsOfAct_2 : decode cX4_signsOfAct 2 = .ok (.invokevirtual 26, 3) := by decide +kernel
theorem dX4_signsOfAct_5 : decode cX4_signsOfAct 5 = .ok (.istore_n 2, 1) := by decide +kernel
theorem dX4_signsOfAct_6 : decode cX4_signsOfAct 6 = .ok (.iload_n 2, 1) := by decide +kernel
theorem dX4_signsOfAct_7 : decode cX4_signsOfAct 7 = .ok (.bipush 46, 2) := by decide +kernel
theorem dX4_signsOfAct_9 : decode cX4_signsOfAct 9 = .ok (.if_icmp .ne 5, 3) := by decide +kernel
theorem dX4_signsOfAct_12 : decode cX4_signsOfAct 12 = .ok (.iconst 1, 1) := by decide +kernel
theorem dX4_signsOfAct_13 : decode cX4_signsOfAct 13 = .ok (.ireturn, 1) := by decide +kernel
theorem dX4_signsOfAct_14 : decode cX4_signsOfAct 14 = .ok (.iload_n 2, 1) := by decide +kernel
theorem dX4_signsOfAct_15 : decode cX4_signsOfAct 15 = .ok (.bipush 65, 2) := by decide +kernel
theorem dX4_signsOfAct_17 : decode cX4_signsOfAct 17 = .ok (.isub, 1) := by decide +kernel
theorem dX4_signsOfAct_18 : decode cX4_signsOfAct 18 = .ok (.invokestatic 29, 3) := by decide +kernel
theorem dX4_signsOfAct_21 : decode cX4_signsOfAct 21 = .ok (.ifCond .ne 15, 3) := by decide +kernel
theorem dX4_signsOfAct_24 : decode cX4_signsOfAct 24 = .ok (.aload_n 0, 1) := by decide +kernel
theorem dX4_signsOfAct_25 : decode cX4_signsOfAct 25 = .ok (.iload_n 1, 1) := by decide +kernel
theorem dX4_signsOfAct_26 : decode cX4_signsOfAct 26 = .ok (.iconst 1, 1) := by decide +kernel
theorem dX4_signsOfAct_27 : decode cX4_signsOfAct 27 = .ok (.iadd, 1) := by decide +kernel
theorem dX4_signsOfAct_28 : decode cX4_signsOfAct 28 = .ok (.invokevirtual 26, 3) := by decide +kernel
theorem dX4_signsOfAct_31 : decode cX4_signsOfAct 31 = .ok (.bipush 63, 2) := by decide +kernel
theorem dX4_signsOfAct_33 : decode cX4_signsOfAct 33 = .ok (.if_icmp .ne 7, 3) := by decide +kernel
theorem dX4_signsOfAct_36 : decode cX4_signsOfAct 36 = .ok (.iconst 3, 1) := by decide +kernel
theorem dX4_signsOfAct_37 : decode cX4_signsOfAct 37 = .ok (.goto 4, 3) := by decide +kernel
theorem dX4_signsOfAct_40 : decode cX4_signsOfAct 40 = .ok (.iconst 2, 1) := by decide +kernel
theorem dX4_signsOfAct_41 : decode cX4_signsOfAct 41 = .ok (.ireturn, 1) := by decide +kernel
set_option maxRecDepth 20000 in
theorem ggX4_actAt_X4_signAt : GoodIn wsX4_actAt wsX4_signAt := goodIn_r _ [5, 6, 7, 22, 23] (by decide +kernel) (by decide +kernel)
set_option maxRecDepth 20000 in
theorem gX4_actAt_X4_signAt : GoodIn wsX4_actAt (wsV RX4 26 RX4 yX4_signAt wsX4_signAt) := goodIn_app (goodIn_of _ (by decide +kernel)) ggX4_actAt_X4_signAt
set_option maxRecDepth 20000 in
theorem ggX4_actAt_X0_set : GoodIn wsX4_actAt wsX0_set := goodIn_r _ [12, 13, 14, 15, 24, 25, 26] (by decide +kernel) (by decide +kernel)
set_option maxRecDepth 20000 in
theorem gX4_actAt_X0_set : GoodIn wsX4_actAt (wsV RX4 45 RX0 yX0_set wsX0_set) := goodIn_app (goodIn_of _ (by decide +kernel)) ggX4_actAt_X0_set
set_option maxRecDepth 20000 in
theorem ggX4_actAt_X8_isReader : GoodIn wsX4_actAt wsX8_isReader := goodIn_r _ [18, 19, 20, 17, 21] (by decide +kernel) (by decide +kernel)
set_option maxRecDepth 20000 in
theorem gX4_actAt_X8_isReader_n36 : GoodIn wsX4_actAt (wsX8_isReader) := ggX4_actAt_X8_isReader
theorem dX4_actAt_0 : decode cX4_actAt 0 = .ok (.aload_n 0, 1) := by decide +kernel
theorem dX4_actAt_1 : decode cX4_actAt 1 = .ok (.iload_n 1, 1) := by decide +kernel
theorem dX4_actAt_2 : decode cX4_actAt 2 = .ok (.invokevirtual 26, 3) := by decide +kernel
theorem dX4_actAt_5 : decode cX4_actAt 5 = .ok (.istore_n 3, 1) := by decide +kernel
theorem dX4_actAt_6 : decode cX4_actAt 6 = .ok (.aload_n 0, 1) := by decide +kernel
theorem dX4_actAt_7 : decode cX4_actAt 7 = .ok (.iload_n 1, 1) := by decide +kernel
theorem dX4_actAt_8 : decode cX4_actAt 8 = .ok (.iconst 1, 1) := by decide +kernel
theorem dX4_actAt_9 : decode cX4_actAt 9 = .ok (.iadd, 1) := by decide +kernel
theorem dX4_actAt_10 : decode cX4_actAt 10 = .ok (.invokevirtual 26, 3) := by decide +kernel
theorem dX4_actAt_13 : decode cX4_actAt 13 = .ok (.istore 4, 2) := by decide +kernel
theorem dX4_actAt_15 : decode cX4_actAt 15 = .ok (.aload_n 0, 1) := by decide +kernel
theorem dX4_actAt_16 : decode cX4_actAt 16 = .ok (.iload_n 1, 1) := by decide +kernel
theorem dX4_actAt_17 : decode cX4_actAt 17 = .ok (.iconst 2, 1) := by decide +kernel
theorem dX4_actAt_18 : decode cX4_actAt 18 = .ok (.iadd, 1) := by decide +kernel
theorem dX4_actAt_19 : decode cX4_actAt 19 = .ok (.invokevirtual 26, 3) := by decide +kernel
theorem dX4_actAt_22 : decode cX4_actAt 22 = .ok (.istore 5, 2) := by decide +kernel
theorem dX4_actAt_24 : decode cX4_actAt 24 = .ok (.iload_n 3, 1) := by decide +kernel
theorem dX4_actAt_25 : decode cX4_actAt 25 = .ok (.bipush 46, 2) := by decide +kernel
theorem dX4_actAt_27 : decode cX4_actAt 27 = .ok (.if_icmp .ne 13, 3) := by decide +kernel
theorem dX4_actAt_30 : decode cX4_actAt 30 = .ok (.aload_n 2, 1) := by decide +kernel
theorem dX4_actAt_31 : decode cX4_actAt 31 = .ok (.iconst 4, 1) := by decide +kernel
theorem dX4_actAt_32 : decode cX4_actAt 32 = .ok (.iconst 0, 1) := by decide +kernel
theorem dX4_actAt_33 : decode cX4_actAt 33 = .ok (.iconst 0, 1) := by decide +kernel
theorem dX4_actAt_34 : decode cX4_actAt 34 = .ok (.invokevirtual 45, 3) := by decide +kernel
theorem dX4_actAt_37 : decode cX4_actAt 37 = .ok (.goto 99, 3) := by decide +kernel
theorem dX4_actAt_40 : decode cX4_actAt 40 = .ok (.iload_n 3, 1) := by decide +kernel
theorem dX4_actAt_41 : decode cX4_actAt 41 = .ok (.bipush 48, 2) := by decide +kernel
theorem dX4_actAt_43 : decode cX4_actAt 43 = .ok (.isub, 1) := by decide +kernel
theorem dX4_actAt_44 : decode cX4_actAt 44 = .ok (.invokestatic 36, 3) := by decide +kernel
theorem dX4_actAt_47 : decode cX4_actAt 47 = .ok (.ifCond .eq 51, 3) := by decide +kernel
theorem dX4_actAt_50 : decode cX4_actAt 50 = .ok (.iload 4, 2) := by decide +kernel
theorem dX4_actAt_52 : decode cX4_actAt 52 = .ok (.bipush 63, 2) := by decide +kernel
theorem dX4_actAt_54 : decode cX4_actAt 54 = .ok (.if_icmp .ne 20, 3) := by decide +kernel
theorem dX4_actAt_57 : decode cX4_actAt 57 = .ok (.aload_n 2, 1) := by decide +kernel
theorem dX4_actAt_58 : decode cX4_actAt 58 = .ok (.iconst 3, 1) := by decide +kernel
theorem dX4_actAt_59 : decode cX4_actAt 59 = .ok (.iload_n 3, 1) := by decide +kernel
theorem dX4_actAt_60 : decode cX4_actAt 60 = .ok (.bipush 48, 2) := by decide +kernel
theorem dX4_actAt_62 : decode cX4_actAt 62 = .ok (.isub, 1) := by decide +kernel
theorem dX4_actAt_63 : decode cX4_actAt 63 = .ok (.iload 5, 2) := by decide +kernel
theorem dX4_actAt_65 : decode cX4_actAt 65 = .ok (.bipush 65, 2) := by decide +kernel
theorem dX4_actAt_67 : decode cX4_actAt 67 = .ok (.isub, 1) := by decide +kernel
theorem dX4_actAt_68 : decode cX4_actAt 68 = .ok (.invokevirtual 45, 3) := by decide +kernel
theorem dX4_actAt_71 : decode cX4_actAt 71 = .ok (.goto 65, 3) := by decide +kernel
theorem dX4_actAt_74 : decode cX4_actAt 74 = .ok (.aload_n 2, 1) := by decide +kernel
theorem dX4_actAt_75 : decode cX4_actAt 75 = .ok (.iconst 2, 1) := by decide +kernel
theorem dX4_actAt_76 : decode cX4_actAt 76 = .ok (.iload_n 3, 1) := by decide +kernel
theorem dX4_actAt_77 : decode cX4_actAt 77 = .ok (.bipush 48, 2) := by decide +kernel
theorem dX4_actAt_79 : decode cX4_actAt 79 = .ok (.isub, 1) := by decide +kernel
