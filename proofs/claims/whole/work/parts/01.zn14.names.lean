theorem dX9_lying_23 : decode cX9_lying 23 = .ok (.goto 4, 3) := by decide +kernel
theorem dX9_lying_26 : decode cX9_lying 26 = .ok (.iconst 0, 1) := by decide +kernel
theorem dX9_lying_27 : decode cX9_lying 27 = .ok (.ior, 1) := by decide +kernel
theorem dX9_lying_28 : decode cX9_lying 28 = .ok (.istore_n 1, 1) := by decide +kernel
theorem dX9_lying_29 : decode cX9_lying 29 = .ok (.iinc 2 1, 3) := by decide +kernel
theorem dX9_lying_32 : decode cX9_lying 32 = .ok (.goto (-28), 3) := by decide +kernel
theorem dX9_lying_35 : decode cX9_lying 35 = .ok (.iload_n 1, 1) := by decide +kernel
theorem dX9_lying_36 : decode cX9_lying 36 = .ok (.ireturn, 1) := by decide +kernel
theorem dX9_figures_0 : decode cX9_figures 0 = .ok (.iconst 0, 1) := by decide +kernel
theorem dX9_figures_1 : decode cX9_figures 1 = .ok (.istore_n 1, 1) := by decide +kernel
theorem dX9_figures_2 : decode cX9_figures 2 = .ok (.iconst 0, 1) := by decide +kernel
theorem dX9_figures_3 : decode cX9_figures 3 = .ok (.istore_n 2, 1) := by decide +kernel
theorem dX9_figures_4 : decode cX9_figures 4 = .ok (.iload_n 2, 1) := by decide +kernel
theorem dX9_figures_5 : decode cX9_figures 5 = .ok (.bipush 8, 2) := by decide +kernel
theorem dX9_figures_7 : decode cX9_figures 7 = .ok (.if_icmp .ge 18, 3) := by decide +kernel
theorem dX9_figures_10 : decode cX9_figures 10 = .ok (.iload_n 1, 1) := by decide +kernel
theorem dX9_figures_11 : decode cX9_figures 11 = .ok (.aload_n 0, 1) := by decide +kernel
theorem dX9_figures_12 : decode cX9_figures 12 = .ok (.getfield 22, 3) := by decide +kernel
theorem dX9_figures_15 : decode cX9_figures 15 = .ok (.iload_n 2, 1) := by decide +kernel
theorem dX9_figures_16 : decode cX9_figures 16 = .ok (.iaload, 1) := by decide +kernel
theorem dX9_figures_17 : decode cX9_figures 17 = .ok (.iadd, 1) := by decide +kernel
theorem dX9_figures_18 : decode cX9_figures 18 = .ok (.istore_n 1, 1) := by decide +kernel
theorem dX9_figures_19 : decode cX9_figures 19 = .ok (.iinc 2 1, 3) := by decide +kernel
theorem dX9_figures_22 : decode cX9_figures 22 = .ok (.goto (-18), 3) := by decide +kernel
theorem dX9_figures_25 : decode cX9_figures 25 = .ok (.iload_n 1, 1) := by decide +kernel
theorem dX9_figures_26 : decode cX9_figures 26 = .ok (.ireturn, 1) := by decide +kernel
theorem dX9_mostNoted_0 : decode cX9_mostNoted 0 = .ok (.iconst 0, 1) := by decide +kernel
theorem dX9_mostNoted_1 : decode cX9_mostNoted 1 = .ok (.istore_n 1, 1) := by decide +kernel
theorem dX9_mostNoted_2 : decode cX9_mostNoted 2 = .ok (.iconst 1, 1) := by decide +kernel
theorem dX9_mostNoted_3 : decode cX9_mostNoted 3 = .ok (.istore_n 2, 1) := by decide +kernel
theorem dX9_mostNoted_4 : decode cX9_mostNoted 4 = .ok (.iload_n 2, 1) := by decide +kernel
theorem dX9_mostNoted_5 : decode cX9_mostNoted 5 = .ok (.bipush 8, 2) := by decide +kernel
theorem dX9_mostNoted_7 : decode cX9_mostNoted 7 = .ok (.if_icmp .ge 30, 3) := by decide +kernel
theorem dX9_mostNoted_10 : decode cX9_mostNoted 10 = .ok (.aload_n 0, 1) := by decide +kernel
theorem dX9_mostNoted_11 : decode cX9_mostNoted 11 = .ok (.getfield 13, 3) := by decide +kernel
theorem dX9_mostNoted_14 : decode cX9_mostNoted 14 = .ok (.iload_n 2, 1) := by decide +kernel
theorem dX9_mostNoted_15 : decode cX9_mostNoted 15 = .ok (.iaload, 1) := by decide +kernel
theorem dX9_mostNoted_16 : decode cX9_mostNoted 16 = .ok (.aload_n 0, 1) := by decide +kernel
theorem dX9_mostNoted_17 : decode cX9_mostNoted 17 = .ok (.getfield 13, 3) := by decide +kernel
theorem dX9_mostNoted_20 : decode cX9_mostNoted 20 = .ok (.iload_n 1, 1) := by decide +kernel
theorem dX9_mostNoted_21 : decode cX9_mostNoted 21 = .ok (.iaload, 1) := by decide +kernel
theorem dX9_mostNoted_22 : decode cX9_mostNoted 22 = .ok (.if_icmp .le 7, 3) := by decide +kernel
theorem dX9_mostNoted_25 : decode cX9_mostNoted 25 = .ok (.iload_n 2, 1) := by decide +kernel
theorem dX9_mostNoted_26 : decode cX9_mostNoted 26 = .ok (.goto 4, 3) := by decide +kernel
theorem dX9_mostNoted_29 : decode cX9_mostNoted 29 = .ok (.iload_n 1, 1) := by decide +kernel
theorem dX9_mostNoted_30 : decode cX9_mostNoted 30 = .ok (.istore_n 1, 1) := by decide +kernel
theorem dX9_mostNoted_31 : decode cX9_mostNoted 31 = .ok (.iinc 2 1, 3) := by decide +kernel
theorem dX9_mostNoted_34 : decode cX9_mostNoted 34 = .ok (.goto (-30), 3) := by decide +kernel
theorem dX9_mostNoted_37 : decode cX9_mostNoted 37 = .ok (.iload_n 1, 1) := by decide +kernel
theorem dX9_mostNoted_38 : decode cX9_mostNoted 38 = .ok (.ireturn, 1) := by decide +kernel
set_option maxRecDepth 20000 in
theorem ggX9_yard_X9_in : GoodIn wsX9_yard wsX9_in := goodIn_r _ [6] (by decide +kernel) (by decide +kernel)
set_option maxRecDepth 20000 in
theorem gX9_yard_X9_in : GoodIn wsX9_yard (va_wsS RX9 83 yX9_in wsX9_in) := goodIn_app (goodIn_of _ (by decide +kernel)) ggX9_yard_X9_in
set_option maxRecDepth 20000 in
theorem ggX9_yard_X9_refusal : GoodIn wsX9_yard wsX9_refusal := goodIn_r _ [10, 11, 12, 13, 14, 5, 15, 16, 17, 2, 18, 19, 20, 21, 22, 23, 24, 25, 26, 27, 28, 29, 30, 31, 32, 33, 34, 35, 36, 37, 38, 39, 40, 41, 42, 43, 44, 45, 46, 47, 48, 49, 50, 51, 52, 53, 54, 55, 56, 57, 3, 4, 6, 58, 59, 60, 61, 62, 63, 64, 65, 66, 67, 68, 69, 70, 71, 72, 73, 74, 75, 76, 77, 78, 79, 80, 81, 82, 83, 84, 85, 86, 87, 88, 89, 90, 91, 92, 93, 94, 95, 96, 97, 98, 99, 100, 101, 102, 103, 104, 105, 106, 107, 108, 109, 110, 111, 112, 113, 114, 115, 116, 117, 118, 119, 120, 121, 122, 123, 124, 125, 126, 127, 128, 129, 130, 131, 132, 149, 150, 151, 152, 153, 154, 155, 156, 157, 158, 159, 160, 161, 162, 163, 164, 165, 166, 167, 168, 169, 170, 171, 172, 173, 174, 175, 176, 177, 178, 179, 180, 181, 182, 183, 184, 185] (by decide +kernel) (by decide +kernel)
set_option maxRecDepth 20000 in
theorem gX9_yard_X9_refusal : GoodIn wsX9_yard (wsV RX9 235 RX9 yX9_refusal wsX9_refusal) := goodIn_app (goodIn_of _ (by decide +kernel)) ggX9_yard_X9_refusal
set_option maxRecDepth 20000 in
theorem ggX9_yard_X9_lying : GoodIn wsX9_yard wsX9_lying := goodIn_r _ [136, 20, 149, 150, 151, 152, 153, 154, 155, 156, 157, 158, 159, 160, 161, 162, 163, 164, 165, 166, 167, 168, 169, 170, 171, 172, 173, 174, 175, 176, 177, 178, 179, 180, 181, 182, 183, 184, 185] (by decide +kernel) (by decide +kernel)
set_option maxRecDepth 20000 in
theorem gX9_yard_X9_lying : GoodIn wsX9_yard (wsV RX9 246 RX9 yX9_lying wsX9_lying) := goodIn_app (goodIn_of _ (by decide +kernel)) ggX9_yard_X9_lying
set_option maxRecDepth 20000 in
theorem ggX9_yard_X9_figures : GoodIn wsX9_yard wsX9_figures := goodIn_r _ [140, 22, 149, 150, 151, 152, 153, 154, 155, 156, 157, 158, 159, 160, 161, 162, 163, 164, 165, 166, 167, 168, 169, 170, 171, 172, 173, 174, 175, 176, 177, 178, 179, 180, 181, 182, 183, 184, 185] (by decide +kernel) (by decide +kernel)
set_option maxRecDepth 20000 in
theorem gX9_yard_X9_figures : GoodIn wsX9_yard (wsV RX9 249 RX9 yX9_figures wsX9_figures) := goodIn_app (goodIn_of _ (by decide +kernel)) ggX9_yard_X9_figures
set_option maxRecDepth 20000 in
theorem ggX9_yard_X9_mostNoted : GoodIn wsX9_yard wsX9_mostNoted := goodIn_r _ [144, 19, 149, 150, 151, 152, 153, 154, 155, 156, 157, 158, 159, 160, 161, 162, 163, 164, 165, 166, 167, 168, 169, 170, 171, 172, 173, 174, 175, 176, 177, 178, 179, 180, 181, 182, 183, 184, 185] (by decide +kernel) (by decide +kernel)
set_option maxRecDepth 20000 in
theorem gX9_yard_X9_mostNoted : GoodIn wsX9_yard (wsV RX9 252 RX9 yX9_mostNoted wsX9_mostNoted) := goodIn_app (goodIn_of _ (by decide +kernel)) ggX9_yard_X9_mostNoted
set_option maxRecDepth 20000 in
theorem ggX9_yard_X9_back : GoodIn wsX9_yard wsX9_back := goodIn_r _ [148, 12, 13, 14, 5, 15, 16, 17, 2, 18, 19, 20, 21, 22, 23, 24, 25, 26, 27, 28, 29, 30, 31, 32, 33, 34, 35, 149, 150, 151, 152, 153, 154, 155, 156, 157, 158, 159, 160, 161, 162, 163, 164, 165, 166, 167, 168, 169, 170, 171, 172, 173, 174, 175, 176, 177, 178, 179, 180, 181, 182, 183, 184, 185] (by decide +kernel) (by decide +kernel)
set_option maxRecDepth 20000 in
theorem gX9_yard_X9_back : GoodIn wsX9_yard (wsV RX9 238 RX9 yX9_back wsX9_back) := goodIn_app (goodIn_of _ (by decide +kernel)) ggX9_yard_X9_back
theorem dX9_yard_0 : decode cX9_yard 0 = .ok (.iload_n 1, 1) := by decide +kernel
theorem dX9_yard_1 : decode cX9_yard 1 = .ok (.i2l, 1) := by decide +kernel
theorem dX9_yard_2 : decode cX9_yard 2 = .ok (.lconst 0, 1) := by decide +kernel
theorem dX9_yard_3 : decode cX9_yard 3 = .ok (.ldc2_w 87, 3) := by decide +kernel
theorem dX9_yard_6 : decode cX9_yard 6 = .ok (.invokestatic 83, 3) := by decide +kernel
theorem dX9_yard_9 : decode cX9_yard 9 = .ok (.ifCond .ne 6, 3) := by decide +kernel
theorem dX9_yard_12 : decode cX9_yard 12 = .ok (.bipush (-2), 2) := by decide +kernel
theorem dX9_yard_14 : decode cX9_yard 14 = .ok (.ireturn, 1) := by decide +kernel
theorem dX9_yard_15 : decode cX9_yard 15 = .ok (.aload_n 0, 1) := by decide +kernel
theorem dX9_yard_16 : decode cX9_yard 16 = .ok (.invokevirtual 235, 3) := by decide +kernel
theorem dX9_yard_19 : decode cX9_yard 19 = .ok (.istore_n 2, 1) := by decide +kernel
theorem dX9_yard_20 : decode cX9_yard 20 = .ok (.aload_n 0, 1) := by decide +kernel
theorem dX9_yard_21 : decode cX9_yard 21 = .ok (.iload_n 2, 1) := by decide +kernel
theorem dX9_yard_22 : decode cX9_yard 22 = .ok (.bipush (-6), 2) := by decide +kernel
theorem dX9_yard_24 : decode cX9_yard 24 = .ok (.if_icmp .eq 7, 3) := by decide +kernel
theorem dX9_yard_27 : decode cX9_yard 27 = .ok (.iload_n 2, 1) := by decide +kernel
theorem dX9_yard_28 : decode cX9_yard 28 = .ok (.goto 42, 3) := by decide +kernel
theorem dX9_yard_31 : decode cX9_yard 31 = .ok (.iload_n 1, 1) := by decide +kernel
theorem dX9_yard_32 : decode cX9_yard 32 = .ok (.ifCond .ne 10, 3) := by decide +kernel
theorem dX9_yard_35 : decode cX9_yard 35 = .ok (.aload_n 0, 1) := by decide +kernel
theorem dX9_yard_36 : decode cX9_yard 36 = .ok (.getfield 156, 3) := by decide +kernel
theorem dX9_yard_39 : decode cX9_yard 39 = .ok (.goto 31, 3) := by decide +kernel
theorem dX9_yard_42 : decode cX9_yard 42 = .ok (.iload_n 1, 1) := by decide +kernel
theorem dX9_yard_43 : decode cX9_yard 43 = .ok (.iconst 1, 1) := by decide +kernel
theorem dX9_yard_44 : decode cX9_yard 44 = .ok (.if_icmp .ne 10, 3) := by decide +kernel
theorem dX9_yard_47 : decode cX9_yard 47 = .ok (.aload_n 0, 1) := by decide +kernel
theorem dX9_yard_48 : decode cX9_yard 48 = .ok (.invokevirtual 246, 3) := by decide +kernel
theorem dX9_yard_51 : decode cX9_yard 51 = .ok (.goto 19, 3) := by decide +kernel
theorem dX9_yard_54 : decode cX9_yard 54 = .ok (.iload_n 1, 1) := by decide +kernel
theorem dX9_yard_55 : decode cX9_yard 55 = .ok (.iconst 2, 1) := by decide +kernel
theorem dX9_yard_56 : decode cX9_yard 56 = .ok (.if_icmp .ne 10, 3) := by decide +kernel
theorem dX9_yard_59 : decode cX9_yard 59 = .ok (.aload_n 0, 1) := by decide +kernel
theorem dX9_yard_60 : decode cX9_yard 60 = .ok (.invokevirtual 249, 3) := by decide +kernel
theorem dX9_yard_63 : decode cX9_yard 63 = .ok (.goto 7, 3) := by decide +kernel
theorem dX9_yard_66 : decode cX9_yard 66 = .ok (.aload_n 0, 1) := by decide +kernel
theorem dX9_yard_67 : decode cX9_yard 67 = .ok (.invokevirtual 252, 3) := by decide +kernel
theorem dX9_yard_70 : decode cX9_yard 70 = .ok (.invokevirtual 238, 3) := by decide +kernel
theorem dX9_yard_73 : decode cX9_yard 73 = .ok (.ireturn, 1) := by decide +kernel
set_option maxRecDepth 20000 in
theorem ggX9_lost_X9_in : GoodIn wsX9_lost wsX9_in := goodIn_r _ [6] (by decide +kernel) (by decide +kernel)
set_option maxRecDepth 20000 in
theorem gX9_lost_X9_in : GoodIn wsX9_lost (va_wsS RX9 83 yX9_in wsX9_in) := goodIn_app (goodIn_of _ (by decide +kernel)) ggX9_lost_X9_in
set_option maxRecDepth 20000 in
theorem ggX9_lost_X9_refusal : GoodIn wsX9_lost wsX9_refusal := goodIn_r _ [10, 11, 12, 13, 14, 5, 15, 16, 17, 18, 19, 20, 21, 22, 23, 24, 25, 26, 27, 28, 29, 30, 31, 32, 33, 34, 35, 36, 37, 38, 39, 40, 41, 42, 43, 44, 45, 46, 47, 48, 49, 50, 51, 52, 53, 54, 55, 56, 57, 58, 3, 4, 6, 59, 60, 61, 62, 63, 64, 65, 66, 67, 68, 69, 70, 71, 72, 73, 74, 75, 76, 77, 1, 2, 78, 79, 80, 81, 82, 83, 84, 85, 86, 87, 88, 89, 90, 91, 92, 93, 94, 95, 96, 97, 98, 99, 100, 101, 102, 103, 104, 105, 106, 107, 108, 109, 110, 111, 112, 113, 114, 115, 116, 117, 118, 119, 120, 121, 122, 123, 124, 125, 126, 127, 128, 129, 130, 131, 136, 137, 138, 139, 140, 141, 142, 143, 144, 145, 146, 147, 148, 149, 150, 151, 152, 153, 154, 155, 156, 157, 158, 159, 160, 161, 162, 163, 164, 165, 166, 167, 168, 169, 170, 171, 172] (by decide +kernel) (by decide +kernel)
set_option maxRecDepth 20000 in
theorem gX9_lost_X9_refusal : GoodIn wsX9_lost (wsV RX9 235 RX9 yX9_refusal wsX9_refusal) := goodIn_app (goodIn_of _ (by decide +kernel)) ggX9_lost_X9_refusal
set_option maxRecDepth 20000 in
theorem ggX9_lost_X9_back : GoodIn wsX9_lost wsX9_back := goodIn_r _ [135, 12, 13, 14, 5, 15, 16, 17, 18, 19, 20, 21, 22, 23, 24, 25, 26, 27, 28, 29, 30, 31, 32, 33, 34, 35, 36, 136, 137, 138, 139, 140, 141, 142, 143, 144, 145, 146, 147, 148, 149, 150, 151, 152, 153, 154, 155, 156, 157, 158, 159, 160, 161, 162, 163, 164, 165, 166, 167, 168, 169, 170, 171, 172] (by decide +kernel) (by decide +kernel)
set_option maxRecDepth 20000 in
theorem gX9_lost_X9_back : GoodIn wsX9_lost (wsV RX9 238 RX9 yX9_back wsX9_back) := goodIn_app (goodIn_of _ (by decide +kernel)) ggX9_lost_X9_back
theorem dX9_lost_0 : decode cX9_lost 0 = .ok (.iload_n 1, 1) := by decide +kernel
theorem dX9_lost_1 : decode cX9_lost 1 = .ok (.i2l, 1) := by decide +kernel
theorem dX9_lost_2 : decode cX9_lost 2 = .ok (.lconst 0, 1) := by decide +kernel
theorem dX9_lost_3 : decode cX9_lost 3 = .ok (.lconst 1, 1) := by decide +kernel
theorem dX9_lost_4 : decode cX9_lost 4 = .ok (.invokestatic 83, 3) := by decide +kernel
theorem dX9_lost_7 : decode cX9_lost 7 = .ok (.ifCond .ne 6, 3) := by decide +kernel
theorem dX9_lost_10 : decode cX9_lost 10 = .ok (.bipush (-2), 2) := by decide +kernel
theorem dX9_lost_12 : decode cX9_lost 12 = .ok (.ireturn, 1) := by decide +kernel
theorem dX9_lost_13 : decode cX9_lost 13 = .ok (.aload_n 0, 1) := by decide +kernel
theorem dX9_lost_14 : decode cX9_lost 14 = .ok (.aload_n 0, 1) := by decide +kernel
theorem dX9_lost_15 : decode cX9_lost 15 = .ok (.invokevirtual 235, 3) := by decide +kernel
theorem dX9_lost_18 : decode cX9_lost 18 = .ok (.invokevirtual 238, 3) := by decide +kernel
theorem dX9_lost_21 : decode cX9_lost 21 = .ok (.istore_n 2, 1) := by decide +kernel
theorem dX9_lost_22 : decode cX9_lost 22 = .ok (.iload_n 2, 1) := by decide +kernel
theorem dX9_lost_23 : decode cX9_lost 23 = .ok (.bipush (-6), 2) := by decide +kernel
theorem dX9_lost_25 : decode cX9_lost 25 = .ok (.if_icmp .eq 7, 3) := by decide +kernel
theorem dX9_lost_28 : decode cX9_lost 28 = .ok (.iload_n 2, 1) := by decide +kernel
theorem dX9_lost_29 : decode cX9_lost 29 = .ok (.goto 18, 3) := by decide +kernel
theorem dX9_lost_32 : decode cX9_lost 32 = .ok (.iload_n 1, 1) := by decide +kernel
theorem dX9_lost_33 : decode cX9_lost 33 = .ok (.ifCond .ne 10, 3) := by decide +kernel
theorem dX9_lost_36 : decode cX9_lost 36 = .ok (.aload_n 0, 1) := by decide +kernel
theorem dX9_lost_37 : decode cX9_lost 37 = .ok (.getfield 207, 3) := by decide +kernel
theorem dX9_lost_40 : decode cX9_lost 40 = .ok (.goto 7, 3) := by decide +kernel
theorem dX9_lost_43 : decode cX9_lost 43 = .ok (.aload_n 0, 1) := by decide +kernel
theorem dX9_lost_44 : decode cX9_lost 44 = .ok (.getfield 210, 3) := by decide +kernel
theorem dX9_lost_47 : decode cX9_lost 47 = .ok (.ireturn, 1) := by decide +kernel
set_option maxRecDepth 20000 in
theorem ggX9_done_X9_refusal : GoodIn wsX9_done wsX9_refusal := goodIn_r _ [7, 8, 9, 10, 11, 6, 12, 13, 14, 15, 16, 17, 18, 19, 20, 21, 22, 23, 24, 25, 26, 27, 28, 29, 30, 31, 32, 33, 34, 35, 36, 37, 2, 1, 38, 39, 40, 41, 42, 43, 44, 45, 46, 47, 48, 49, 50, 51, 52, 53, 54, 55, 56, 57, 58, 59, 60, 61, 62, 63, 64, 65, 66, 67, 68, 69, 70, 71, 72, 73, 74, 75, 76, 77, 78, 79, 80, 81, 82, 83, 84, 85, 86, 87, 88, 89, 90, 91, 92, 93, 94, 95, 96, 97, 98, 99, 100, 101, 102, 103, 104, 105, 106, 107, 108, 109, 110, 111, 112, 113, 114, 115, 116, 117, 118, 119, 120, 121, 122, 123, 124, 125, 126, 127, 128, 129, 130, 131, 136, 137, 138, 139, 140, 141, 142, 143, 144, 145, 146, 147, 148, 149, 150, 151, 152, 153, 154, 155, 156, 157, 158, 159, 160, 161, 162, 163, 164, 165, 166, 167, 168, 169, 170, 171, 172] (by decide +kernel) (by decide +kernel)
set_option maxRecDepth 20000 in
theorem gX9_done_X9_refusal : GoodIn wsX9_done (wsV RX9 235 RX9 yX9_refusal wsX9_refusal) := goodIn_app (goodIn_of _ (by decide +kernel)) ggX9_done_X9_refusal
set_option maxRecDepth 20000 in
theorem ggX9_done_X9_back : GoodIn wsX9_done wsX9_back := goodIn_r _ [135, 9, 10, 11, 6, 12, 13, 14, 15, 16, 17, 18, 19, 20, 21, 22, 23, 24, 25, 26, 27, 28, 29, 30, 31, 32, 33, 136, 137, 138, 139, 140, 141, 142, 143, 144, 145, 146, 147, 148, 149, 150, 151, 152, 153, 154, 155, 156, 157, 158, 159, 160, 161, 162, 163, 164, 165, 166, 167, 168, 169, 170, 171, 172] (by decide +kernel) (by decide +kernel)
set_option maxRecDepth 20000 in
theorem gX9_done_X9_back : GoodIn wsX9_done (wsV RX9 238 RX9 yX9_back wsX9_back) := goodIn_app (goodIn_of _ (by decide +kernel)) ggX9_done_X9_back
theorem dX9_done_0 : decode cX9_done 0 = .ok (.aload_n 0, 1) := by decide +kernel
theorem dX9_done_1 : decode cX9_done 1 = .ok (.invokevirtual 235, 3) := by decide +kernel
theorem dX9_done_4 : decode cX9_done 4 = .ok (.istore_n 1, 1) := by decide +kernel
theorem dX9_done_5 : decode cX9_done 5 = .ok (.iload_n 1, 1) := by decide +kernel
theorem dX9_done_6 : decode cX9_done 6 = .ok (.bipush (-6), 2) := by decide +kernel
theorem dX9_done_8 : decode cX9_done 8 = .ok (.if_icmp .eq 9, 3) := by decide +kernel
theorem dX9_done_11 : decode cX9_done 11 = .ok (.aload_n 0, 1) := by decide +kernel
theorem dX9_done_12 : decode cX9_done 12 = .ok (.iload_n 1, 1) := by decide +kernel
theorem dX9_done_13 : decode cX9_done 13 = .ok (.invokevirtual 238, 3) := by decide +kernel
theorem dX9_done_16 : decode cX9_done 16 = .ok (.ireturn, 1) := by decide +kernel
theorem dX9_done_17 : decode cX9_done 17 = .ok (.aload_n 0, 1) := by decide +kernel
theorem dX9_done_18 : decode cX9_done 18 = .ok (.iconst 0, 1) := by decide +kernel
theorem dX9_done_19 : decode cX9_done 19 = .ok (.putfield 115, 3) := by decide +kernel
theorem dX9_done_22 : decode cX9_done 22 = .ok (.aload_n 0, 1) := by decide +kernel
theorem dX9_done_23 : decode cX9_done 23 = .ok (.getfield 118, 3) := by decide +kernel
theorem dX9_done_26 : decode cX9_done 26 = .ok (.ireturn, 1) := by decide +kernel
set_option maxRecDepth 20000 in
theorem ggX9_readBehind_X9_apart : GoodIn wsX9_readBehind wsX9_apart := goodIn_r _ [7] (by decide +kernel) (by decide +kernel)
set_option maxRecDepth 20000 in
theorem gX9_readBehind_X9_apart : GoodIn wsX9_readBehind (va_wsS RX9 255 yX9_apart wsX9_apart) := goodIn_app (goodIn_of _ (by decide +kernel)) ggX9_readBehind_X9_apart
theorem dX9_readBehind_0 : decode cX9_readBehind 0 = .ok (.iload_n 3, 1) := by decide +kernel
theorem dX9_readBehind_1 : decode cX9_readBehind 1 = .ok (.iload_n 2, 1) := by decide +kernel
theorem dX9_readBehind_2 : decode cX9_readBehind 2 = .ok (.aload_n 0, 1) := by decide +kernel
theorem dX9_readBehind_3 : decode cX9_readBehind 3 = .ok (.getfield 16, 3) := by decide +kernel
theorem dX9_readBehind_6 : decode cX9_readBehind 6 = .ok (.iload_n 1, 1) := by decide +kernel
theorem dX9_readBehind_7 : decode cX9_readBehind 7 = .ok (.iaload, 1) := by decide +kernel
theorem dX9_readBehind_8 : decode cX9_readBehind 8 = .ok (.invokestatic 255, 3) := by decide +kernel
theorem dX9_readBehind_11 : decode cX9_readBehind 11 = .ok (.iadd, 1) := by decide +kernel
theorem dX9_readBehind_12 : decode cX9_readBehind 12 = .ok (.istore 4, 2) := by decide +kernel
theorem dX9_readBehind_14 : decode cX9_readBehind 14 = .ok (.iload 4, 2) := by decide +kernel
theorem dX9_readBehind_16 : decode cX9_readBehind 16 = .ok (.aload_n 0, 1) := by decide +kernel
theorem dX9_readBehind_17 : decode cX9_readBehind 17 = .ok (.getfield 77, 3) := by decide +kernel
theorem dX9_readBehind_20 : decode cX9_readBehind 20 = .ok (.imul, 1) := by decide +kernel
theorem dX9_readBehind_21 : decode cX9_readBehind 21 = .ok (.aload_n 0, 1) := by decide +kernel
theorem dX9_readBehind_22 : decode cX9_readBehind 22 = .ok (.getfield 19, 3) := by decide +kernel
theorem dX9_readBehind_25 : decode cX9_readBehind 25 = .ok (.iload_n 1, 1) := by decide +kernel
theorem dX9_readBehind_26 : decode cX9_readBehind 26 = .ok (.iaload, 1) := by decide +kernel
theorem dX9_readBehind_27 : decode cX9_readBehind 27 = .ok (.if_icmp .ge 10, 3) := by decide +kernel
theorem dX9_readBehind_30 : decode cX9_readBehind 30 = .ok (.iload 4, 2) := by decide +kernel
theorem dX9_readBehind_32 : decode cX9_readBehind 32 = .ok (.iconst 1, 1) := by decide +kernel
theorem dX9_readBehind_33 : decode cX9_readBehind 33 = .ok (.iadd, 1) := by decide +kernel
theorem dX9_readBehind_34 : decode cX9_readBehind 34 = .ok (.goto 6, 3) := by decide +kernel
theorem dX9_readBehind_37 : decode cX9_readBehind 37 = .ok (.sipush 1000, 3) := by decide +kernel
theorem dX9_readBehind_40 : decode cX9_readBehind 40 = .ok (.ireturn, 1) := by decide +kernel
set_option maxRecDepth 20000 in
theorem ggX9_earliest_X9_readBehind : GoodIn wsX9_earliest wsX9_readBehind := goodIn_r _ [10, 5, 11, 12, 13, 14, 9, 15, 22, 23, 24, 25, 26, 27, 28, 29, 30, 31, 32, 33, 34, 35, 36, 37, 38, 39, 40, 41, 42, 43, 44, 45, 46, 47, 48, 49, 50, 51, 52, 53, 54, 55, 56, 57, 58] (by decide +kernel) (by decide +kernel)
set_option maxRecDepth 20000 in
theorem gX9_earliest_X9_readBehind : GoodIn wsX9_earliest (wsV RX9 258 RX9 yX9_readBehind wsX9_readBehind) := goodIn_app (goodIn_of _ (by decide +kernel)) ggX9_earliest_X9_readBehind
set_option maxRecDepth 20000 in
theorem ggX9_earliest_X9_has : GoodIn wsX9_earliest wsX9_has := goodIn_r _ [18] (by decide +kernel) (by decide +kernel)
set_option maxRecDepth 20000 in
theorem gX9_earliest_X9_has : GoodIn wsX9_earliest (va_wsS RX9 261 yX9_has wsX9_has) := goodIn_app (goodIn_of _ (by decide +kernel)) ggX9_earliest_X9_has
set_option maxRecDepth 20000 in
theorem ggX9_earliest_X9_less : GoodIn wsX9_earliest wsX9_less := goodIn_r _ [21] (by decide +kernel) (by decide +kernel)
set_option maxRecDepth 20000 in
theorem gX9_earliest_X9_less : GoodIn wsX9_earliest (va_wsS RX9 159 yX9_less wsX9_less) := goodIn_app (goodIn_of _ (by decide +kernel)) ggX9_earliest_X9_less
theorem dX9_earliest_0 : decode cX9_earliest 0 = .ok (.iload_n 1, 1) := by decide +kernel
theorem dX9_earliest_1 : decode cX9_earliest 1 = .ok (.iconst 1, 1) := by decide +kernel
theorem dX9_earliest_2 : decode cX9_earliest 2 = .ok (.iload_n 2, 1) := by decide +kernel
theorem dX9_earliest_3 : decode cX9_earliest 3 = .ok (.ishl, 1) := by decide +kernel
theorem dX9_earliest_4 : decode cX9_earliest 4 = .ok (.iconst (-1), 1) := by decide +kernel
theorem dX9_earliest_5 : decode cX9_earliest 5 = .ok (.ixor, 1) := by decide +kernel
theorem dX9_earliest_6 : decode cX9_earliest 6 = .ok (.iand, 1) := by decide +kernel
theorem dX9_earliest_7 : decode cX9_earliest 7 = .ok (.istore 4, 2) := by decide +kernel
theorem dX9_earliest_9 : decode cX9_earliest 9 = .ok (.iload 4, 2) := by decide +kernel
theorem dX9_earliest_11 : decode cX9_earliest 11 = .ok (.ifCond .ne 49, 3) := by decide +kernel
theorem dX9_earliest_14 : decode cX9_earliest 14 = .ok (.aload_n 0, 1) := by decide +kernel
theorem dX9_earliest_15 : decode cX9_earliest 15 = .ok (.getfield 28, 3) := by decide +kernel
theorem dX9_earliest_18 : decode cX9_earliest 18 = .ok (.iload_n 3, 1) := by decide +kernel
theorem dX9_earliest_19 : decode cX9_earliest 19 = .ok (.iaload, 1) := by decide +kernel
theorem dX9_earliest_20 : decode cX9_earliest 20 = .ok (.aload_n 0, 1) := by decide +kernel
theorem dX9_earliest_21 : decode cX9_earliest 21 = .ok (.getfield 34, 3) := by decide +kernel
theorem dX9_earliest_24 : decode cX9_earliest 24 = .ok (.iload_n 3, 1) := by decide +kernel
theorem dX9_earliest_25 : decode cX9_earliest 25 = .ok (.iaload, 1) := by decide +kernel
theorem dX9_earliest_26 : decode cX9_earliest 26 = .ok (.if_icmp .le 12, 3) := by decide +kernel
theorem dX9_earliest_29 : decode cX9_earliest 29 = .ok (.aload_n 0, 1) := by decide +kernel
theorem dX9_earliest_30 : decode cX9_earliest 30 = .ok (.getfield 28, 3) := by decide +kernel
theorem dX9_earliest_33 : decode cX9_earliest 33 = .ok (.iload_n 3, 1) := by decide +kernel
theorem dX9_earliest_34 : decode cX9_earliest 34 = .ok (.iaload, 1) := by decide +kernel
theorem dX9_earliest_35 : decode cX9_earliest 35 = .ok (.goto 9, 3) := by decide +kernel
theorem dX9_earliest_38 : decode cX9_earliest 38 = .ok (.aload_n 0, 1) := by decide +kernel
theorem dX9_earliest_39 : decode cX9_earliest 39 = .ok (.getfield 34, 3) := by decide +kernel
theorem dX9_earliest_42 : decode cX9_earliest 42 = .ok (.iload_n 3, 1) := by decide +kernel
theorem dX9_earliest_43 : decode cX9_earliest 43 = .ok (.iaload, 1) := by decide +kernel
theorem dX9_earliest_44 : decode cX9_earliest 44 = .ok (.istore 5, 2) := by decide +kernel
theorem dX9_earliest_46 : decode cX9_earliest 46 = .ok (.aload_n 0, 1) := by decide +kernel
theorem dX9_earliest_47 : decode cX9_earliest 47 = .ok (.iload_n 2, 1) := by decide +kernel
theorem dX9_earliest_48 : decode cX9_earliest 48 = .ok (.aload_n 0, 1) := by decide +kernel
theorem dX9_earliest_49 : decode cX9_earliest 49 = .ok (.getfield 25, 3) := by decide +kernel
theorem dX9_earliest_52 : decode cX9_earliest 52 = .ok (.iload_n 3, 1) := by decide +kernel
theorem dX9_earliest_53 : decode cX9_earliest 53 = .ok (.iaload, 1) := by decide +kernel
theorem dX9_earliest_54 : decode cX9_earliest 54 = .ok (.iload 5, 2) := by decide +kernel
theorem dX9_earliest_56 : decode cX9_earliest 56 = .ok (.invokevirtual 258, 3) := by decide +kernel
theorem dX9_earliest_59 : decode cX9_earliest 59 = .ok (.ireturn, 1) := by decide +kernel
theorem dX9_earliest_60 : decode cX9_earliest 60 = .ok (.sipush 1000, 3) := by decide +kernel
theorem dX9_earliest_63 : decode cX9_earliest 63 = .ok (.istore 5, 2) := by decide +kernel
theorem dX9_earliest_65 : decode cX9_earliest 65 = .ok (.iconst 0, 1) := by decide +kernel
theorem dX9_earliest_66 : decode cX9_earliest 66 = .ok (.istore 6, 2) := by decide +kernel
theorem dX9_earliest_68 : decode cX9_earliest 68 = .ok (.iload 6, 2) := by decide +kernel
theorem dX9_earliest_70 : decode cX9_earliest 70 = .ok (.bipush 8, 2) := by decide +kernel
theorem dX9_earliest_72 : decode cX9_earliest 72 = .ok (.if_icmp .ge 74, 3) := by decide +kernel
theorem dX9_earliest_75 : decode cX9_earliest 75 = .ok (.iload 4, 2) := by decide +kernel
theorem dX9_earliest_77 : decode cX9_earliest 77 = .ok (.iload 6, 2) := by decide +kernel
theorem dX9_earliest_79 : decode cX9_earliest 79 = .ok (.invokestatic 261, 3) := by decide +kernel
theorem dX9_earliest_82 : decode cX9_earliest 82 = .ok (.ifCond .eq 19, 3) := by decide +kernel
theorem dX9_earliest_85 : decode cX9_earliest 85 = .ok (.aload_n 0, 1) := by decide +kernel
theorem dX9_earliest_86 : decode cX9_earliest 86 = .ok (.getfield 61, 3) := by decide +kernel
theorem dX9_earliest_89 : decode cX9_earliest 89 = .ok (.bipush 8, 2) := by decide +kernel
theorem dX9_earliest_91 : decode cX9_earliest 91 = .ok (.iload 4, 2) := by decide +kernel
theorem dX9_earliest_93 : decode cX9_earliest 93 = .ok (.imul, 1) := by decide +kernel
theorem dX9_earliest_94 : decode cX9_earliest 94 = .ok (.iload 6, 2) := by decide +kernel
theorem dX9_earliest_96 : decode cX9_earliest 96 = .ok (.iadd, 1) := by decide +kernel
theorem dX9_earliest_97 : decode cX9_earliest 97 = .ok (.iaload, 1) := by decide +kernel
theorem dX9_earliest_98 : decode cX9_earliest 98 = .ok (.goto 6, 3) := by decide +kernel
theorem dX9_earliest_101 : decode cX9_earliest 101 = .ok (.sipush 1000, 3) := by decide +kernel
theorem dX9_earliest_104 : decode cX9_earliest 104 = .ok (.istore 7, 2) := by decide +kernel
theorem dX9_earliest_106 : decode cX9_earliest 106 = .ok (.iload 7, 2) := by decide +kernel
theorem dX9_earliest_108 : decode cX9_earliest 108 = .ok (.sipush 1000, 3) := by decide +kernel
theorem dX9_earliest_111 : decode cX9_earliest 111 = .ok (.if_icmp .ge 25, 3) := by decide +kernel
theorem dX9_earliest_114 : decode cX9_earliest 114 = .ok (.iload 5, 2) := by decide +kernel
theorem dX9_earliest_116 : decode cX9_earliest 116 = .ok (.aload_n 0, 1) := by decide +kernel
theorem dX9_earliest_117 : decode cX9_earliest 117 = .ok (.iload_n 2, 1) := by decide +kernel
theorem dX9_earliest_118 : decode cX9_earliest 118 = .ok (.aload_n 0, 1) := by decide +kernel
theorem dX9_earliest_119 : decode cX9_earliest 119 = .ok (.getfield 16, 3) := by decide +kernel
theorem dX9_earliest_122 : decode cX9_earliest 122 = .ok (.iload 6, 2) := by decide +kernel
theorem dX9_earliest_124 : decode cX9_earliest 124 = .ok (.iaload, 1) := by decide +kernel
theorem dX9_earliest_125 : decode cX9_earliest 125 = .ok (.iload 7, 2) := by decide +kernel
theorem dX9_earliest_127 : decode cX9_earliest 127 = .ok (.invokevirtual 258, 3) := by decide +kernel
theorem dX9_earliest_130 : decode cX9_earliest 130 = .ok (.invokestatic 159, 3) := by decide +kernel
theorem dX9_earliest_133 : decode cX9_earliest 133 = .ok (.goto 5, 3) := by decide +kernel
theorem dX9_earliest_136 : decode cX9_earliest 136 = .ok (.iload 5, 2) := by decide +kernel
theorem dX9_earliest_138 : decode cX9_earliest 138 = .ok (.istore 5, 2) := by decide +kernel
theorem dX9_earliest_140 : decode cX9_earliest 140 = .ok (.iinc 6 1, 3) := by decide +kernel
theorem dX9_earliest_143 : decode cX9_earliest 143 = .ok (.goto (-75), 3) := by decide +kernel
theorem dX9_earliest_146 : decode cX9_earliest 146 = .ok (.iload 5, 2) := by decide +kernel
theorem dX9_earliest_148 : decode cX9_earliest 148 = .ok (.ireturn, 1) := by decide +kernel
set_option maxRecDepth 20000 in
theorem ggX9_canBe_X9_has : GoodIn wsX9_canBe wsX9_has := goodIn_r _ [5] (by decide +kernel) (by decide +kernel)
set_option maxRecDepth 20000 in
theorem gX9_canBe_X9_has : GoodIn wsX9_canBe (va_wsS RX9 261 yX9_has wsX9_has) := goodIn_app (goodIn_of _ (by decide +kernel)) ggX9_canBe_X9_has
set_option maxRecDepth 20000 in
theorem ggX9_canBe_X9_lying : GoodIn wsX9_canBe wsX9_lying := goodIn_r _ [9, 10, 30, 31, 32, 33, 34, 35, 36, 37, 38, 39, 40, 41, 42, 43, 44, 45, 46, 47, 48, 49, 50, 51, 52, 53, 54, 55, 56, 57, 58, 59, 60, 61, 62, 63, 64, 65, 66] (by decide +kernel) (by decide +kernel)
set_option maxRecDepth 20000 in
theorem gX9_canBe_X9_lying : GoodIn wsX9_canBe (wsV RX9 246 RX9 yX9_lying wsX9_lying) := goodIn_app (goodIn_of _ (by decide +kernel)) ggX9_canBe_X9_lying
set_option maxRecDepth 20000 in
theorem ggX9_canBe_X9_earliest : GoodIn wsX9_canBe wsX9_earliest := goodIn_r _ [14, 15, 16, 17, 1, 10, 18, 19, 20, 4, 21, 22, 23, 24, 25, 26, 2, 3, 5, 27, 28, 29, 30, 31, 32, 33, 34, 35, 36, 37, 38, 39, 40, 41, 42, 43, 44, 45, 46, 47, 48, 49, 50, 51, 52, 53, 54, 55, 56, 57, 58, 59, 60, 61, 62, 63, 64, 65, 66] (by decide +kernel) (by decide +kernel)
set_option maxRecDepth 20000 in
theorem gX9_canBe_X9_earliest : GoodIn wsX9_canBe (wsV RX9 265 RX9 yX9_earliest wsX9_earliest) := goodIn_app (goodIn_of _ (by decide +kernel)) ggX9_canBe_X9_earliest
theorem dX9_canBe_0 : decode cX9_canBe 0 = .ok (.iconst 0, 1) := by decide +kernel
theorem dX9_canBe_1 : decode cX9_canBe 1 = .ok (.istore_n 3, 1) := by decide +kernel
theorem dX9_canBe_2 : decode cX9_canBe 2 = .ok (.iconst 0, 1) := by decide +kernel
theorem dX9_canBe_3 : decode cX9_canBe 3 = .ok (.istore 4, 2) := by decide +kernel
theorem dX9_canBe_5 : decode cX9_canBe 5 = .ok (.iload 4, 2) := by decide +kernel
theorem dX9_canBe_7 : decode cX9_canBe 7 = .ok (.bipush 8, 2) := by decide +kernel
theorem dX9_canBe_9 : decode cX9_canBe 9 = .ok (.if_icmp .ge 95, 3) := by decide +kernel
theorem dX9_canBe_12 : decode cX9_canBe 12 = .ok (.iload_n 1, 1) := by decide +kernel
theorem dX9_canBe_13 : decode cX9_canBe 13 = .ok (.iload 4, 2) := by decide +kernel
theorem dX9_canBe_15 : decode cX9_canBe 15 = .ok (.invokestatic 261, 3) := by decide +kernel
theorem dX9_canBe_18 : decode cX9_canBe 18 = .ok (.ifCond .eq 18, 3) := by decide +kernel
theorem dX9_canBe_21 : decode cX9_canBe 21 = .ok (.iload_n 1, 1) := by decide +kernel
theorem dX9_canBe_22 : decode cX9_canBe 22 = .ok (.aload_n 0, 1) := by decide +kernel
theorem dX9_canBe_23 : decode cX9_canBe 23 = .ok (.invokevirtual 246, 3) := by decide +kernel
theorem dX9_canBe_26 : decode cX9_canBe 26 = .ok (.iconst (-1), 1) := by decide +kernel
theorem dX9_canBe_27 : decode cX9_canBe 27 = .ok (.ixor, 1) := by decide +kernel
theorem dX9_canBe_28 : decode cX9_canBe 28 = .ok (.iand, 1) := by decide +kernel
theorem dX9_canBe_29 : decode cX9_canBe 29 = .ok (.ifCond .ne 7, 3) := by decide +kernel
theorem dX9_canBe_32 : decode cX9_canBe 32 = .ok (.iconst 1, 1) := by decide +kernel
theorem dX9_canBe_33 : decode cX9_canBe 33 = .ok (.goto 4, 3) := by decide +kernel
theorem dX9_canBe_36 : decode cX9_canBe 36 = .ok (.iconst 0, 1) := by decide +kernel
theorem dX9_canBe_37 : decode cX9_canBe 37 = .ok (.istore 5, 2) := by decide +kernel
theorem dX9_canBe_39 : decode cX9_canBe 39 = .ok (.aload_n 0, 1) := by decide +kernel
theorem dX9_canBe_40 : decode cX9_canBe 40 = .ok (.getfield 61, 3) := by decide +kernel
theorem dX9_canBe_43 : decode cX9_canBe 43 = .ok (.bipush 8, 2) := by decide +kernel
theorem dX9_canBe_45 : decode cX9_canBe 45 = .ok (.iload_n 1, 1) := by decide +kernel
theorem dX9_canBe_46 : decode cX9_canBe 46 = .ok (.imul, 1) := by decide +kernel
theorem dX9_canBe_47 : decode cX9_canBe 47 = .ok (.iload 4, 2) := by decide +kernel
theorem dX9_canBe_49 : decode cX9_canBe 49 = .ok (.iadd, 1) := by decide +kernel
theorem dX9_canBe_50 : decode cX9_canBe 50 = .ok (.iload 5, 2) := by decide +kernel
theorem dX9_canBe_52 : decode cX9_canBe 52 = .ok (.ifCond .eq 14, 3) := by decide +kernel
theorem dX9_canBe_55 : decode cX9_canBe 55 = .ok (.aload_n 0, 1) := by decide +kernel
theorem dX9_canBe_56 : decode cX9_canBe 56 = .ok (.iload_n 1, 1) := by decide +kernel
theorem dX9_canBe_57 : decode cX9_canBe 57 = .ok (.iload 4, 2) := by decide +kernel
theorem dX9_canBe_59 : decode cX9_canBe 59 = .ok (.iload_n 2, 1) := by decide +kernel
theorem dX9_canBe_60 : decode cX9_canBe 60 = .ok (.invokevirtual 265, 3) := by decide +kernel
theorem dX9_canBe_63 : decode cX9_canBe 63 = .ok (.goto 6, 3) := by decide +kernel
theorem dX9_canBe_66 : decode cX9_canBe 66 = .ok (.sipush 1000, 3) := by decide +kernel
theorem dX9_canBe_69 : decode cX9_canBe 69 = .ok (.iastore, 1) := by decide +kernel
theorem dX9_canBe_70 : decode cX9_canBe 70 = .ok (.iload_n 3, 1) := by decide +kernel
theorem dX9_canBe_71 : decode cX9_canBe 71 = .ok (.ifCond .ne 21, 3) := by decide +kernel
theorem dX9_canBe_74 : decode cX9_canBe 74 = .ok (.aload_n 0, 1) := by decide +kernel
theorem dX9_canBe_75 : decode cX9_canBe 75 = .ok (.getfield 61, 3) := by decide +kernel
theorem dX9_canBe_78 : decode cX9_canBe 78 = .ok (.bipush 8, 2) := by decide +kernel
theorem dX9_canBe_80 : decode cX9_canBe 80 = .ok (.iload_n 1, 1) := by decide +kernel
theorem dX9_canBe_81 : decode cX9_canBe 81 = .ok (.imul, 1) := by decide +kernel
theorem dX9_canBe_82 : decode cX9_canBe 82 = .ok (.iload 4, 2) := by decide +kernel
theorem dX9_canBe_84 : decode cX9_canBe 84 = .ok (.iadd, 1) := by decide +kernel
theorem dX9_canBe_85 : decode cX9_canBe 85 = .ok (.iaload, 1) := by decide +kernel
theorem dX9_canBe_86 : decode cX9_canBe 86 = .ok (.sipush 1000, 3) := by decide +kernel
theorem dX9_canBe_89 : decode cX9_canBe 89 = .ok (.if_icmp .ge 7, 3) := by decide +kernel
theorem dX9_canBe_92 : decode cX9_canBe 92 = .ok (.iconst 1, 1) := by decide +kernel
theorem dX9_canBe_93 : decode cX9_canBe 93 = .ok (.goto 4, 3) := by decide +kernel
theorem dX9_canBe_96 : decode cX9_canBe 96 = .ok (.iconst 0, 1) := by decide +kernel
theorem dX9_canBe_97 : decode cX9_canBe 97 = .ok (.istore_n 3, 1) := by decide +kernel
theorem dX9_canBe_98 : decode cX9_canBe 98 = .ok (.iinc 4 1, 3) := by decide +kernel
theorem dX9_canBe_101 : decode cX9_canBe 101 = .ok (.goto (-96), 3) := by decide +kernel
theorem dX9_canBe_104 : decode cX9_canBe 104 = .ok (.iload_n 3, 1) := by decide +kernel
theorem dX9_canBe_105 : decode cX9_canBe 105 = .ok (.ireturn, 1) := by decide +kernel
set_option maxRecDepth 20000 in
theorem ggX9_figuresOf_X9_has : GoodIn wsX9_figuresOf wsX9_has := goodIn_r _ [5] (by decide +kernel) (by decide +kernel)
set_option maxRecDepth 20000 in
theorem gX9_figuresOf_X9_has : GoodIn wsX9_figuresOf (va_wsS RX9 261 yX9_has wsX9_has) := goodIn_app (goodIn_of _ (by decide +kernel)) ggX9_figuresOf_X9_has
theorem dX9_figuresOf_0 : decode cX9_figuresOf 0 = .ok (.iconst 0, 1) := by decide +kernel
theorem dX9_figuresOf_1 : decode cX9_figuresOf 1 = .ok (.istore_n 2, 1) := by decide +kernel
theorem dX9_figuresOf_2 : decode cX9_figuresOf 2 = .ok (.iconst 0, 1) := by decide +kernel
theorem dX9_figuresOf_3 : decode cX9_figuresOf 3 = .ok (.istore_n 3, 1) := by decide +kernel
theorem dX9_figuresOf_4 : decode cX9_figuresOf 4 = .ok (.iload_n 3, 1) := by decide +kernel
theorem dX9_figuresOf_5 : decode cX9_figuresOf 5 = .ok (.bipush 8, 2) := by decide +kernel
theorem dX9_figuresOf_7 : decode cX9_figuresOf 7 = .ok (.if_icmp .ge 30, 3) := by decide +kernel
theorem dX9_figuresOf_10 : decode cX9_figuresOf 10 = .ok (.iload_n 2, 1) := by decide +kernel
theorem dX9_figuresOf_11 : decode cX9_figuresOf 11 = .ok (.iload_n 1, 1) := by decide +kernel
theorem dX9_figuresOf_12 : decode cX9_figuresOf 12 = .ok (.iload_n 3, 1) := by decide +kernel
theorem dX9_figuresOf_13 : decode cX9_figuresOf 13 = .ok (.invokestatic 261, 3) := by decide +kernel
theorem dX9_figuresOf_16 : decode cX9_figuresOf 16 = .ok (.ifCond .eq 12, 3) := by decide +kernel
theorem dX9_figuresOf_19 : decode cX9_figuresOf 19 = .ok (.aload_n 0, 1) := by decide +kernel
theorem dX9_figuresOf_20 : decode cX9_figuresOf 20 = .ok (.getfield 22, 3) := by decide +kernel
theorem dX9_figuresOf_23 : decode cX9_figuresOf 23 = .ok (.iload_n 3, 1) := by decide +kernel
theorem dX9_figuresOf_24 : decode cX9_figuresOf 24 = .ok (.iaload, 1) := by decide +kernel
theorem dX9_figuresOf_25 : decode cX9_figuresOf 25 = .ok (.goto 4, 3) := by decide +kernel
theorem dX9_figuresOf_28 : decode cX9_figuresOf 28 = .ok (.iconst 0, 1) := by decide +kernel
theorem dX9_figuresOf_29 : decode cX9_figuresOf 29 = .ok (.iadd, 1) := by decide +kernel
theorem dX9_figuresOf_30 : decode cX9_figuresOf 30 = .ok (.istore_n 2, 1) := by decide +kernel
theorem dX9_figuresOf_31 : decode cX9_figuresOf 31 = .ok (.iinc 3 1, 3) := by decide +kernel
theorem dX9_figuresOf_34 : decode cX9_figuresOf 34 = .ok (.goto (-30), 3) := by decide +kernel
theorem dX9_figuresOf_37 : decode cX9_figuresOf 37 = .ok (.iload_n 2, 1) := by decide +kernel
theorem dX9_figuresOf_38 : decode cX9_figuresOf 38 = .ok (.ireturn, 1) := by decide +kernel
set_option maxRecDepth 20000 in
theorem ggX9_plan_X9_isReader : GoodIn wsX9_plan wsX9_isReader := goodIn_r _ [4, 5, 6, 7, 3, 8] (by decide +kernel) (by decide +kernel)
set_option maxRecDepth 20000 in
theorem gX9_plan_X9_isReader : GoodIn wsX9_plan (va_wsS RX9 103 yX9_isReader wsX9_isReader) := goodIn_app (goodIn_of _ (by decide +kernel)) ggX9_plan_X9_isReader
set_option maxRecDepth 20000 in
theorem ggX9_plan_X9_in : GoodIn wsX9_plan wsX9_in := goodIn_r _ [8] (by decide +kernel) (by decide +kernel)
set_option maxRecDepth 20000 in
theorem gX9_plan_X9_in : GoodIn wsX9_plan (va_wsS RX9 83 yX9_in wsX9_in) := goodIn_app (goodIn_of _ (by decide +kernel)) ggX9_plan_X9_in
set_option maxRecDepth 20000 in
theorem ggX9_plan_X9_canBe : GoodIn wsX9_plan wsX9_canBe := goodIn_r _ [12, 13, 14, 15, 3, 16, 17, 18, 19, 20, 21, 22, 23, 24, 25, 26, 27, 28, 29, 30, 31, 32, 33, 34, 35, 36, 37, 38, 39, 40, 46, 47, 48, 49, 50, 51, 52, 53, 54, 55, 56, 57, 58, 59, 60, 61, 62, 63, 64, 65, 66, 67, 68, 69, 70, 71, 72, 73, 74, 75, 76, 77, 78, 79, 80, 81, 82] (by decide +kernel) (by decide +kernel)
set_option maxRecDepth 20000 in
theorem gX9_plan_X9_canBe : GoodIn wsX9_plan (wsV RX9 268 RX9 yX9_canBe wsX9_canBe) := goodIn_app (goodIn_of _ (by decide +kernel)) ggX9_plan_X9_canBe
set_option maxRecDepth 20000 in
theorem ggX9_plan_X9_figuresOf : GoodIn wsX9_plan wsX9_figuresOf := goodIn_r _ [44, 45, 14, 15, 3, 16, 46, 47, 48, 49, 50, 51, 52, 53, 54, 55, 56, 57, 58, 59, 60, 61, 62, 63, 64, 65, 66, 67, 68, 69, 70, 71, 72, 73, 74, 75, 76, 77, 78, 79, 80, 81, 82] (by decide +kernel) (by decide +kernel)
set_option maxRecDepth 20000 in
theorem gX9_plan_X9_figuresOf : GoodIn wsX9_plan (wsV RX9 271 RX9 yX9_figuresOf wsX9_figuresOf) := goodIn_app (goodIn_of _ (by decide +kernel)) ggX9_plan_X9_figuresOf
theorem dX9_plan_0 : decode cX9_plan 0 = .ok (.iload_n 1, 1) := by decide +kernel
theorem dX9_plan_1 : decode cX9_plan 1 = .ok (.invokestatic 103, 3) := by decide +kernel
theorem dX9_plan_4 : decode cX9_plan 4 = .ok (.ifCond .ne 5, 3) := by decide +kernel
theorem dX9_plan_7 : decode cX9_plan 7 = .ok (.iconst (-1), 1) := by decide +kernel
theorem dX9_plan_8 : decode cX9_plan 8 = .ok (.ireturn, 1) := by decide +kernel
theorem dX9_plan_9 : decode cX9_plan 9 = .ok (.iload_n 2, 1) := by decide +kernel
theorem dX9_plan_10 : decode cX9_plan 10 = .ok (.i2l, 1) := by decide +kernel
theorem dX9_plan_11 : decode cX9_plan 11 = .ok (.lconst 0, 1) := by decide +kernel
theorem dX9_plan_12 : decode cX9_plan 12 = .ok (.lconst 1, 1) := by decide +kernel
theorem dX9_plan_13 : decode cX9_plan 13 = .ok (.invokestatic 83, 3) := by decide +kernel
theorem dX9_plan_16 : decode cX9_plan 16 = .ok (.ifCond .ne 6, 3) := by decide +kernel
theorem dX9_plan_19 : decode cX9_plan 19 = .ok (.bipush (-2), 2) := by decide +kernel
theorem dX9_plan_21 : decode cX9_plan 21 = .ok (.ireturn, 1) := by decide +kernel
theorem dX9_plan_22 : decode cX9_plan 22 = .ok (.iconst 0, 1) := by decide +kernel
theorem dX9_plan_23 : decode cX9_plan 23 = .ok (.istore_n 3, 1) := by decide +kernel
theorem dX9_plan_24 : decode cX9_plan 24 = .ok (.iconst 1, 1) := by decide +kernel
theorem dX9_plan_25 : decode cX9_plan 25 = .ok (.istore 4, 2) := by decide +kernel
theorem dX9_plan_27 : decode cX9_plan 27 = .ok (.iload 4, 2) := by decide +kernel
theorem dX9_plan_29 : decode cX9_plan 29 = .ok (.sipush 256, 3) := by decide +kernel
theorem dX9_plan_32 : decode cX9_plan 32 = .ok (.if_icmp .ge 40, 3) := by decide +kernel
theorem dX9_plan_35 : decode cX9_plan 35 = .ok (.aload_n 0, 1) := by decide +kernel
theorem dX9_plan_36 : decode cX9_plan 36 = .ok (.iload 4, 2) := by decide +kernel
theorem dX9_plan_38 : decode cX9_plan 38 = .ok (.iload_n 1, 1) := by decide +kernel
theorem dX9_plan_39 : decode cX9_plan 39 = .ok (.invokevirtual 268, 3) := by decide +kernel
theorem dX9_plan_42 : decode cX9_plan 42 = .ok (.ifCond .eq 22, 3) := by decide +kernel
theorem dX9_plan_45 : decode cX9_plan 45 = .ok (.aload_n 0, 1) := by decide +kernel
theorem dX9_plan_46 : decode cX9_plan 46 = .ok (.iload 4, 2) := by decide +kernel
theorem dX9_plan_48 : decode cX9_plan 48 = .ok (.invokevirtual 271, 3) := by decide +kernel
theorem dX9_plan_51 : decode cX9_plan 51 = .ok (.aload_n 0, 1) := by decide +kernel
theorem dX9_plan_52 : decode cX9_plan 52 = .ok (.iload_n 3, 1) := by decide +kernel
theorem dX9_plan_53 : decode cX9_plan 53 = .ok (.invokevirtual 271, 3) := by decide +kernel
theorem dX9_plan_56 : decode cX9_plan 56 = .ok (.if_icmp .le 8, 3) := by decide +kernel
theorem dX9_plan_59 : decode cX9_plan 59 = .ok (.iload 4, 2) := by decide +kernel
theorem dX9_plan_61 : decode cX9_plan 61 = .ok (.goto 4, 3) := by decide +kernel
theorem dX9_plan_64 : decode cX9_plan 64 = .ok (.iload_n 3, 1) := by decide +kernel
theorem dX9_plan_65 : decode cX9_plan 65 = .ok (.istore_n 3, 1) := by decide +kernel
theorem dX9_plan_66 : decode cX9_plan 66 = .ok (.iinc 4 1, 3) := by decide +kernel
theorem dX9_plan_69 : decode cX9_plan 69 = .ok (.goto (-42), 3) := by decide +kernel
theorem dX9_plan_72 : decode cX9_plan 72 = .ok (.iload_n 2, 1) := by decide +kernel
theorem dX9_plan_73 : decode cX9_plan 73 = .ok (.ifCond .ne 11, 3) := by decide +kernel
theorem dX9_plan_76 : decode cX9_plan 76 = .ok (.aload_n 0, 1) := by decide +kernel
