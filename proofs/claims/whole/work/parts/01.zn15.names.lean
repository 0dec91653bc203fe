theorem dX9_plan_77 : decode cX9_plan 77 = .ok (.iload_n 3, 1) := by decide +kernel
theorem dX9_plan_78 : decode cX9_plan 78 = .ok (.invokevirtual 271, 3) := by decide +kernel
theorem dX9_plan_81 : decode cX9_plan 81 = .ok (.goto 4, 3) := by decide +kernel
theorem dX9_plan_84 : decode cX9_plan 84 = .ok (.iload_n 3, 1) := by decide +kernel
theorem dX9_plan_85 : decode cX9_plan 85 = .ok (.ireturn, 1) := by decide +kernel
set_option maxRecDepth 20000 in
theorem ggX9_near_X9_apart : GoodIn wsX9_near wsX9_apart := goodIn_r _ [4] (by decide +kernel) (by decide +kernel)
set_option maxRecDepth 20000 in
theorem gX9_near_X9_apart : GoodIn wsX9_near (va_wsS RX9 255 yX9_apart wsX9_apart) := goodIn_app (goodIn_of _ (by decide +kernel)) ggX9_near_X9_apart
theorem dX9_near_0 : decode cX9_near 0 = .ok (.iconst 0, 1) := by decide +kernel
theorem dX9_near_1 : decode cX9_near 1 = .ok (.istore_n 2, 1) := by decide +kernel
theorem dX9_near_2 : decode cX9_near 2 = .ok (.iconst 0, 1) := by decide +kernel
theorem dX9_near_3 : decode cX9_near 3 = .ok (.istore_n 3, 1) := by decide +kernel
theorem dX9_near_4 : decode cX9_near 4 = .ok (.iload_n 3, 1) := by decide +kernel
theorem dX9_near_5 : decode cX9_near 5 = .ok (.bipush 12, 2) := by decide +kernel
theorem dX9_near_7 : decode cX9_near 7 = .ok (.if_icmp .ge 28, 3) := by decide +kernel
theorem dX9_near_10 : decode cX9_near 10 = .ok (.iload_n 2, 1) := by decide +kernel
theorem dX9_near_11 : decode cX9_near 11 = .ok (.iload_n 0, 1) := by decide +kernel
theorem dX9_near_12 : decode cX9_near 12 = .ok (.iload_n 3, 1) := by decide +kernel
theorem dX9_near_13 : decode cX9_near 13 = .ok (.invokestatic 255, 3) := by decide +kernel
theorem dX9_near_16 : decode cX9_near 16 = .ok (.iload_n 1, 1) := by decide +kernel
theorem dX9_near_17 : decode cX9_near 17 = .ok (.if_icmp .gt 9, 3) := by decide +kernel
theorem dX9_near_20 : decode cX9_near 20 = .ok (.iconst 1, 1) := by decide +kernel
theorem dX9_near_21 : decode cX9_near 21 = .ok (.iload_n 3, 1) := by decide +kernel
theorem dX9_near_22 : decode cX9_near 22 = .ok (.ishl, 1) := by decide +kernel
theorem dX9_near_23 : decode cX9_near 23 = .ok (.goto 4, 3) := by decide +kernel
theorem dX9_near_26 : decode cX9_near 26 = .ok (.iconst 0, 1) := by decide +kernel
theorem dX9_near_27 : decode cX9_near 27 = .ok (.ior, 1) := by decide +kernel
theorem dX9_near_28 : decode cX9_near 28 = .ok (.istore_n 2, 1) := by decide +kernel
theorem dX9_near_29 : decode cX9_near 29 = .ok (.iinc 3 1, 3) := by decide +kernel
theorem dX9_near_32 : decode cX9_near 32 = .ok (.goto (-28), 3) := by decide +kernel
theorem dX9_near_35 : decode cX9_near 35 = .ok (.iload_n 2, 1) := by decide +kernel
theorem dX9_near_36 : decode cX9_near 36 = .ok (.ireturn, 1) := by decide +kernel
set_option maxRecDepth 20000 in
theorem ggX9_nearAll_X9_has : GoodIn wsX9_nearAll wsX9_has := goodIn_r _ [4] (by decide +kernel) (by decide +kernel)
set_option maxRecDepth 20000 in
theorem gX9_nearAll_X9_has : GoodIn wsX9_nearAll (va_wsS RX9 261 yX9_has wsX9_has) := goodIn_app (goodIn_of _ (by decide +kernel)) ggX9_nearAll_X9_has
set_option maxRecDepth 20000 in
theorem ggX9_nearAll_X9_near : GoodIn wsX9_nearAll wsX9_near := goodIn_r _ [7, 8, 9, 3, 10] (by decide +kernel) (by decide +kernel)
set_option maxRecDepth 20000 in
theorem gX9_nearAll_X9_near : GoodIn wsX9_nearAll (va_wsS RX9 274 yX9_near wsX9_near) := goodIn_app (goodIn_of _ (by decide +kernel)) ggX9_nearAll_X9_near
theorem dX9_nearAll_0 : decode cX9_nearAll 0 = .ok (.iconst 0, 1) := by decide +kernel
theorem dX9_nearAll_1 : decode cX9_nearAll 1 = .ok (.istore_n 2, 1) := by decide +kernel
theorem dX9_nearAll_2 : decode cX9_nearAll 2 = .ok (.iconst 0, 1) := by decide +kernel
theorem dX9_nearAll_3 : decode cX9_nearAll 3 = .ok (.istore_n 3, 1) := by decide +kernel
theorem dX9_nearAll_4 : decode cX9_nearAll 4 = .ok (.iload_n 3, 1) := by decide +kernel
theorem dX9_nearAll_5 : decode cX9_nearAll 5 = .ok (.bipush 12, 2) := by decide +kernel
theorem dX9_nearAll_7 : decode cX9_nearAll 7 = .ok (.if_icmp .ge 29, 3) := by decide +kernel
theorem dX9_nearAll_10 : decode cX9_nearAll 10 = .ok (.iload_n 2, 1) := by decide +kernel
theorem dX9_nearAll_11 : decode cX9_nearAll 11 = .ok (.iload_n 0, 1) := by decide +kernel
theorem dX9_nearAll_12 : decode cX9_nearAll 12 = .ok (.iload_n 3, 1) := by decide +kernel
theorem dX9_nearAll_13 : decode cX9_nearAll 13 = .ok (.invokestatic 261, 3) := by decide +kernel
theorem dX9_nearAll_16 : decode cX9_nearAll 16 = .ok (.ifCond .eq 11, 3) := by decide +kernel
theorem dX9_nearAll_19 : decode cX9_nearAll 19 = .ok (.iload_n 3, 1) := by decide +kernel
theorem dX9_nearAll_20 : decode cX9_nearAll 20 = .ok (.iload_n 1, 1) := by decide +kernel
theorem dX9_nearAll_21 : decode cX9_nearAll 21 = .ok (.invokestatic 274, 3) := by decide +kernel
theorem dX9_nearAll_24 : decode cX9_nearAll 24 = .ok (.goto 4, 3) := by decide +kernel
theorem dX9_nearAll_27 : decode cX9_nearAll 27 = .ok (.iconst 0, 1) := by decide +kernel
theorem dX9_nearAll_28 : decode cX9_nearAll 28 = .ok (.ior, 1) := by decide +kernel
theorem dX9_nearAll_29 : decode cX9_nearAll 29 = .ok (.istore_n 2, 1) := by decide +kernel
theorem dX9_nearAll_30 : decode cX9_nearAll 30 = .ok (.iinc 3 1, 3) := by decide +kernel
theorem dX9_nearAll_33 : decode cX9_nearAll 33 = .ok (.goto (-29), 3) := by decide +kernel
theorem dX9_nearAll_36 : decode cX9_nearAll 36 = .ok (.iload_n 2, 1) := by decide +kernel
theorem dX9_nearAll_37 : decode cX9_nearAll 37 = .ok (.ireturn, 1) := by decide +kernel
set_option maxRecDepth 20000 in
theorem ggX9_cover_X9_in : GoodIn wsX9_cover wsX9_in := goodIn_r _ [6] (by decide +kernel) (by decide +kernel)
set_option maxRecDepth 20000 in
theorem gX9_cover_X9_in : GoodIn wsX9_cover (va_wsS RX9 83 yX9_in wsX9_in) := goodIn_app (goodIn_of _ (by decide +kernel)) ggX9_cover_X9_in
set_option maxRecDepth 20000 in
theorem ggX9_cover_X9_ones : GoodIn wsX9_cover wsX9_ones := goodIn_r _ [9] (by decide +kernel) (by decide +kernel)
set_option maxRecDepth 20000 in
theorem gX9_cover_X9_ones : GoodIn wsX9_cover (va_wsS RX9 277 yX9_ones wsX9_ones) := goodIn_app (goodIn_of _ (by decide +kernel)) ggX9_cover_X9_ones
set_option maxRecDepth 20000 in
theorem ggX9_cover_X9_nearAll : GoodIn wsX9_cover wsX9_nearAll := goodIn_r _ [12, 13, 14, 5, 15, 16, 17, 18, 19, 20, 21] (by decide +kernel) (by decide +kernel)
set_option maxRecDepth 20000 in
theorem gX9_cover_X9_nearAll : GoodIn wsX9_cover (va_wsS RX9 280 yX9_nearAll wsX9_nearAll) := goodIn_app (goodIn_of _ (by decide +kernel)) ggX9_cover_X9_nearAll
theorem dX9_cover_0 : decode cX9_cover 0 = .ok (.iload_n 1, 1) := by decide +kernel
theorem dX9_cover_1 : decode cX9_cover 1 = .ok (.i2l, 1) := by decide +kernel
theorem dX9_cover_2 : decode cX9_cover 2 = .ok (.lconst 0, 1) := by decide +kernel
theorem dX9_cover_3 : decode cX9_cover 3 = .ok (.ldc2_w 89, 3) := by decide +kernel
theorem dX9_cover_6 : decode cX9_cover 6 = .ok (.invokestatic 83, 3) := by decide +kernel
theorem dX9_cover_9 : decode cX9_cover 9 = .ok (.ifCond .eq 13, 3) := by decide +kernel
theorem dX9_cover_12 : decode cX9_cover 12 = .ok (.iload_n 2, 1) := by decide +kernel
theorem dX9_cover_13 : decode cX9_cover 13 = .ok (.i2l, 1) := by decide +kernel
theorem dX9_cover_14 : decode cX9_cover 14 = .ok (.lconst 0, 1) := by decide +kernel
theorem dX9_cover_15 : decode cX9_cover 15 = .ok (.lconst 1, 1) := by decide +kernel
theorem dX9_cover_16 : decode cX9_cover 16 = .ok (.invokestatic 83, 3) := by decide +kernel
theorem dX9_cover_19 : decode cX9_cover 19 = .ok (.ifCond .ne 6, 3) := by decide +kernel
theorem dX9_cover_22 : decode cX9_cover 22 = .ok (.bipush (-2), 2) := by decide +kernel
theorem dX9_cover_24 : decode cX9_cover 24 = .ok (.ireturn, 1) := by decide +kernel
theorem dX9_cover_25 : decode cX9_cover 25 = .ok (.iconst 0, 1) := by decide +kernel
theorem dX9_cover_26 : decode cX9_cover 26 = .ok (.istore_n 3, 1) := by decide +kernel
theorem dX9_cover_27 : decode cX9_cover 27 = .ok (.iconst 0, 1) := by decide +kernel
theorem dX9_cover_28 : decode cX9_cover 28 = .ok (.istore 4, 2) := by decide +kernel
theorem dX9_cover_30 : decode cX9_cover 30 = .ok (.iload 4, 2) := by decide +kernel
theorem dX9_cover_32 : decode cX9_cover 32 = .ok (.bipush 8, 2) := by decide +kernel
theorem dX9_cover_34 : decode cX9_cover 34 = .ok (.if_icmp .ge 35, 3) := by decide +kernel
theorem dX9_cover_37 : decode cX9_cover 37 = .ok (.iload_n 3, 1) := by decide +kernel
theorem dX9_cover_38 : decode cX9_cover 38 = .ok (.aload_n 0, 1) := by decide +kernel
theorem dX9_cover_39 : decode cX9_cover 39 = .ok (.getfield 16, 3) := by decide +kernel
theorem dX9_cover_42 : decode cX9_cover 42 = .ok (.iload 4, 2) := by decide +kernel
theorem dX9_cover_44 : decode cX9_cover 44 = .ok (.iaload, 1) := by decide +kernel
theorem dX9_cover_45 : decode cX9_cover 45 = .ok (.ifCond .lt 15, 3) := by decide +kernel
theorem dX9_cover_48 : decode cX9_cover 48 = .ok (.iconst 1, 1) := by decide +kernel
theorem dX9_cover_49 : decode cX9_cover 49 = .ok (.aload_n 0, 1) := by decide +kernel
theorem dX9_cover_50 : decode cX9_cover 50 = .ok (.getfield 16, 3) := by decide +kernel
theorem dX9_cover_53 : decode cX9_cover 53 = .ok (.iload 4, 2) := by decide +kernel
theorem dX9_cover_55 : decode cX9_cover 55 = .ok (.iaload, 1) := by decide +kernel
theorem dX9_cover_56 : decode cX9_cover 56 = .ok (.ishl, 1) := by decide +kernel
theorem dX9_cover_57 : decode cX9_cover 57 = .ok (.goto 4, 3) := by decide +kernel
theorem dX9_cover_60 : decode cX9_cover 60 = .ok (.iconst 0, 1) := by decide +kernel
theorem dX9_cover_61 : decode cX9_cover 61 = .ok (.ior, 1) := by decide +kernel
theorem dX9_cover_62 : decode cX9_cover 62 = .ok (.istore_n 3, 1) := by decide +kernel
theorem dX9_cover_63 : decode cX9_cover 63 = .ok (.iinc 4 1, 3) := by decide +kernel
theorem dX9_cover_66 : decode cX9_cover 66 = .ok (.goto (-36), 3) := by decide +kernel
theorem dX9_cover_69 : decode cX9_cover 69 = .ok (.sipush 4095, 3) := by decide +kernel
theorem dX9_cover_72 : decode cX9_cover 72 = .ok (.istore 4, 2) := by decide +kernel
theorem dX9_cover_74 : decode cX9_cover 74 = .ok (.iconst 0, 1) := by decide +kernel
theorem dX9_cover_75 : decode cX9_cover 75 = .ok (.istore 5, 2) := by decide +kernel
theorem dX9_cover_77 : decode cX9_cover 77 = .ok (.iload 5, 2) := by decide +kernel
theorem dX9_cover_79 : decode cX9_cover 79 = .ok (.sipush 4096, 3) := by decide +kernel
theorem dX9_cover_82 : decode cX9_cover 82 = .ok (.if_icmp .ge 44, 3) := by decide +kernel
theorem dX9_cover_85 : decode cX9_cover 85 = .ok (.iload 5, 2) := by decide +kernel
theorem dX9_cover_87 : decode cX9_cover 87 = .ok (.invokestatic 277, 3) := by decide +kernel
theorem dX9_cover_90 : decode cX9_cover 90 = .ok (.iload 4, 2) := by decide +kernel
theorem dX9_cover_92 : decode cX9_cover 92 = .ok (.invokestatic 277, 3) := by decide +kernel
theorem dX9_cover_95 : decode cX9_cover 95 = .ok (.if_icmp .ge 21, 3) := by decide +kernel
theorem dX9_cover_98 : decode cX9_cover 98 = .ok (.iload_n 3, 1) := by decide +kernel
theorem dX9_cover_99 : decode cX9_cover 99 = .ok (.iload 5, 2) := by decide +kernel
theorem dX9_cover_101 : decode cX9_cover 101 = .ok (.iload_n 1, 1) := by decide +kernel
theorem dX9_cover_102 : decode cX9_cover 102 = .ok (.invokestatic 280, 3) := by decide +kernel
theorem dX9_cover_105 : decode cX9_cover 105 = .ok (.iconst (-1), 1) := by decide +kernel
theorem dX9_cover_106 : decode cX9_cover 106 = .ok (.ixor, 1) := by decide +kernel
theorem dX9_cover_107 : decode cX9_cover 107 = .ok (.iand, 1) := by decide +kernel
theorem dX9_cover_108 : decode cX9_cover 108 = .ok (.ifCond .ne 8, 3) := by decide +kernel
theorem dX9_cover_111 : decode cX9_cover 111 = .ok (.iload 5, 2) := by decide +kernel
theorem dX9_cover_113 : decode cX9_cover 113 = .ok (.goto 5, 3) := by decide +kernel
theorem dX9_cover_116 : decode cX9_cover 116 = .ok (.iload 4, 2) := by decide +kernel
theorem dX9_cover_118 : decode cX9_cover 118 = .ok (.istore 4, 2) := by decide +kernel
theorem dX9_cover_120 : decode cX9_cover 120 = .ok (.iinc 5 1, 3) := by decide +kernel
theorem dX9_cover_123 : decode cX9_cover 123 = .ok (.goto (-46), 3) := by decide +kernel
theorem dX9_cover_126 : decode cX9_cover 126 = .ok (.iload_n 2, 1) := by decide +kernel
theorem dX9_cover_127 : decode cX9_cover 127 = .ok (.ifCond .ne 11, 3) := by decide +kernel
theorem dX9_cover_130 : decode cX9_cover 130 = .ok (.iload 4, 2) := by decide +kernel
theorem dX9_cover_132 : decode cX9_cover 132 = .ok (.invokestatic 277, 3) := by decide +kernel
theorem dX9_cover_135 : decode cX9_cover 135 = .ok (.goto 5, 3) := by decide +kernel
theorem dX9_cover_138 : decode cX9_cover 138 = .ok (.iload 4, 2) := by decide +kernel
theorem dX9_cover_140 : decode cX9_cover 140 = .ok (.ireturn, 1) := by decide +kernel
set_option maxRecDepth 20000 in
theorem ggX9_seen_X9_in : GoodIn wsX9_seen wsX9_in := goodIn_r _ [10] (by decide +kernel) (by decide +kernel)
set_option maxRecDepth 20000 in
theorem gX9_seen_X9_in : GoodIn wsX9_seen (va_wsS RX9 83 yX9_in wsX9_in) := goodIn_app (goodIn_of _ (by decide +kernel)) ggX9_seen_X9_in
theorem dX9_seen_0 : decode cX9_seen 0 = .ok (.iload_n 1, 1) := by decide +kernel
theorem dX9_seen_1 : decode cX9_seen 1 = .ok (.i2l, 1) := by decide +kernel
theorem dX9_seen_2 : decode cX9_seen 2 = .ok (.lconst 1, 1) := by decide +kernel
theorem dX9_seen_3 : decode cX9_seen 3 = .ok (.ldc2_w 283, 3) := by decide +kernel
theorem dX9_seen_6 : decode cX9_seen 6 = .ok (.invokestatic 83, 3) := by decide +kernel
theorem dX9_seen_9 : decode cX9_seen 9 = .ok (.ifCond .eq 27, 3) := by decide +kernel
theorem dX9_seen_12 : decode cX9_seen 12 = .ok (.iload_n 2, 1) := by decide +kernel
theorem dX9_seen_13 : decode cX9_seen 13 = .ok (.i2l, 1) := by decide +kernel
theorem dX9_seen_14 : decode cX9_seen 14 = .ok (.lconst 0, 1) := by decide +kernel
theorem dX9_seen_15 : decode cX9_seen 15 = .ok (.ldc2_w 87, 3) := by decide +kernel
theorem dX9_seen_18 : decode cX9_seen 18 = .ok (.invokestatic 83, 3) := by decide +kernel
theorem dX9_seen_21 : decode cX9_seen 21 = .ok (.ifCond .eq 15, 3) := by decide +kernel
theorem dX9_seen_24 : decode cX9_seen 24 = .ok (.iload_n 3, 1) := by decide +kernel
theorem dX9_seen_25 : decode cX9_seen 25 = .ok (.i2l, 1) := by decide +kernel
theorem dX9_seen_26 : decode cX9_seen 26 = .ok (.lconst 0, 1) := by decide +kernel
theorem dX9_seen_27 : decode cX9_seen 27 = .ok (.ldc2_w 87, 3) := by decide +kernel
theorem dX9_seen_30 : decode cX9_seen 30 = .ok (.invokestatic 83, 3) := by decide +kernel
theorem dX9_seen_33 : decode cX9_seen 33 = .ok (.ifCond .ne 6, 3) := by decide +kernel
theorem dX9_seen_36 : decode cX9_seen 36 = .ok (.bipush (-2), 2) := by decide +kernel
theorem dX9_seen_38 : decode cX9_seen 38 = .ok (.ireturn, 1) := by decide +kernel
theorem dX9_seen_39 : decode cX9_seen 39 = .ok (.aload_n 0, 1) := by decide +kernel
theorem dX9_seen_40 : decode cX9_seen 40 = .ok (.getfield 285, 3) := by decide +kernel
theorem dX9_seen_43 : decode cX9_seen 43 = .ok (.bipush 8, 2) := by decide +kernel
theorem dX9_seen_45 : decode cX9_seen 45 = .ok (.if_icmp .ne 6, 3) := by decide +kernel
theorem dX9_seen_48 : decode cX9_seen 48 = .ok (.bipush (-4), 2) := by decide +kernel
theorem dX9_seen_50 : decode cX9_seen 50 = .ok (.ireturn, 1) := by decide +kernel
theorem dX9_seen_51 : decode cX9_seen 51 = .ok (.aload_n 0, 1) := by decide +kernel
theorem dX9_seen_52 : decode cX9_seen 52 = .ok (.getfield 37, 3) := by decide +kernel
theorem dX9_seen_55 : decode cX9_seen 55 = .ok (.aload_n 0, 1) := by decide +kernel
theorem dX9_seen_56 : decode cX9_seen 56 = .ok (.getfield 285, 3) := by decide +kernel
theorem dX9_seen_59 : decode cX9_seen 59 = .ok (.iload_n 1, 1) := by decide +kernel
theorem dX9_seen_60 : decode cX9_seen 60 = .ok (.iastore, 1) := by decide +kernel
theorem dX9_seen_61 : decode cX9_seen 61 = .ok (.aload_n 0, 1) := by decide +kernel
theorem dX9_seen_62 : decode cX9_seen 62 = .ok (.getfield 40, 3) := by decide +kernel
theorem dX9_seen_65 : decode cX9_seen 65 = .ok (.aload_n 0, 1) := by decide +kernel
theorem dX9_seen_66 : decode cX9_seen 66 = .ok (.getfield 285, 3) := by decide +kernel
theorem dX9_seen_69 : decode cX9_seen 69 = .ok (.iload_n 2, 1) := by decide +kernel
theorem dX9_seen_70 : decode cX9_seen 70 = .ok (.iastore, 1) := by decide +kernel
theorem dX9_seen_71 : decode cX9_seen 71 = .ok (.aload_n 0, 1) := by decide +kernel
theorem dX9_seen_72 : decode cX9_seen 72 = .ok (.getfield 43, 3) := by decide +kernel
theorem dX9_seen_75 : decode cX9_seen 75 = .ok (.aload_n 0, 1) := by decide +kernel
theorem dX9_seen_76 : decode cX9_seen 76 = .ok (.getfield 285, 3) := by decide +kernel
theorem dX9_seen_79 : decode cX9_seen 79 = .ok (.iload_n 3, 1) := by decide +kernel
theorem dX9_seen_80 : decode cX9_seen 80 = .ok (.iastore, 1) := by decide +kernel
theorem dX9_seen_81 : decode cX9_seen 81 = .ok (.aload_n 0, 1) := by decide +kernel
theorem dX9_seen_82 : decode cX9_seen 82 = .ok (.dup, 1) := by decide +kernel
theorem dX9_seen_83 : decode cX9_seen 83 = .ok (.getfield 285, 3) := by decide +kernel
theorem dX9_seen_86 : decode cX9_seen 86 = .ok (.iconst 1, 1) := by decide +kernel
theorem dX9_seen_87 : decode cX9_seen 87 = .ok (.iadd, 1) := by decide +kernel
theorem dX9_seen_88 : decode cX9_seen 88 = .ok (.putfield 285, 3) := by decide +kernel
theorem dX9_seen_91 : decode cX9_seen 91 = .ok (.aload_n 0, 1) := by decide +kernel
theorem dX9_seen_92 : decode cX9_seen 92 = .ok (.getfield 285, 3) := by decide +kernel
theorem dX9_seen_95 : decode cX9_seen 95 = .ok (.ireturn, 1) := by decide +kernel
theorem dX9_forget_0 : decode cX9_forget 0 = .ok (.aload_n 0, 1) := by decide +kernel
theorem dX9_forget_1 : decode cX9_forget 1 = .ok (.getfield 285, 3) := by decide +kernel
theorem dX9_forget_4 : decode cX9_forget 4 = .ok (.istore_n 1, 1) := by decide +kernel
theorem dX9_forget_5 : decode cX9_forget 5 = .ok (.aload_n 0, 1) := by decide +kernel
theorem dX9_forget_6 : decode cX9_forget 6 = .ok (.iconst 0, 1) := by decide +kernel
theorem dX9_forget_7 : decode cX9_forget 7 = .ok (.putfield 285, 3) := by decide +kernel
theorem dX9_forget_10 : decode cX9_forget 10 = .ok (.iload_n 1, 1) := by decide +kernel
theorem dX9_forget_11 : decode cX9_forget 11 = .ok (.ireturn, 1) := by decide +kernel
theorem dX9_ofWhom_0 : decode cX9_ofWhom 0 = .ok (.iload_n 0, 1) := by decide +kernel
theorem dX9_ofWhom_1 : decode cX9_ofWhom 1 = .ok (.iconst 2, 1) := by decide +kernel
theorem dX9_ofWhom_2 : decode cX9_ofWhom 2 = .ok (.iconst 3, 1) := by decide +kernel
theorem dX9_ofWhom_3 : decode cX9_ofWhom 3 = .ok (.iload_n 1, 1) := by decide +kernel
theorem dX9_ofWhom_4 : decode cX9_ofWhom 4 = .ok (.isub, 1) := by decide +kernel
theorem dX9_ofWhom_5 : decode cX9_ofWhom 5 = .ok (.imul, 1) := by decide +kernel
theorem dX9_ofWhom_6 : decode cX9_ofWhom 6 = .ok (.ishr, 1) := by decide +kernel
theorem dX9_ofWhom_7 : decode cX9_ofWhom 7 = .ok (.iconst 3, 1) := by decide +kernel
theorem dX9_ofWhom_8 : decode cX9_ofWhom 8 = .ok (.iand, 1) := by decide +kernel
theorem dX9_ofWhom_9 : decode cX9_ofWhom 9 = .ok (.ireturn, 1) := by decide +kernel
set_option maxRecDepth 20000 in
theorem ggX9_thinkOf_X9_has : GoodIn wsX9_thinkOf wsX9_has := goodIn_r _ [4] (by decide +kernel) (by decide +kernel)
set_option maxRecDepth 20000 in
theorem gX9_thinkOf_X9_has : GoodIn wsX9_thinkOf (va_wsS RX9 261 yX9_has wsX9_has) := goodIn_app (goodIn_of _ (by decide +kernel)) ggX9_thinkOf_X9_has
set_option maxRecDepth 20000 in
theorem ggX9_thinkOf_X9_ofWhom : GoodIn wsX9_thinkOf wsX9_ofWhom := goodIn_r _ [7] (by decide +kernel) (by decide +kernel)
set_option maxRecDepth 20000 in
theorem gX9_thinkOf_X9_ofWhom : GoodIn wsX9_thinkOf (va_wsS RX9 288 yX9_ofWhom wsX9_ofWhom) := goodIn_app (goodIn_of _ (by decide +kernel)) ggX9_thinkOf_X9_ofWhom
theorem dX9_thinkOf_0 : decode cX9_thinkOf 0 = .ok (.iconst 0, 1) := by decide +kernel
theorem dX9_thinkOf_1 : decode cX9_thinkOf 1 = .ok (.istore_n 3, 1) := by decide +kernel
theorem dX9_thinkOf_2 : decode cX9_thinkOf 2 = .ok (.iconst 0, 1) := by decide +kernel
theorem dX9_thinkOf_3 : decode cX9_thinkOf 3 = .ok (.istore 4, 2) := by decide +kernel
theorem dX9_thinkOf_5 : decode cX9_thinkOf 5 = .ok (.iload 4, 2) := by decide +kernel
theorem dX9_thinkOf_7 : decode cX9_thinkOf 7 = .ok (.iconst 4, 1) := by decide +kernel
theorem dX9_thinkOf_8 : decode cX9_thinkOf 8 = .ok (.if_icmp .ge 36, 3) := by decide +kernel
theorem dX9_thinkOf_11 : decode cX9_thinkOf 11 = .ok (.iload_n 3, 1) := by decide +kernel
theorem dX9_thinkOf_12 : decode cX9_thinkOf 12 = .ok (.iload_n 1, 1) := by decide +kernel
theorem dX9_thinkOf_13 : decode cX9_thinkOf 13 = .ok (.iload 4, 2) := by decide +kernel
theorem dX9_thinkOf_15 : decode cX9_thinkOf 15 = .ok (.invokestatic 261, 3) := by decide +kernel
theorem dX9_thinkOf_18 : decode cX9_thinkOf 18 = .ok (.ifCond .eq 17, 3) := by decide +kernel
theorem dX9_thinkOf_21 : decode cX9_thinkOf 21 = .ok (.iload_n 0, 1) := by decide +kernel
theorem dX9_thinkOf_22 : decode cX9_thinkOf 22 = .ok (.iload 4, 2) := by decide +kernel
theorem dX9_thinkOf_24 : decode cX9_thinkOf 24 = .ok (.invokestatic 288, 3) := by decide +kernel
theorem dX9_thinkOf_27 : decode cX9_thinkOf 27 = .ok (.iload_n 2, 1) := by decide +kernel
theorem dX9_thinkOf_28 : decode cX9_thinkOf 28 = .ok (.if_icmp .ne 7, 3) := by decide +kernel
theorem dX9_thinkOf_31 : decode cX9_thinkOf 31 = .ok (.iconst 1, 1) := by decide +kernel
theorem dX9_thinkOf_32 : decode cX9_thinkOf 32 = .ok (.goto 4, 3) := by decide +kernel
theorem dX9_thinkOf_35 : decode cX9_thinkOf 35 = .ok (.iconst 0, 1) := by decide +kernel
theorem dX9_thinkOf_36 : decode cX9_thinkOf 36 = .ok (.iadd, 1) := by decide +kernel
theorem dX9_thinkOf_37 : decode cX9_thinkOf 37 = .ok (.istore_n 3, 1) := by decide +kernel
theorem dX9_thinkOf_38 : decode cX9_thinkOf 38 = .ok (.iinc 4 1, 3) := by decide +kernel
theorem dX9_thinkOf_41 : decode cX9_thinkOf 41 = .ok (.goto (-36), 3) := by decide +kernel
theorem dX9_thinkOf_44 : decode cX9_thinkOf 44 = .ok (.iload_n 3, 1) := by decide +kernel
theorem dX9_thinkOf_45 : decode cX9_thinkOf 45 = .ok (.ireturn, 1) := by decide +kernel
set_option maxRecDepth 20000 in
theorem ggX9_isFit_X9_ofWhom : GoodIn wsX9_isFit wsX9_ofWhom := goodIn_r _ [8] (by decide +kernel) (by decide +kernel)
set_option maxRecDepth 20000 in
theorem gX9_isFit_X9_ofWhom : GoodIn wsX9_isFit (va_wsS RX9 288 yX9_ofWhom wsX9_ofWhom) := goodIn_app (goodIn_of _ (by decide +kernel)) ggX9_isFit_X9_ofWhom
set_option maxRecDepth 20000 in
theorem ggX9_isFit_X9_thinkOf : GoodIn wsX9_isFit wsX9_thinkOf := goodIn_r _ [11, 12, 13, 7, 14, 5, 6, 8] (by decide +kernel) (by decide +kernel)
set_option maxRecDepth 20000 in
theorem gX9_isFit_X9_thinkOf : GoodIn wsX9_isFit (va_wsS RX9 291 yX9_thinkOf wsX9_thinkOf) := goodIn_app (goodIn_of _ (by decide +kernel)) ggX9_isFit_X9_thinkOf
theorem dX9_isFit_0 : decode cX9_isFit 0 = .ok (.iconst 1, 1) := by decide +kernel
theorem dX9_isFit_1 : decode cX9_isFit 1 = .ok (.istore_n 2, 1) := by decide +kernel
theorem dX9_isFit_2 : decode cX9_isFit 2 = .ok (.iconst 0, 1) := by decide +kernel
theorem dX9_isFit_3 : decode cX9_isFit 3 = .ok (.istore_n 3, 1) := by decide +kernel
theorem dX9_isFit_4 : decode cX9_isFit 4 = .ok (.iload_n 3, 1) := by decide +kernel
theorem dX9_isFit_5 : decode cX9_isFit 5 = .ok (.iconst 4, 1) := by decide +kernel
theorem dX9_isFit_6 : decode cX9_isFit 6 = .ok (.if_icmp .ge 28, 3) := by decide +kernel
theorem dX9_isFit_9 : decode cX9_isFit 9 = .ok (.iload_n 2, 1) := by decide +kernel
theorem dX9_isFit_10 : decode cX9_isFit 10 = .ok (.ifCond .eq 16, 3) := by decide +kernel
theorem dX9_isFit_13 : decode cX9_isFit 13 = .ok (.iload_n 1, 1) := by decide +kernel
theorem dX9_isFit_14 : decode cX9_isFit 14 = .ok (.iload_n 3, 1) := by decide +kernel
theorem dX9_isFit_15 : decode cX9_isFit 15 = .ok (.invokestatic 288, 3) := by decide +kernel
theorem dX9_isFit_18 : decode cX9_isFit 18 = .ok (.iload_n 3, 1) := by decide +kernel
theorem dX9_isFit_19 : decode cX9_isFit 19 = .ok (.if_icmp .eq 7, 3) := by decide +kernel
theorem dX9_isFit_22 : decode cX9_isFit 22 = .ok (.iconst 1, 1) := by decide +kernel
theorem dX9_isFit_23 : decode cX9_isFit 23 = .ok (.goto 4, 3) := by decide +kernel
theorem dX9_isFit_26 : decode cX9_isFit 26 = .ok (.iconst 0, 1) := by decide +kernel
theorem dX9_isFit_27 : decode cX9_isFit 27 = .ok (.istore_n 2, 1) := by decide +kernel
theorem dX9_isFit_28 : decode cX9_isFit 28 = .ok (.iinc 3 1, 3) := by decide +kernel
theorem dX9_isFit_31 : decode cX9_isFit 31 = .ok (.goto (-27), 3) := by decide +kernel
theorem dX9_isFit_34 : decode cX9_isFit 34 = .ok (.iconst 0, 1) := by decide +kernel
theorem dX9_isFit_35 : decode cX9_isFit 35 = .ok (.istore_n 3, 1) := by decide +kernel
theorem dX9_isFit_36 : decode cX9_isFit 36 = .ok (.iload_n 3, 1) := by decide +kernel
theorem dX9_isFit_37 : decode cX9_isFit 37 = .ok (.aload_n 0, 1) := by decide +kernel
theorem dX9_isFit_38 : decode cX9_isFit 38 = .ok (.getfield 285, 3) := by decide +kernel
theorem dX9_isFit_41 : decode cX9_isFit 41 = .ok (.if_icmp .ge 44, 3) := by decide +kernel
theorem dX9_isFit_44 : decode cX9_isFit 44 = .ok (.iload_n 2, 1) := by decide +kernel
theorem dX9_isFit_45 : decode cX9_isFit 45 = .ok (.ifCond .eq 32, 3) := by decide +kernel
theorem dX9_isFit_48 : decode cX9_isFit 48 = .ok (.iload_n 1, 1) := by decide +kernel
theorem dX9_isFit_49 : decode cX9_isFit 49 = .ok (.aload_n 0, 1) := by decide +kernel
theorem dX9_isFit_50 : decode cX9_isFit 50 = .ok (.getfield 37, 3) := by decide +kernel
theorem dX9_isFit_53 : decode cX9_isFit 53 = .ok (.iload_n 3, 1) := by decide +kernel
theorem dX9_isFit_54 : decode cX9_isFit 54 = .ok (.iaload, 1) := by decide +kernel
theorem dX9_isFit_55 : decode cX9_isFit 55 = .ok (.aload_n 0, 1) := by decide +kernel
theorem dX9_isFit_56 : decode cX9_isFit 56 = .ok (.getfield 40, 3) := by decide +kernel
theorem dX9_isFit_59 : decode cX9_isFit 59 = .ok (.iload_n 3, 1) := by decide +kernel
theorem dX9_isFit_60 : decode cX9_isFit 60 = .ok (.iaload, 1) := by decide +kernel
theorem dX9_isFit_61 : decode cX9_isFit 61 = .ok (.invokestatic 291, 3) := by decide +kernel
theorem dX9_isFit_64 : decode cX9_isFit 64 = .ok (.aload_n 0, 1) := by decide +kernel
theorem dX9_isFit_65 : decode cX9_isFit 65 = .ok (.getfield 43, 3) := by decide +kernel
theorem dX9_isFit_68 : decode cX9_isFit 68 = .ok (.iload_n 3, 1) := by decide +kernel
theorem dX9_isFit_69 : decode cX9_isFit 69 = .ok (.iaload, 1) := by decide +kernel
theorem dX9_isFit_70 : decode cX9_isFit 70 = .ok (.if_icmp .ne 7, 3) := by decide +kernel
theorem dX9_isFit_73 : decode cX9_isFit 73 = .ok (.iconst 1, 1) := by decide +kernel
theorem dX9_isFit_74 : decode cX9_isFit 74 = .ok (.goto 4, 3) := by decide +kernel
theorem dX9_isFit_77 : decode cX9_isFit 77 = .ok (.iconst 0, 1) := by decide +kernel
theorem dX9_isFit_78 : decode cX9_isFit 78 = .ok (.istore_n 2, 1) := by decide +kernel
theorem dX9_isFit_79 : decode cX9_isFit 79 = .ok (.iinc 3 1, 3) := by decide +kernel
theorem dX9_isFit_82 : decode cX9_isFit 82 = .ok (.goto (-46), 3) := by decide +kernel
theorem dX9_isFit_85 : decode cX9_isFit 85 = .ok (.iload_n 2, 1) := by decide +kernel
theorem dX9_isFit_86 : decode cX9_isFit 86 = .ok (.ireturn, 1) := by decide +kernel
set_option maxRecDepth 20000 in
theorem ggX9_rowOf_X9_ofWhom : GoodIn wsX9_rowOf wsX9_ofWhom := goodIn_r _ [4] (by decide +kernel) (by decide +kernel)
set_option maxRecDepth 20000 in
theorem gX9_rowOf_X9_ofWhom : GoodIn wsX9_rowOf (va_wsS RX9 288 yX9_ofWhom wsX9_ofWhom) := goodIn_app (goodIn_of _ (by decide +kernel)) ggX9_rowOf_X9_ofWhom
theorem dX9_rowOf_0 : decode cX9_rowOf 0 = .ok (.sipush 1000, 3) := by decide +kernel
theorem dX9_rowOf_3 : decode cX9_rowOf 3 = .ok (.iload_n 0, 1) := by decide +kernel
theorem dX9_rowOf_4 : decode cX9_rowOf 4 = .ok (.iconst 0, 1) := by decide +kernel
theorem dX9_rowOf_5 : decode cX9_rowOf 5 = .ok (.invokestatic 288, 3) := by decide +kernel
theorem dX9_rowOf_8 : decode cX9_rowOf 8 = .ok (.imul, 1) := by decide +kernel
theorem dX9_rowOf_9 : decode cX9_rowOf 9 = .ok (.bipush 100, 2) := by decide +kernel
theorem dX9_rowOf_11 : decode cX9_rowOf 11 = .ok (.iload_n 0, 1) := by decide +kernel
theorem dX9_rowOf_12 : decode cX9_rowOf 12 = .ok (.iconst 1, 1) := by decide +kernel
theorem dX9_rowOf_13 : decode cX9_rowOf 13 = .ok (.invokestatic 288, 3) := by decide +kernel
theorem dX9_rowOf_16 : decode cX9_rowOf 16 = .ok (.imul, 1) := by decide +kernel
theorem dX9_rowOf_17 : decode cX9_rowOf 17 = .ok (.iadd, 1) := by decide +kernel
theorem dX9_rowOf_18 : decode cX9_rowOf 18 = .ok (.bipush 10, 2) := by decide +kernel
theorem dX9_rowOf_20 : decode cX9_rowOf 20 = .ok (.iload_n 0, 1) := by decide +kernel
theorem dX9_rowOf_21 : decode cX9_rowOf 21 = .ok (.iconst 2, 1) := by decide +kernel
theorem dX9_rowOf_22 : decode cX9_rowOf 22 = .ok (.invokestatic 288, 3) := by decide +kernel
theorem dX9_rowOf_25 : decode cX9_rowOf 25 = .ok (.imul, 1) := by decide +kernel
theorem dX9_rowOf_26 : decode cX9_rowOf 26 = .ok (.iadd, 1) := by decide +kernel
theorem dX9_rowOf_27 : decode cX9_rowOf 27 = .ok (.iload_n 0, 1) := by decide +kernel
theorem dX9_rowOf_28 : decode cX9_rowOf 28 = .ok (.iconst 3, 1) := by decide +kernel
theorem dX9_rowOf_29 : decode cX9_rowOf 29 = .ok (.invokestatic 288, 3) := by decide +kernel
theorem dX9_rowOf_32 : decode cX9_rowOf 32 = .ok (.iadd, 1) := by decide +kernel
theorem dX9_rowOf_33 : decode cX9_rowOf 33 = .ok (.ireturn, 1) := by decide +kernel
set_option maxRecDepth 20000 in
theorem ggX9_nets_X9_isFit : GoodIn wsX9_nets wsX9_isFit := goodIn_r _ [5, 6, 7, 8, 9, 10, 11, 4, 12, 13, 14, 15, 16, 17, 18, 22, 23, 24, 25, 26, 27, 28, 29, 30, 31, 32, 33, 34, 35, 36, 37, 38, 39, 40, 41, 42, 43, 44, 45, 46, 47, 48, 49, 50, 51, 52, 53, 54, 55, 56, 57, 58] (by decide +kernel) (by decide +kernel)
set_option maxRecDepth 20000 in
theorem gX9_nets_X9_isFit : GoodIn wsX9_nets (wsV RX9 294 RX9 yX9_isFit wsX9_isFit) := goodIn_app (goodIn_of _ (by decide +kernel)) ggX9_nets_X9_isFit
set_option maxRecDepth 20000 in
theorem ggX9_nets_X9_rowOf : GoodIn wsX9_nets wsX9_rowOf := goodIn_r _ [21, 10, 11, 4, 12] (by decide +kernel) (by decide +kernel)
set_option maxRecDepth 20000 in
theorem gX9_nets_X9_rowOf : GoodIn wsX9_nets (va_wsS RX9 297 yX9_rowOf wsX9_rowOf) := goodIn_app (goodIn_of _ (by decide +kernel)) ggX9_nets_X9_rowOf
theorem dX9_nets_0 : decode cX9_nets 0 = .ok (.iconst 0, 1) := by decide +kernel
theorem dX9_nets_1 : decode cX9_nets 1 = .ok (.istore_n 2, 1) := by decide +kernel
theorem dX9_nets_2 : decode cX9_nets 2 = .ok (.iconst 0, 1) := by decide +kernel
theorem dX9_nets_3 : decode cX9_nets 3 = .ok (.istore_n 3, 1) := by decide +kernel
theorem dX9_nets_4 : decode cX9_nets 4 = .ok (.iload_n 3, 1) := by decide +kernel
theorem dX9_nets_5 : decode cX9_nets 5 = .ok (.sipush 256, 3) := by decide +kernel
theorem dX9_nets_8 : decode cX9_nets 8 = .ok (.if_icmp .ge 30, 3) := by decide +kernel
theorem dX9_nets_11 : decode cX9_nets 11 = .ok (.aload_n 0, 1) := by decide +kernel
theorem dX9_nets_12 : decode cX9_nets 12 = .ok (.iload_n 3, 1) := by decide +kernel
theorem dX9_nets_13 : decode cX9_nets 13 = .ok (.invokevirtual 294, 3) := by decide +kernel
theorem dX9_nets_16 : decode cX9_nets 16 = .ok (.ifCond .eq 16, 3) := by decide +kernel
theorem dX9_nets_19 : decode cX9_nets 19 = .ok (.iload_n 2, 1) := by decide +kernel
theorem dX9_nets_20 : decode cX9_nets 20 = .ok (.iload_n 1, 1) := by decide +kernel
theorem dX9_nets_21 : decode cX9_nets 21 = .ok (.if_icmp .ne 8, 3) := by decide +kernel
theorem dX9_nets_24 : decode cX9_nets 24 = .ok (.iload_n 3, 1) := by decide +kernel
theorem dX9_nets_25 : decode cX9_nets 25 = .ok (.invokestatic 297, 3) := by decide +kernel
theorem dX9_nets_28 : decode cX9_nets 28 = .ok (.ireturn, 1) := by decide +kernel
theorem dX9_nets_29 : decode cX9_nets 29 = .ok (.iinc 2 1, 3) := by decide +kernel
theorem dX9_nets_32 : decode cX9_nets 32 = .ok (.iinc 3 1, 3) := by decide +kernel
theorem dX9_nets_35 : decode cX9_nets 35 = .ok (.goto (-31), 3) := by decide +kernel
theorem dX9_nets_38 : decode cX9_nets 38 = .ok (.iload_n 1, 1) := by decide +kernel
theorem dX9_nets_39 : decode cX9_nets 39 = .ok (.iconst (-1), 1) := by decide +kernel
theorem dX9_nets_40 : decode cX9_nets 40 = .ok (.if_icmp .ne 7, 3) := by decide +kernel
theorem dX9_nets_43 : decode cX9_nets 43 = .ok (.iload_n 2, 1) := by decide +kernel
theorem dX9_nets_44 : decode cX9_nets 44 = .ok (.goto 5, 3) := by decide +kernel
theorem dX9_nets_47 : decode cX9_nets 47 = .ok (.bipush (-6), 2) := by decide +kernel
theorem dX9_nets_49 : decode cX9_nets 49 = .ok (.ireturn, 1) := by decide +kernel
set_option maxRecDepth 20000 in
theorem ggX9_mostLeft_X9_thinkOf : GoodIn wsX9_mostLeft wsX9_thinkOf := goodIn_r _ [5, 6, 7, 4, 8, 9, 10, 11] (by decide +kernel) (by decide +kernel)
set_option maxRecDepth 20000 in
theorem gX9_mostLeft_X9_thinkOf : GoodIn wsX9_mostLeft (va_wsS RX9 291 yX9_thinkOf wsX9_thinkOf) := goodIn_app (goodIn_of _ (by decide +kernel)) ggX9_mostLeft_X9_thinkOf
set_option maxRecDepth 20000 in
theorem ggX9_mostLeft_X9_isFit : GoodIn wsX9_mostLeft wsX9_isFit := goodIn_r _ [15, 16, 17, 18, 19, 9, 10, 4, 11, 2, 3, 5, 6, 7, 8, 20, 21, 22, 23, 24, 25, 26, 27, 28, 29, 30, 31, 32, 33, 34, 35, 36, 37, 38, 39, 40, 41, 42, 43, 44, 45, 46, 47, 48, 49, 50, 51, 52, 53, 54, 55, 56] (by decide +kernel) (by decide +kernel)
set_option maxRecDepth 20000 in
theorem gX9_mostLeft_X9_isFit : GoodIn wsX9_mostLeft (wsV RX9 294 RX9 yX9_isFit wsX9_isFit) := goodIn_app (goodIn_of _ (by decide +kernel)) ggX9_mostLeft_X9_isFit
theorem dX9_mostLeft_0 : decode cX9_mostLeft 0 = .ok (.iconst 0, 1) := by decide +kernel
theorem dX9_mostLeft_1 : decode cX9_mostLeft 1 = .ok (.istore_n 3, 1) := by decide +kernel
theorem dX9_mostLeft_2 : decode cX9_mostLeft 2 = .ok (.iconst 0, 1) := by decide +kernel
theorem dX9_mostLeft_3 : decode cX9_mostLeft 3 = .ok (.istore 4, 2) := by decide +kernel
theorem dX9_mostLeft_5 : decode cX9_mostLeft 5 = .ok (.iload 4, 2) := by decide +kernel
theorem dX9_mostLeft_7 : decode cX9_mostLeft 7 = .ok (.iconst 5, 1) := by decide +kernel
theorem dX9_mostLeft_8 : decode cX9_mostLeft 8 = .ok (.if_icmp .ge 17, 3) := by decide +kernel
theorem dX9_mostLeft_11 : decode cX9_mostLeft 11 = .ok (.aload_n 0, 1) := by decide +kernel
theorem dX9_mostLeft_12 : decode cX9_mostLeft 12 = .ok (.getfield 64, 3) := by decide +kernel
theorem dX9_mostLeft_15 : decode cX9_mostLeft 15 = .ok (.iload 4, 2) := by decide +kernel
theorem dX9_mostLeft_17 : decode cX9_mostLeft 17 = .ok (.iconst 0, 1) := by decide +kernel
theorem dX9_mostLeft_18 : decode cX9_mostLeft 18 = .ok (.iastore, 1) := by decide +kernel
theorem dX9_mostLeft_19 : decode cX9_mostLeft 19 = .ok (.iinc 4 1, 3) := by decide +kernel
theorem dX9_mostLeft_22 : decode cX9_mostLeft 22 = .ok (.goto (-17), 3) := by decide +kernel
theorem dX9_mostLeft_25 : decode cX9_mostLeft 25 = .ok (.iconst 0, 1) := by decide +kernel
theorem dX9_mostLeft_26 : decode cX9_mostLeft 26 = .ok (.istore 4, 2) := by decide +kernel
theorem dX9_mostLeft_28 : decode cX9_mostLeft 28 = .ok (.iload 4, 2) := by decide +kernel
theorem dX9_mostLeft_30 : decode cX9_mostLeft 30 = .ok (.sipush 256, 3) := by decide +kernel
theorem dX9_mostLeft_33 : decode cX9_mostLeft 33 = .ok (.if_icmp .ge 65, 3) := by decide +kernel
theorem dX9_mostLeft_36 : decode cX9_mostLeft 36 = .ok (.iload 4, 2) := by decide +kernel
theorem dX9_mostLeft_38 : decode cX9_mostLeft 38 = .ok (.iload_n 1, 1) := by decide +kernel
theorem dX9_mostLeft_39 : decode cX9_mostLeft 39 = .ok (.iload_n 2, 1) := by decide +kernel
theorem dX9_mostLeft_40 : decode cX9_mostLeft 40 = .ok (.invokestatic 291, 3) := by decide +kernel
theorem dX9_mostLeft_43 : decode cX9_mostLeft 43 = .ok (.istore 5, 2) := by decide +kernel
theorem dX9_mostLeft_45 : decode cX9_mostLeft 45 = .ok (.aload_n 0, 1) := by decide +kernel
theorem dX9_mostLeft_46 : decode cX9_mostLeft 46 = .ok (.getfield 64, 3) := by decide +kernel
theorem dX9_mostLeft_49 : decode cX9_mostLeft 49 = .ok (.iload 5, 2) := by decide +kernel
theorem dX9_mostLeft_51 : decode cX9_mostLeft 51 = .ok (.dup2, 1) := by decide +kernel
theorem dX9_mostLeft_52 : decode cX9_mostLeft 52 = .ok (.iaload, 1) := by decide +kernel
theorem dX9_mostLeft_53 : decode cX9_mostLeft 53 = .ok (.aload_n 0, 1) := by decide +kernel
theorem dX9_mostLeft_54 : decode cX9_mostLeft 54 = .ok (.iload 4, 2) := by decide +kernel
theorem dX9_mostLeft_56 : decode cX9_mostLeft 56 = .ok (.invokevirtual 294, 3) := by decide +kernel
theorem dX9_mostLeft_59 : decode cX9_mostLeft 59 = .ok (.ifCond .eq 7, 3) := by decide +kernel
theorem dX9_mostLeft_62 : decode cX9_mostLeft 62 = .ok (.iconst 1, 1) := by decide +kernel
theorem dX9_mostLeft_63 : decode cX9_mostLeft 63 = .ok (.goto 4, 3) := by decide +kernel
theorem dX9_mostLeft_66 : decode cX9_mostLeft 66 = .ok (.iconst 0, 1) := by decide +kernel
theorem dX9_mostLeft_67 : decode cX9_mostLeft 67 = .ok (.iadd, 1) := by decide +kernel
theorem dX9_mostLeft_68 : decode cX9_mostLeft 68 = .ok (.iastore, 1) := by decide +kernel
theorem dX9_mostLeft_69 : decode cX9_mostLeft 69 = .ok (.aload_n 0, 1) := by decide +kernel
theorem dX9_mostLeft_70 : decode cX9_mostLeft 70 = .ok (.getfield 64, 3) := by decide +kernel
theorem dX9_mostLeft_73 : decode cX9_mostLeft 73 = .ok (.iload 5, 2) := by decide +kernel
theorem dX9_mostLeft_75 : decode cX9_mostLeft 75 = .ok (.iaload, 1) := by decide +kernel
theorem dX9_mostLeft_76 : decode cX9_mostLeft 76 = .ok (.iload_n 3, 1) := by decide +kernel
theorem dX9_mostLeft_77 : decode cX9_mostLeft 77 = .ok (.if_icmp .le 13, 3) := by decide +kernel
theorem dX9_mostLeft_80 : decode cX9_mostLeft 80 = .ok (.aload_n 0, 1) := by decide +kernel
theorem dX9_mostLeft_81 : decode cX9_mostLeft 81 = .ok (.getfield 64, 3) := by decide +kernel
theorem dX9_mostLeft_84 : decode cX9_mostLeft 84 = .ok (.iload 5, 2) := by decide +kernel
theorem dX9_mostLeft_86 : decode cX9_mostLeft 86 = .ok (.iaload, 1) := by decide +kernel
theorem dX9_mostLeft_87 : decode cX9_mostLeft 87 = .ok (.goto 4, 3) := by decide +kernel
theorem dX9_mostLeft_90 : decode cX9_mostLeft 90 = .ok (.iload_n 3, 1) := by decide +kernel
theorem dX9_mostLeft_91 : decode cX9_mostLeft 91 = .ok (.istore_n 3, 1) := by decide +kernel
theorem dX9_mostLeft_92 : decode cX9_mostLeft 92 = .ok (.iinc 4 1, 3) := by decide +kernel
theorem dX9_mostLeft_95 : decode cX9_mostLeft 95 = .ok (.goto (-67), 3) := by decide +kernel
theorem dX9_mostLeft_98 : decode cX9_mostLeft 98 = .ok (.iload_n 3, 1) := by decide +kernel
theorem dX9_mostLeft_99 : decode cX9_mostLeft 99 = .ok (.ireturn, 1) := by decide +kernel
set_option maxRecDepth 20000 in
theorem ggX9_ask_X9_in : GoodIn wsX9_ask wsX9_in := goodIn_r _ [4] (by decide +kernel) (by decide +kernel)
set_option maxRecDepth 20000 in
theorem gX9_ask_X9_in : GoodIn wsX9_ask (va_wsS RX9 83 yX9_in wsX9_in) := goodIn_app (goodIn_of _ (by decide +kernel)) ggX9_ask_X9_in
set_option maxRecDepth 20000 in
theorem ggX9_ask_X9_mostLeft : GoodIn wsX9_ask wsX9_mostLeft := goodIn_r _ [8, 9, 10, 11, 3, 12, 13, 14, 15, 16, 17, 18, 19, 20, 21, 22, 23, 24, 25, 26, 30, 31, 32, 33, 34, 35, 36, 37, 38, 39, 40, 41, 42, 43, 44, 45, 46, 47, 48, 49, 50, 51, 52, 53, 54, 55, 56, 57, 58, 59, 60, 61, 62, 63, 64, 65, 66] (by decide +kernel) (by decide +kernel)
set_option maxRecDepth 20000 in
theorem gX9_ask_X9_mostLeft : GoodIn wsX9_ask (wsV RX9 300 RX9 yX9_mostLeft wsX9_mostLeft) := goodIn_app (goodIn_of _ (by decide +kernel)) ggX9_ask_X9_mostLeft
set_option maxRecDepth 20000 in
theorem ggX9_ask_X9_less : GoodIn wsX9_ask wsX9_less := goodIn_r _ [29] (by decide +kernel) (by decide +kernel)
