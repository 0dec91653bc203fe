set_option maxRecDepth 20000 in
theorem gX9_storm_X9_allNoted : GoodIn wsX9_storm (wsV RX9 339 RX9 yX9_allNoted wsX9_allNoted) := goodIn_app (goodIn_of _ (by decide +kernel)) ggX9_storm_X9_allNoted
set_option maxRecDepth 20000 in
theorem ggX9_storm_X9_back : GoodIn wsX9_storm wsX9_back := goodIn_r _ [101, 12, 13, 14, 10, 15, 16, 17, 18, 19, 20, 21, 22, 23, 24, 25, 26, 27, 28, 29, 30, 31, 32, 33, 34, 35, 36, 102, 103, 104, 105, 106, 107, 108, 109, 110, 111, 112, 113, 114, 115, 116, 117, 118, 119, 120, 121, 122, 123, 124, 125, 126, 127, 128, 129, 130, 131, 132, 133, 134, 135, 136, 137, 138] (by decide +kernel) (by decide +kernel)
set_option maxRecDepth 20000 in
theorem gX9_storm_X9_back : GoodIn wsX9_storm (wsV RX9 238 RX9 yX9_back wsX9_back) := goodIn_app (goodIn_of _ (by decide +kernel)) ggX9_storm_X9_back
theorem dX9_storm_0 : decode cX9_storm 0 = .ok (.iload_n 1, 1) := by decide +kernel
theorem dX9_storm_1 : decode cX9_storm 1 = .ok (.i2l, 1) := by decide +kernel
theorem dX9_storm_2 : decode cX9_storm 2 = .ok (.lconst 0, 1) := by decide +kernel
theorem dX9_storm_3 : decode cX9_storm 3 = .ok (.ldc2_w 328, 3) := by decide +kernel
theorem dX9_storm_6 : decode cX9_storm 6 = .ok (.invokestatic 83, 3) := by decide +kernel
theorem dX9_storm_9 : decode cX9_storm 9 = .ok (.ifCond .eq 27, 3) := by decide +kernel
theorem dX9_storm_12 : decode cX9_storm 12 = .ok (.iload_n 2, 1) := by decide +kernel
theorem dX9_storm_13 : decode cX9_storm 13 = .ok (.i2l, 1) := by decide +kernel
theorem dX9_storm_14 : decode cX9_storm 14 = .ok (.lconst 1, 1) := by decide +kernel
theorem dX9_storm_15 : decode cX9_storm 15 = .ok (.ldc2_w 95, 3) := by decide +kernel
theorem dX9_storm_18 : decode cX9_storm 18 = .ok (.invokestatic 83, 3) := by decide +kernel
theorem dX9_storm_21 : decode cX9_storm 21 = .ok (.ifCond .eq 15, 3) := by decide +kernel
theorem dX9_storm_24 : decode cX9_storm 24 = .ok (.iload_n 3, 1) := by decide +kernel
theorem dX9_storm_25 : decode cX9_storm 25 = .ok (.i2l, 1) := by decide +kernel
theorem dX9_storm_26 : decode cX9_storm 26 = .ok (.lconst 0, 1) := by decide +kernel
theorem dX9_storm_27 : decode cX9_storm 27 = .ok (.ldc2_w 233, 3) := by decide +kernel
theorem dX9_storm_30 : decode cX9_storm 30 = .ok (.invokestatic 83, 3) := by decide +kernel
theorem dX9_storm_33 : decode cX9_storm 33 = .ok (.ifCond .ne 6, 3) := by decide +kernel
theorem dX9_storm_36 : decode cX9_storm 36 = .ok (.bipush (-2), 2) := by decide +kernel
theorem dX9_storm_38 : decode cX9_storm 38 = .ok (.ireturn, 1) := by decide +kernel
theorem dX9_storm_39 : decode cX9_storm 39 = .ok (.aload_n 0, 1) := by decide +kernel
theorem dX9_storm_40 : decode cX9_storm 40 = .ok (.iconst 0, 1) := by decide +kernel
theorem dX9_storm_41 : decode cX9_storm 41 = .ok (.invokevirtual 199, 3) := by decide +kernel
theorem dX9_storm_44 : decode cX9_storm 44 = .ok (.aload_n 0, 1) := by decide +kernel
theorem dX9_storm_45 : decode cX9_storm 45 = .ok (.iconst 0, 1) := by decide +kernel
theorem dX9_storm_46 : decode cX9_storm 46 = .ok (.putfield 162, 3) := by decide +kernel
theorem dX9_storm_49 : decode cX9_storm 49 = .ok (.iload_n 1, 1) := by decide +kernel
theorem dX9_storm_50 : decode cX9_storm 50 = .ok (.istore 4, 2) := by decide +kernel
theorem dX9_storm_52 : decode cX9_storm 52 = .ok (.iconst 0, 1) := by decide +kernel
theorem dX9_storm_53 : decode cX9_storm 53 = .ok (.istore 5, 2) := by decide +kernel
theorem dX9_storm_55 : decode cX9_storm 55 = .ok (.iload 5, 2) := by decide +kernel
theorem dX9_storm_57 : decode cX9_storm 57 = .ok (.iload_n 2, 1) := by decide +kernel
theorem dX9_storm_58 : decode cX9_storm 58 = .ok (.if_icmp .ge 41, 3) := by decide +kernel
theorem dX9_storm_61 : decode cX9_storm 61 = .ok (.ldc2_w 330, 3) := by decide +kernel
theorem dX9_storm_64 : decode cX9_storm 64 = .ok (.iload 4, 2) := by decide +kernel
theorem dX9_storm_66 : decode cX9_storm 66 = .ok (.i2l, 1) := by decide +kernel
theorem dX9_storm_67 : decode cX9_storm 67 = .ok (.lmul, 1) := by decide +kernel
theorem dX9_storm_68 : decode cX9_storm 68 = .ok (.ldc2_w 332, 3) := by decide +kernel
theorem dX9_storm_71 : decode cX9_storm 71 = .ok (.ladd, 1) := by decide +kernel
theorem dX9_storm_72 : decode cX9_storm 72 = .ok (.ldc2_w 334, 3) := by decide +kernel
theorem dX9_storm_75 : decode cX9_storm 75 = .ok (.lrem, 1) := by decide +kernel
theorem dX9_storm_76 : decode cX9_storm 76 = .ok (.l2i, 1) := by decide +kernel
theorem dX9_storm_77 : decode cX9_storm 77 = .ok (.istore 4, 2) := by decide +kernel
theorem dX9_storm_79 : decode cX9_storm 79 = .ok (.aload_n 0, 1) := by decide +kernel
theorem dX9_storm_80 : decode cX9_storm 80 = .ok (.iload 4, 2) := by decide +kernel
theorem dX9_storm_82 : decode cX9_storm 82 = .ok (.bipush 8, 2) := by decide +kernel
theorem dX9_storm_84 : decode cX9_storm 84 = .ok (.irem, 1) := by decide +kernel
theorem dX9_storm_85 : decode cX9_storm 85 = .ok (.iload 4, 2) := by decide +kernel
theorem dX9_storm_87 : decode cX9_storm 87 = .ok (.bipush 8, 2) := by decide +kernel
theorem dX9_storm_89 : decode cX9_storm 89 = .ok (.idiv, 1) := by decide +kernel
theorem dX9_storm_90 : decode cX9_storm 90 = .ok (.invokevirtual 336, 3) := by decide +kernel
theorem dX9_storm_93 : decode cX9_storm 93 = .ok (.iinc 5 1, 3) := by decide +kernel
theorem dX9_storm_96 : decode cX9_storm 96 = .ok (.goto (-41), 3) := by decide +kernel
theorem dX9_storm_99 : decode cX9_storm 99 = .ok (.aload_n 0, 1) := by decide +kernel
theorem dX9_storm_100 : decode cX9_storm 100 = .ok (.iload_n 3, 1) := by decide +kernel
theorem dX9_storm_101 : decode cX9_storm 101 = .ok (.ifCond .ne 10, 3) := by decide +kernel
theorem dX9_storm_104 : decode cX9_storm 104 = .ok (.aload_n 0, 1) := by decide +kernel
theorem dX9_storm_105 : decode cX9_storm 105 = .ok (.invokevirtual 246, 3) := by decide +kernel
theorem dX9_storm_108 : decode cX9_storm 108 = .ok (.goto 19, 3) := by decide +kernel
theorem dX9_storm_111 : decode cX9_storm 111 = .ok (.iload_n 3, 1) := by decide +kernel
theorem dX9_storm_112 : decode cX9_storm 112 = .ok (.iconst 1, 1) := by decide +kernel
theorem dX9_storm_113 : decode cX9_storm 113 = .ok (.if_icmp .ne 10, 3) := by decide +kernel
theorem dX9_storm_116 : decode cX9_storm 116 = .ok (.aload_n 0, 1) := by decide +kernel
theorem dX9_storm_117 : decode cX9_storm 117 = .ok (.getfield 162, 3) := by decide +kernel
theorem dX9_storm_120 : decode cX9_storm 120 = .ok (.goto 7, 3) := by decide +kernel
theorem dX9_storm_123 : decode cX9_storm 123 = .ok (.aload_n 0, 1) := by decide +kernel
theorem dX9_storm_124 : decode cX9_storm 124 = .ok (.invokevirtual 339, 3) := by decide +kernel
theorem dX9_storm_127 : decode cX9_storm 127 = .ok (.invokevirtual 238, 3) := by decide +kernel
theorem dX9_storm_130 : decode cX9_storm 130 = .ok (.ireturn, 1) := by decide +kernel
theorem dX9_pass_0 : decode cX9_pass 0 = .ok (.aload_n 0, 1) := by decide +kernel
theorem dX9_pass_1 : decode cX9_pass 1 = .ok (.getfield 342, 3) := by decide +kernel
theorem dX9_pass_4 : decode cX9_pass 4 = .ok (.ifCond .eq 7, 3) := by decide +kernel
theorem dX9_pass_7 : decode cX9_pass 7 = .ok (.iload_n 1, 1) := by decide +kernel
theorem dX9_pass_8 : decode cX9_pass 8 = .ok (.goto 12, 3) := by decide +kernel
theorem dX9_pass_11 : decode cX9_pass 11 = .ok (.aload_n 0, 1) := by decide +kernel
theorem dX9_pass_12 : decode cX9_pass 12 = .ok (.getfield 71, 3) := by decide +kernel
theorem dX9_pass_15 : decode cX9_pass 15 = .ok (.aload_n 0, 1) := by decide +kernel
theorem dX9_pass_16 : decode cX9_pass 16 = .ok (.getfield 345, 3) := by decide +kernel
theorem dX9_pass_19 : decode cX9_pass 19 = .ok (.iaload, 1) := by decide +kernel
theorem dX9_pass_20 : decode cX9_pass 20 = .ok (.istore_n 2, 1) := by decide +kernel
theorem dX9_pass_21 : decode cX9_pass 21 = .ok (.aload_n 0, 1) := by decide +kernel
theorem dX9_pass_22 : decode cX9_pass 22 = .ok (.getfield 71, 3) := by decide +kernel
theorem dX9_pass_25 : decode cX9_pass 25 = .ok (.aload_n 0, 1) := by decide +kernel
theorem dX9_pass_26 : decode cX9_pass 26 = .ok (.getfield 345, 3) := by decide +kernel
theorem dX9_pass_29 : decode cX9_pass 29 = .ok (.iload_n 2, 1) := by decide +kernel
theorem dX9_pass_30 : decode cX9_pass 30 = .ok (.iastore, 1) := by decide +kernel
theorem dX9_pass_31 : decode cX9_pass 31 = .ok (.aload_n 0, 1) := by decide +kernel
theorem dX9_pass_32 : decode cX9_pass 32 = .ok (.dup, 1) := by decide +kernel
theorem dX9_pass_33 : decode cX9_pass 33 = .ok (.getfield 345, 3) := by decide +kernel
theorem dX9_pass_36 : decode cX9_pass 36 = .ok (.iconst 1, 1) := by decide +kernel
theorem dX9_pass_37 : decode cX9_pass 37 = .ok (.iadd, 1) := by decide +kernel
theorem dX9_pass_38 : decode cX9_pass 38 = .ok (.putfield 345, 3) := by decide +kernel
theorem dX9_pass_41 : decode cX9_pass 41 = .ok (.iload_n 2, 1) := by decide +kernel
theorem dX9_pass_42 : decode cX9_pass 42 = .ok (.ireturn, 1) := by decide +kernel
set_option maxRecDepth 20000 in
theorem ggX9_passRow_X9_pass : GoodIn wsX9_passRow wsX9_pass := goodIn_r _ [5, 6, 7, 8, 9, 10, 11, 12, 13, 14, 15, 16, 17, 18, 19, 20, 21, 22, 23, 24, 25, 26, 27, 28, 29, 30, 31, 32, 33, 34, 35, 36, 37, 38, 39, 40, 41, 42, 43, 44, 45] (by decide +kernel) (by decide +kernel)
set_option maxRecDepth 20000 in
theorem gX9_passRow_X9_pass : GoodIn wsX9_passRow (wsV RX9 348 RX9 yX9_pass wsX9_pass) := goodIn_app (goodIn_of _ (by decide +kernel)) ggX9_passRow_X9_pass
theorem dX9_passRow_0 : decode cX9_passRow 0 = .ok (.iconst 0, 1) := by decide +kernel
theorem dX9_passRow_1 : decode cX9_passRow 1 = .ok (.istore_n 3, 1) := by decide +kernel
theorem dX9_passRow_2 : decode cX9_passRow 2 = .ok (.iload_n 3, 1) := by decide +kernel
theorem dX9_passRow_3 : decode cX9_passRow 3 = .ok (.iload_n 2, 1) := by decide +kernel
theorem dX9_passRow_4 : decode cX9_passRow 4 = .ok (.if_icmp .ge 19, 3) := by decide +kernel
theorem dX9_passRow_7 : decode cX9_passRow 7 = .ok (.aload_n 1, 1) := by decide +kernel
theorem dX9_passRow_8 : decode cX9_passRow 8 = .ok (.iload_n 3, 1) := by decide +kernel
theorem dX9_passRow_9 : decode cX9_passRow 9 = .ok (.aload_n 0, 1) := by decide +kernel
theorem dX9_passRow_10 : decode cX9_passRow 10 = .ok (.aload_n 1, 1) := by decide +kernel
theorem dX9_passRow_11 : decode cX9_passRow 11 = .ok (.iload_n 3, 1) := by decide +kernel
theorem dX9_passRow_12 : decode cX9_passRow 12 = .ok (.iaload, 1) := by decide +kernel
theorem dX9_passRow_13 : decode cX9_passRow 13 = .ok (.invokevirtual 348, 3) := by decide +kernel
theorem dX9_passRow_16 : decode cX9_passRow 16 = .ok (.iastore, 1) := by decide +kernel
theorem dX9_passRow_17 : decode cX9_passRow 17 = .ok (.iinc 3 1, 3) := by decide +kernel
theorem dX9_passRow_20 : decode cX9_passRow 20 = .ok (.goto (-18), 3) := by decide +kernel
theorem dX9_passRow_23 : decode cX9_passRow 23 = .ok (.return_, 1) := by decide +kernel
set_option maxRecDepth 20000 in
theorem ggX9_passAll_X9_pass : GoodIn wsX9_passAll wsX9_pass := goodIn_r _ [20, 21, 22, 23, 28, 29, 30, 31, 32, 33, 34, 35, 36, 37, 38, 39, 40, 41, 42, 43, 44, 45, 46, 47, 48, 49, 50, 51, 52, 53, 54, 55, 56, 57, 58, 59, 60, 61, 62, 63, 64] (by decide +kernel) (by decide +kernel)
set_option maxRecDepth 20000 in
theorem gX9_passAll_X9_pass : GoodIn wsX9_passAll (wsV RX9 348 RX9 yX9_pass wsX9_pass) := goodIn_app (goodIn_of _ (by decide +kernel)) ggX9_passAll_X9_pass
set_option maxRecDepth 20000 in
theorem ggX9_passAll_X9_passRow : GoodIn wsX9_passAll wsX9_passRow := goodIn_r _ [27, 16, 17, 18, 19, 20, 21, 22, 23, 28, 29, 30, 31, 32, 33, 34, 35, 36, 37, 38, 39, 40, 41, 42, 43, 44, 45, 46, 47, 48, 49, 50, 51, 52, 53, 54, 55, 56, 57, 58, 59, 60, 61, 62, 63, 64] (by decide +kernel) (by decide +kernel)
set_option maxRecDepth 20000 in
theorem gX9_passAll_X9_passRow : GoodIn wsX9_passAll (wsV RX9 351 RX9 yX9_passRow wsX9_passRow) := goodIn_app (goodIn_of _ (by decide +kernel)) ggX9_passAll_X9_passRow
theorem dX9_passAll_0 : decode cX9_passAll 0 = .ok (.aload_n 0, 1) := by decide +kernel
theorem dX9_passAll_1 : decode cX9_passAll 1 = .ok (.aload_n 0, 1) := by decide +kernel
theorem dX9_passAll_2 : decode cX9_passAll 2 = .ok (.aload_n 0, 1) := by decide +kernel
theorem dX9_passAll_3 : decode cX9_passAll 3 = .ok (.getfield 77, 3) := by decide +kernel
theorem dX9_passAll_6 : decode cX9_passAll 6 = .ok (.invokevirtual 348, 3) := by decide +kernel
theorem dX9_passAll_9 : decode cX9_passAll 9 = .ok (.putfield 77, 3) := by decide +kernel
theorem dX9_passAll_12 : decode cX9_passAll 12 = .ok (.aload_n 0, 1) := by decide +kernel
theorem dX9_passAll_13 : decode cX9_passAll 13 = .ok (.aload_n 0, 1) := by decide +kernel
theorem dX9_passAll_14 : decode cX9_passAll 14 = .ok (.aload_n 0, 1) := by decide +kernel
theorem dX9_passAll_15 : decode cX9_passAll 15 = .ok (.getfield 156, 3) := by decide +kernel
theorem dX9_passAll_18 : decode cX9_passAll 18 = .ok (.invokevirtual 348, 3) := by decide +kernel
theorem dX9_passAll_21 : decode cX9_passAll 21 = .ok (.putfield 156, 3) := by decide +kernel
theorem dX9_passAll_24 : decode cX9_passAll 24 = .ok (.aload_n 0, 1) := by decide +kernel
theorem dX9_passAll_25 : decode cX9_passAll 25 = .ok (.aload_n 0, 1) := by decide +kernel
theorem dX9_passAll_26 : decode cX9_passAll 26 = .ok (.aload_n 0, 1) := by decide +kernel
theorem dX9_passAll_27 : decode cX9_passAll 27 = .ok (.getfield 285, 3) := by decide +kernel
theorem dX9_passAll_30 : decode cX9_passAll 30 = .ok (.invokevirtual 348, 3) := by decide +kernel
theorem dX9_passAll_33 : decode cX9_passAll 33 = .ok (.putfield 285, 3) := by decide +kernel
theorem dX9_passAll_36 : decode cX9_passAll 36 = .ok (.aload_n 0, 1) := by decide +kernel
theorem dX9_passAll_37 : decode cX9_passAll 37 = .ok (.aload_n 0, 1) := by decide +kernel
theorem dX9_passAll_38 : decode cX9_passAll 38 = .ok (.getfield 7, 3) := by decide +kernel
theorem dX9_passAll_41 : decode cX9_passAll 41 = .ok (.bipush 8, 2) := by decide +kernel
theorem dX9_passAll_43 : decode cX9_passAll 43 = .ok (.invokevirtual 351, 3) := by decide +kernel
theorem dX9_passAll_46 : decode cX9_passAll 46 = .ok (.aload_n 0, 1) := by decide +kernel
theorem dX9_passAll_47 : decode cX9_passAll 47 = .ok (.aload_n 0, 1) := by decide +kernel
theorem dX9_passAll_48 : decode cX9_passAll 48 = .ok (.getfield 13, 3) := by decide +kernel
theorem dX9_passAll_51 : decode cX9_passAll 51 = .ok (.bipush 8, 2) := by decide +kernel
theorem dX9_passAll_53 : decode cX9_passAll 53 = .ok (.invokevirtual 351, 3) := by decide +kernel
theorem dX9_passAll_56 : decode cX9_passAll 56 = .ok (.aload_n 0, 1) := by decide +kernel
theorem dX9_passAll_57 : decode cX9_passAll 57 = .ok (.aload_n 0, 1) := by decide +kernel
theorem dX9_passAll_58 : decode cX9_passAll 58 = .ok (.getfield 16, 3) := by decide +kernel
theorem dX9_passAll_61 : decode cX9_passAll 61 = .ok (.bipush 8, 2) := by decide +kernel
theorem dX9_passAll_63 : decode cX9_passAll 63 = .ok (.invokevirtual 351, 3) := by decide +kernel
theorem dX9_passAll_66 : decode cX9_passAll 66 = .ok (.aload_n 0, 1) := by decide +kernel
theorem dX9_passAll_67 : decode cX9_passAll 67 = .ok (.aload_n 0, 1) := by decide +kernel
theorem dX9_passAll_68 : decode cX9_passAll 68 = .ok (.getfield 19, 3) := by decide +kernel
theorem dX9_passAll_71 : decode cX9_passAll 71 = .ok (.bipush 8, 2) := by decide +kernel
theorem dX9_passAll_73 : decode cX9_passAll 73 = .ok (.invokevirtual 351, 3) := by decide +kernel
theorem dX9_passAll_76 : decode cX9_passAll 76 = .ok (.aload_n 0, 1) := by decide +kernel
theorem dX9_passAll_77 : decode cX9_passAll 77 = .ok (.aload_n 0, 1) := by decide +kernel
theorem dX9_passAll_78 : decode cX9_passAll 78 = .ok (.getfield 22, 3) := by decide +kernel
theorem dX9_passAll_81 : decode cX9_passAll 81 = .ok (.bipush 8, 2) := by decide +kernel
theorem dX9_passAll_83 : decode cX9_passAll 83 = .ok (.invokevirtual 351, 3) := by decide +kernel
theorem dX9_passAll_86 : decode cX9_passAll 86 = .ok (.aload_n 0, 1) := by decide +kernel
theorem dX9_passAll_87 : decode cX9_passAll 87 = .ok (.aload_n 0, 1) := by decide +kernel
theorem dX9_passAll_88 : decode cX9_passAll 88 = .ok (.getfield 25, 3) := by decide +kernel
theorem dX9_passAll_91 : decode cX9_passAll 91 = .ok (.iconst 4, 1) := by decide +kernel
theorem dX9_passAll_92 : decode cX9_passAll 92 = .ok (.invokevirtual 351, 3) := by decide +kernel
theorem dX9_passAll_95 : decode cX9_passAll 95 = .ok (.aload_n 0, 1) := by decide +kernel
theorem dX9_passAll_96 : decode cX9_passAll 96 = .ok (.aload_n 0, 1) := by decide +kernel
theorem dX9_passAll_97 : decode cX9_passAll 97 = .ok (.getfield 28, 3) := by decide +kernel
theorem dX9_passAll_100 : decode cX9_passAll 100 = .ok (.iconst 4, 1) := by decide +kernel
theorem dX9_passAll_101 : decode cX9_passAll 101 = .ok (.invokevirtual 351, 3) := by decide +kernel
theorem dX9_passAll_104 : decode cX9_passAll 104 = .ok (.aload_n 0, 1) := by decide +kernel
theorem dX9_passAll_105 : decode cX9_passAll 105 = .ok (.aload_n 0, 1) := by decide +kernel
theorem dX9_passAll_106 : decode cX9_passAll 106 = .ok (.getfield 31, 3) := by decide +kernel
theorem dX9_passAll_109 : decode cX9_passAll 109 = .ok (.iconst 4, 1) := by decide +kernel
theorem dX9_passAll_110 : decode cX9_passAll 110 = .ok (.invokevirtual 351, 3) := by decide +kernel
theorem dX9_passAll_113 : decode cX9_passAll 113 = .ok (.aload_n 0, 1) := by decide +kernel
theorem dX9_passAll_114 : decode cX9_passAll 114 = .ok (.aload_n 0, 1) := by decide +kernel
theorem dX9_passAll_115 : decode cX9_passAll 115 = .ok (.getfield 34, 3) := by decide +kernel
theorem dX9_passAll_118 : decode cX9_passAll 118 = .ok (.iconst 4, 1) := by decide +kernel
theorem dX9_passAll_119 : decode cX9_passAll 119 = .ok (.invokevirtual 351, 3) := by decide +kernel
theorem dX9_passAll_122 : decode cX9_passAll 122 = .ok (.aload_n 0, 1) := by decide +kernel
theorem dX9_passAll_123 : decode cX9_passAll 123 = .ok (.aload_n 0, 1) := by decide +kernel
theorem dX9_passAll_124 : decode cX9_passAll 124 = .ok (.getfield 37, 3) := by decide +kernel
theorem dX9_passAll_127 : decode cX9_passAll 127 = .ok (.bipush 8, 2) := by decide +kernel
theorem dX9_passAll_129 : decode cX9_passAll 129 = .ok (.invokevirtual 351, 3) := by decide +kernel
theorem dX9_passAll_132 : decode cX9_passAll 132 = .ok (.aload_n 0, 1) := by decide +kernel
theorem dX9_passAll_133 : decode cX9_passAll 133 = .ok (.aload_n 0, 1) := by decide +kernel
theorem dX9_passAll_134 : decode cX9_passAll 134 = .ok (.getfield 40, 3) := by decide +kernel
theorem dX9_passAll_137 : decode cX9_passAll 137 = .ok (.bipush 8, 2) := by decide +kernel
theorem dX9_passAll_139 : decode cX9_passAll 139 = .ok (.invokevirtual 351, 3) := by decide +kernel
theorem dX9_passAll_142 : decode cX9_passAll 142 = .ok (.aload_n 0, 1) := by decide +kernel
theorem dX9_passAll_143 : decode cX9_passAll 143 = .ok (.aload_n 0, 1) := by decide +kernel
theorem dX9_passAll_144 : decode cX9_passAll 144 = .ok (.getfield 43, 3) := by decide +kernel
theorem dX9_passAll_147 : decode cX9_passAll 147 = .ok (.bipush 8, 2) := by decide +kernel
theorem dX9_passAll_149 : decode cX9_passAll 149 = .ok (.invokevirtual 351, 3) := by decide +kernel
theorem dX9_passAll_152 : decode cX9_passAll 152 = .ok (.return_, 1) := by decide +kernel
set_option maxRecDepth 20000 in
theorem ggX9_image_X9_in : GoodIn wsX9_image wsX9_in := goodIn_r _ [7] (by decide +kernel) (by decide +kernel)
set_option maxRecDepth 20000 in
theorem gX9_image_X9_in : GoodIn wsX9_image (va_wsS RX9 83 yX9_in wsX9_in) := goodIn_app (goodIn_of _ (by decide +kernel)) ggX9_image_X9_in
set_option maxRecDepth 20000 in
theorem ggX9_image_X9_passAll : GoodIn wsX9_image wsX9_passAll := goodIn_r _ [11, 12, 13, 14, 15, 16, 17, 18, 19, 20, 21, 22, 23, 24, 25, 26, 27, 28, 29, 6, 30, 2, 31, 1, 32, 33, 34, 35, 36, 37, 38, 39, 40, 41, 42, 43, 44, 45, 46, 47, 48, 49, 50, 51, 52, 53, 54, 55, 56, 57, 58, 59, 60, 61, 62, 63, 64, 65, 66, 67, 68, 69, 70, 71, 72] (by decide +kernel) (by decide +kernel)
set_option maxRecDepth 20000 in
theorem gX9_image_X9_passAll : GoodIn wsX9_image (wsV RX9 354 RX9 yX9_passAll wsX9_passAll) := goodIn_app (goodIn_of _ (by decide +kernel)) ggX9_image_X9_passAll
theorem dX9_image_0 : decode cX9_image 0 = .ok (.iload_n 1, 1) := by decide +kernel
theorem dX9_image_1 : decode cX9_image 1 = .ok (.i2l, 1) := by decide +kernel
theorem dX9_image_2 : decode cX9_image 2 = .ok (.lconst 0, 1) := by decide +kernel
theorem dX9_image_3 : decode cX9_image 3 = .ok (.lconst 1, 1) := by decide +kernel
theorem dX9_image_4 : decode cX9_image 4 = .ok (.invokestatic 83, 3) := by decide +kernel
theorem dX9_image_7 : decode cX9_image 7 = .ok (.ifCond .ne 6, 3) := by decide +kernel
theorem dX9_image_10 : decode cX9_image 10 = .ok (.bipush (-2), 2) := by decide +kernel
theorem dX9_image_12 : decode cX9_image 12 = .ok (.ireturn, 1) := by decide +kernel
theorem dX9_image_13 : decode cX9_image 13 = .ok (.aload_n 0, 1) := by decide +kernel
theorem dX9_image_14 : decode cX9_image 14 = .ok (.bipush 90, 2) := by decide +kernel
theorem dX9_image_16 : decode cX9_image 16 = .ok (.iload_n 1, 1) := by decide +kernel
theorem dX9_image_17 : decode cX9_image 17 = .ok (.imul, 1) := by decide +kernel
theorem dX9_image_18 : decode cX9_image 18 = .ok (.putfield 345, 3) := by decide +kernel
theorem dX9_image_21 : decode cX9_image 21 = .ok (.aload_n 0, 1) := by decide +kernel
theorem dX9_image_22 : decode cX9_image 22 = .ok (.iconst 1, 1) := by decide +kernel
theorem dX9_image_23 : decode cX9_image 23 = .ok (.putfield 342, 3) := by decide +kernel
theorem dX9_image_26 : decode cX9_image 26 = .ok (.aload_n 0, 1) := by decide +kernel
theorem dX9_image_27 : decode cX9_image 27 = .ok (.invokevirtual 354, 3) := by decide +kernel
theorem dX9_image_30 : decode cX9_image 30 = .ok (.aload_n 0, 1) := by decide +kernel
theorem dX9_image_31 : decode cX9_image 31 = .ok (.getfield 74, 3) := by decide +kernel
theorem dX9_image_34 : decode cX9_image 34 = .ok (.iload_n 1, 1) := by decide +kernel
theorem dX9_image_35 : decode cX9_image 35 = .ok (.iconst 1, 1) := by decide +kernel
theorem dX9_image_36 : decode cX9_image 36 = .ok (.bastore, 1) := by decide +kernel
theorem dX9_image_37 : decode cX9_image 37 = .ok (.iconst 1, 1) := by decide +kernel
theorem dX9_image_38 : decode cX9_image 38 = .ok (.ireturn, 1) := by decide +kernel
set_option maxRecDepth 20000 in
theorem ggX9_restore_X9_in : GoodIn wsX9_restore wsX9_in := goodIn_r _ [7] (by decide +kernel) (by decide +kernel)
set_option maxRecDepth 20000 in
theorem gX9_restore_X9_in : GoodIn wsX9_restore (va_wsS RX9 83 yX9_in wsX9_in) := goodIn_app (goodIn_of _ (by decide +kernel)) ggX9_restore_X9_in
set_option maxRecDepth 20000 in
theorem ggX9_restore_X9_passAll : GoodIn wsX9_restore wsX9_passAll := goodIn_r _ [11, 12, 13, 14, 15, 16, 17, 18, 19, 20, 21, 22, 23, 24, 25, 26, 27, 28, 29, 6, 30, 3, 31, 2, 32, 33, 34, 35, 36, 37, 38, 39, 40, 41, 42, 43, 44, 45, 46, 47, 48, 49, 50, 51, 52, 53, 54, 55, 56, 57, 58, 59, 60, 61, 62, 63, 64, 65, 66, 67, 68, 69, 70, 71, 72] (by decide +kernel) (by decide +kernel)
set_option maxRecDepth 20000 in
theorem gX9_restore_X9_passAll : GoodIn wsX9_restore (wsV RX9 354 RX9 yX9_passAll wsX9_passAll) := goodIn_app (goodIn_of _ (by decide +kernel)) ggX9_restore_X9_passAll
theorem dX9_restore_0 : decode cX9_restore 0 = .ok (.iload_n 1, 1) := by decide +kernel
theorem dX9_restore_1 : decode cX9_restore 1 = .ok (.i2l, 1) := by decide +kernel
theorem dX9_restore_2 : decode cX9_restore 2 = .ok (.lconst 0, 1) := by decide +kernel
theorem dX9_restore_3 : decode cX9_restore 3 = .ok (.lconst 1, 1) := by decide +kernel
theorem dX9_restore_4 : decode cX9_restore 4 = .ok (.invokestatic 83, 3) := by decide +kernel
theorem dX9_restore_7 : decode cX9_restore 7 = .ok (.ifCond .ne 6, 3) := by decide +kernel
theorem dX9_restore_10 : decode cX9_restore 10 = .ok (.bipush (-2), 2) := by decide +kernel
theorem dX9_restore_12 : decode cX9_restore 12 = .ok (.ireturn, 1) := by decide +kernel
theorem dX9_restore_13 : decode cX9_restore 13 = .ok (.aload_n 0, 1) := by decide +kernel
theorem dX9_restore_14 : decode cX9_restore 14 = .ok (.getfield 74, 3) := by decide +kernel
theorem dX9_restore_17 : decode cX9_restore 17 = .ok (.iload_n 1, 1) := by decide +kernel
theorem dX9_restore_18 : decode cX9_restore 18 = .ok (.baload, 1) := by decide +kernel
theorem dX9_restore_19 : decode cX9_restore 19 = .ok (.ifCond .ne 6, 3) := by decide +kernel
theorem dX9_restore_22 : decode cX9_restore 22 = .ok (.bipush (-3), 2) := by decide +kernel
theorem dX9_restore_24 : decode cX9_restore 24 = .ok (.ireturn, 1) := by decide +kernel
theorem dX9_restore_25 : decode cX9_restore 25 = .ok (.aload_n 0, 1) := by decide +kernel
theorem dX9_restore_26 : decode cX9_restore 26 = .ok (.bipush 90, 2) := by decide +kernel
theorem dX9_restore_28 : decode cX9_restore 28 = .ok (.iload_n 1, 1) := by decide +kernel
theorem dX9_restore_29 : decode cX9_restore 29 = .ok (.imul, 1) := by decide +kernel
theorem dX9_restore_30 : decode cX9_restore 30 = .ok (.putfield 345, 3) := by decide +kernel
theorem dX9_restore_33 : decode cX9_restore 33 = .ok (.aload_n 0, 1) := by decide +kernel
theorem dX9_restore_34 : decode cX9_restore 34 = .ok (.iconst 0, 1) := by decide +kernel
theorem dX9_restore_35 : decode cX9_restore 35 = .ok (.putfield 342, 3) := by decide +kernel
theorem dX9_restore_38 : decode cX9_restore 38 = .ok (.aload_n 0, 1) := by decide +kernel
theorem dX9_restore_39 : decode cX9_restore 39 = .ok (.invokevirtual 354, 3) := by decide +kernel
theorem dX9_restore_42 : decode cX9_restore 42 = .ok (.iconst 1, 1) := by decide +kernel
theorem dX9_restore_43 : decode cX9_restore 43 = .ok (.ireturn, 1) := by decide +kernel
set_option maxRecDepth 20000 in
theorem ggX9_whoMay_X9_may : GoodIn wsX9_whoMay wsX9_may := goodIn_r _ [5, 6, 7, 8, 9, 10, 11, 12, 13, 14, 15, 16, 17, 18, 19, 20, 21, 22, 23, 24, 25, 26, 27, 28, 29, 30, 31, 32, 33, 34, 35, 36, 37, 38, 39, 40, 41, 42, 43, 44] (by decide +kernel) (by decide +kernel)
set_option maxRecDepth 20000 in
theorem gX9_whoMay_X9_may : GoodIn wsX9_whoMay (wsV RX9 150 RX9 yX9_may wsX9_may) := goodIn_app (goodIn_of _ (by decide +kernel)) ggX9_whoMay_X9_may
theorem dX9_whoMay_0 : decode cX9_whoMay 0 = .ok (.iconst 0, 1) := by decide +kernel
theorem dX9_whoMay_1 : decode cX9_whoMay 1 = .ok (.istore_n 1, 1) := by decide +kernel
theorem dX9_whoMay_2 : decode cX9_whoMay 2 = .ok (.iconst 0, 1) := by decide +kernel
theorem dX9_whoMay_3 : decode cX9_whoMay 3 = .ok (.istore_n 2, 1) := by decide +kernel
theorem dX9_whoMay_4 : decode cX9_whoMay 4 = .ok (.iload_n 2, 1) := by decide +kernel
theorem dX9_whoMay_5 : decode cX9_whoMay 5 = .ok (.iconst 4, 1) := by decide +kernel
theorem dX9_whoMay_6 : decode cX9_whoMay 6 = .ok (.if_icmp .ge 27, 3) := by decide +kernel
theorem dX9_whoMay_9 : decode cX9_whoMay 9 = .ok (.iload_n 1, 1) := by decide +kernel
theorem dX9_whoMay_10 : decode cX9_whoMay 10 = .ok (.aload_n 0, 1) := by decide +kernel
theorem dX9_whoMay_11 : decode cX9_whoMay 11 = .ok (.iload_n 2, 1) := by decide +kernel
theorem dX9_whoMay_12 : decode cX9_whoMay 12 = .ok (.invokevirtual 150, 3) := by decide +kernel
theorem dX9_whoMay_15 : decode cX9_whoMay 15 = .ok (.ifCond .eq 9, 3) := by decide +kernel
theorem dX9_whoMay_18 : decode cX9_whoMay 18 = .ok (.iconst 1, 1) := by decide +kernel
theorem dX9_whoMay_19 : decode cX9_whoMay 19 = .ok (.iload_n 2, 1) := by decide +kernel
theorem dX9_whoMay_20 : decode cX9_whoMay 20 = .ok (.ishl, 1) := by decide +kernel
theorem dX9_whoMay_21 : decode cX9_whoMay 21 = .ok (.goto 4, 3) := by decide +kernel
theorem dX9_whoMay_24 : decode cX9_whoMay 24 = .ok (.iconst 0, 1) := by decide +kernel
theorem dX9_whoMay_25 : decode cX9_whoMay 25 = .ok (.ior, 1) := by decide +kernel
theorem dX9_whoMay_26 : decode cX9_whoMay 26 = .ok (.istore_n 1, 1) := by decide +kernel
theorem dX9_whoMay_27 : decode cX9_whoMay 27 = .ok (.iinc 2 1, 3) := by decide +kernel
theorem dX9_whoMay_30 : decode cX9_whoMay 30 = .ok (.goto (-26), 3) := by decide +kernel
theorem dX9_whoMay_33 : decode cX9_whoMay 33 = .ok (.iload_n 1, 1) := by decide +kernel
theorem dX9_whoMay_34 : decode cX9_whoMay 34 = .ok (.ireturn, 1) := by decide +kernel
set_option maxRecDepth 20000 in
theorem ggX9_toldOfPerson_X9_isPerson : GoodIn wsX9_toldOfPerson wsX9_isPerson := goodIn_r _ [4, 5, 6, 7, 3, 8] (by decide +kernel) (by decide +kernel)
set_option maxRecDepth 20000 in
theorem gX9_toldOfPerson_X9_isPerson : GoodIn wsX9_toldOfPerson (va_wsS RX9 91 yX9_isPerson wsX9_isPerson) := goodIn_app (goodIn_of _ (by decide +kernel)) ggX9_toldOfPerson_X9_isPerson
set_option maxRecDepth 20000 in
theorem ggX9_toldOfPerson_X9_ofPerson : GoodIn wsX9_toldOfPerson wsX9_ofPerson := goodIn_r _ [12, 13, 14, 15, 16, 17, 18, 19, 20, 21, 22, 23, 24, 25, 26, 27, 28, 29, 30, 31, 32, 33, 34, 35, 36, 37, 38, 39, 40, 41, 42, 43, 44, 45, 46, 47, 48, 49, 50, 51, 52, 53, 54] (by decide +kernel) (by decide +kernel)
set_option maxRecDepth 20000 in
theorem gX9_toldOfPerson_X9_ofPerson : GoodIn wsX9_toldOfPerson (wsV RX9 243 RX9 yX9_ofPerson wsX9_ofPerson) := goodIn_app (goodIn_of _ (by decide +kernel)) ggX9_toldOfPerson_X9_ofPerson
theorem dX9_toldOfPerson_0 : decode cX9_toldOfPerson 0 = .ok (.iload_n 1, 1) := by decide +kernel
theorem dX9_toldOfPerson_1 : decode cX9_toldOfPerson 1 = .ok (.bipush 10, 2) := by decide +kernel
theorem dX9_toldOfPerson_3 : decode cX9_toldOfPerson 3 = .ok (.irem, 1) := by decide +kernel
theorem dX9_toldOfPerson_4 : decode cX9_toldOfPerson 4 = .ok (.istore_n 2, 1) := by decide +kernel
theorem dX9_toldOfPerson_5 : decode cX9_toldOfPerson 5 = .ok (.iload_n 2, 1) := by decide +kernel
theorem dX9_toldOfPerson_6 : decode cX9_toldOfPerson 6 = .ok (.invokestatic 91, 3) := by decide +kernel
theorem dX9_toldOfPerson_9 : decode cX9_toldOfPerson 9 = .ok (.ifCond .eq 17, 3) := by decide +kernel
theorem dX9_toldOfPerson_12 : decode cX9_toldOfPerson 12 = .ok (.aload_n 0, 1) := by decide +kernel
theorem dX9_toldOfPerson_13 : decode cX9_toldOfPerson 13 = .ok (.iload_n 2, 1) := by decide +kernel
theorem dX9_toldOfPerson_14 : decode cX9_toldOfPerson 14 = .ok (.iload_n 1, 1) := by decide +kernel
theorem dX9_toldOfPerson_15 : decode cX9_toldOfPerson 15 = .ok (.bipush 10, 2) := by decide +kernel
theorem dX9_toldOfPerson_17 : decode cX9_toldOfPerson 17 = .ok (.idiv, 1) := by decide +kernel
theorem dX9_toldOfPerson_18 : decode cX9_toldOfPerson 18 = .ok (.iconst 1, 1) := by decide +kernel
theorem dX9_toldOfPerson_19 : decode cX9_toldOfPerson 19 = .ok (.isub, 1) := by decide +kernel
theorem dX9_toldOfPerson_20 : decode cX9_toldOfPerson 20 = .ok (.invokevirtual 243, 3) := by decide +kernel
theorem dX9_toldOfPerson_23 : decode cX9_toldOfPerson 23 = .ok (.goto 5, 3) := by decide +kernel
theorem dX9_toldOfPerson_26 : decode cX9_toldOfPerson 26 = .ok (.bipush (-2), 2) := by decide +kernel
theorem dX9_toldOfPerson_28 : decode cX9_toldOfPerson 28 = .ok (.ireturn, 1) := by decide +kernel
set_option maxRecDepth 20000 in
theorem ggX9_toldOfReader_X9_isReader : GoodIn wsX9_toldOfReader wsX9_isReader := goodIn_r _ [7, 8, 9, 10, 6, 11] (by decide +kernel) (by decide +kernel)
set_option maxRecDepth 20000 in
theorem gX9_toldOfReader_X9_isReader : GoodIn wsX9_toldOfReader (va_wsS RX9 103 yX9_isReader wsX9_isReader) := goodIn_app (goodIn_of _ (by decide +kernel)) ggX9_toldOfReader_X9_isReader
theorem dX9_toldOfReader_0 : decode cX9_toldOfReader 0 = .ok (.iload_n 1, 1) := by decide +kernel
theorem dX9_toldOfReader_1 : decode cX9_toldOfReader 1 = .ok (.bipush 10, 2) := by decide +kernel
theorem dX9_toldOfReader_3 : decode cX9_toldOfReader 3 = .ok (.irem, 1) := by decide +kernel
theorem dX9_toldOfReader_4 : decode cX9_toldOfReader 4 = .ok (.istore_n 2, 1) := by decide +kernel
theorem dX9_toldOfReader_5 : decode cX9_toldOfReader 5 = .ok (.iload_n 2, 1) := by decide +kernel
theorem dX9_toldOfReader_6 : decode cX9_toldOfReader 6 = .ok (.invokestatic 103, 3) := by decide +kernel
theorem dX9_toldOfReader_9 : decode cX9_toldOfReader 9 = .ok (.ifCond .ne 6, 3) := by decide +kernel
theorem dX9_toldOfReader_12 : decode cX9_toldOfReader 12 = .ok (.bipush (-2), 2) := by decide +kernel
theorem dX9_toldOfReader_14 : decode cX9_toldOfReader 14 = .ok (.ireturn, 1) := by decide +kernel
theorem dX9_toldOfReader_15 : decode cX9_toldOfReader 15 = .ok (.iload_n 1, 1) := by decide +kernel
theorem dX9_toldOfReader_16 : decode cX9_toldOfReader 16 = .ok (.bipush 70, 2) := by decide +kernel
theorem dX9_toldOfReader_18 : decode cX9_toldOfReader 18 = .ok (.if_icmp .ge 12, 3) := by decide +kernel
theorem dX9_toldOfReader_21 : decode cX9_toldOfReader 21 = .ok (.aload_n 0, 1) := by decide +kernel
theorem dX9_toldOfReader_22 : decode cX9_toldOfReader 22 = .ok (.getfield 25, 3) := by decide +kernel
theorem dX9_toldOfReader_25 : decode cX9_toldOfReader 25 = .ok (.iload_n 2, 1) := by decide +kernel
theorem dX9_toldOfReader_26 : decode cX9_toldOfReader 26 = .ok (.iaload, 1) := by decide +kernel
theorem dX9_toldOfReader_27 : decode cX9_toldOfReader 27 = .ok (.goto 24, 3) := by decide +kernel
theorem dX9_toldOfReader_30 : decode cX9_toldOfReader 30 = .ok (.iload_n 1, 1) := by decide +kernel
theorem dX9_toldOfReader_31 : decode cX9_toldOfReader 31 = .ok (.bipush 80, 2) := by decide +kernel
theorem dX9_toldOfReader_33 : decode cX9_toldOfReader 33 = .ok (.if_icmp .ge 12, 3) := by decide +kernel
theorem dX9_toldOfReader_36 : decode cX9_toldOfReader 36 = .ok (.aload_n 0, 1) := by decide +kernel
theorem dX9_toldOfReader_37 : decode cX9_toldOfReader 37 = .ok (.getfield 28, 3) := by decide +kernel
theorem dX9_toldOfReader_40 : decode cX9_toldOfReader 40 = .ok (.iload_n 2, 1) := by decide +kernel
theorem dX9_toldOfReader_41 : decode cX9_toldOfReader 41 = .ok (.iaload, 1) := by decide +kernel
theorem dX9_toldOfReader_42 : decode cX9_toldOfReader 42 = .ok (.goto 9, 3) := by decide +kernel
theorem dX9_toldOfReader_45 : decode cX9_toldOfReader 45 = .ok (.aload_n 0, 1) := by decide +kernel
theorem dX9_toldOfReader_46 : decode cX9_toldOfReader 46 = .ok (.getfield 31, 3) := by decide +kernel
theorem dX9_toldOfReader_49 : decode cX9_toldOfReader 49 = .ok (.iload_n 2, 1) := by decide +kernel
theorem dX9_toldOfReader_50 : decode cX9_toldOfReader 50 = .ok (.iaload, 1) := by decide +kernel
theorem dX9_toldOfReader_51 : decode cX9_toldOfReader 51 = .ok (.ireturn, 1) := by decide +kernel
set_option maxRecDepth 20000 in
theorem ggX9_toldOfAll_X9_lying : GoodIn wsX9_toldOfAll wsX9_lying := goodIn_r _ [9, 10, 21, 22, 23, 24, 25, 26, 27, 28, 29, 30, 31, 32, 33, 34, 35, 36, 37, 38, 39, 40, 41, 42, 43, 44, 45, 46, 47, 48, 49, 50, 51, 52, 53, 54, 55, 56, 57] (by decide +kernel) (by decide +kernel)
set_option maxRecDepth 20000 in
theorem gX9_toldOfAll_X9_lying : GoodIn wsX9_toldOfAll (wsV RX9 246 RX9 yX9_lying wsX9_lying) := goodIn_app (goodIn_of _ (by decide +kernel)) ggX9_toldOfAll_X9_lying
set_option maxRecDepth 20000 in
theorem ggX9_toldOfAll_X9_whoMay : GoodIn wsX9_toldOfAll wsX9_whoMay := goodIn_r _ [14, 15, 16, 17, 8, 18, 19, 20, 21, 22, 23, 24, 25, 26, 27, 28, 29, 30, 31, 32, 33, 34, 35, 36, 37, 38, 39, 40, 41, 42, 43, 44, 45, 46, 47, 48, 49, 50, 51, 52, 53, 54, 55, 56, 57] (by decide +kernel) (by decide +kernel)
set_option maxRecDepth 20000 in
theorem gX9_toldOfAll_X9_whoMay : GoodIn wsX9_toldOfAll (wsV RX9 357 RX9 yX9_whoMay wsX9_whoMay) := goodIn_app (goodIn_of _ (by decide +kernel)) ggX9_toldOfAll_X9_whoMay
theorem dX9_toldOfAll_0 : decode cX9_toldOfAll 0 = .ok (.iload_n 1, 1) := by decide +kernel
theorem dX9_toldOfAll_1 : decode cX9_toldOfAll 1 = .ok (.tableswitch 69 0 5 #[39, 44, 49, 54, 59, 64], 39) := by decide +kernel
theorem dX9_toldOfAll_40 : decode cX9_toldOfAll 40 = .ok (.aload_n 0, 1) := by decide +kernel
theorem dX9_toldOfAll_41 : decode cX9_toldOfAll 41 = .ok (.getfield 115, 3) := by decide +kernel
theorem dX9_toldOfAll_44 : decode cX9_toldOfAll 44 = .ok (.ireturn, 1) := by decide +kernel
theorem dX9_toldOfAll_45 : decode cX9_toldOfAll 45 = .ok (.aload_n 0, 1) := by decide +kernel
theorem dX9_toldOfAll_46 : decode cX9_toldOfAll 46 = .ok (.getfield 156, 3) := by decide +kernel
theorem dX9_toldOfAll_49 : decode cX9_toldOfAll 49 = .ok (.ireturn, 1) := by decide +kernel
theorem dX9_toldOfAll_50 : decode cX9_toldOfAll 50 = .ok (.aload_n 0, 1) := by decide +kernel
theorem dX9_toldOfAll_51 : decode cX9_toldOfAll 51 = .ok (.getfield 77, 3) := by decide +kernel
theorem dX9_toldOfAll_54 : decode cX9_toldOfAll 54 = .ok (.ireturn, 1) := by decide +kernel
theorem dX9_toldOfAll_55 : decode cX9_toldOfAll 55 = .ok (.aload_n 0, 1) := by decide +kernel
theorem dX9_toldOfAll_56 : decode cX9_toldOfAll 56 = .ok (.invokevirtual 246, 3) := by decide +kernel
theorem dX9_toldOfAll_59 : decode cX9_toldOfAll 59 = .ok (.ireturn, 1) := by decide +kernel
theorem dX9_toldOfAll_60 : decode cX9_toldOfAll 60 = .ok (.aload_n 0, 1) := by decide +kernel
theorem dX9_toldOfAll_61 : decode cX9_toldOfAll 61 = .ok (.invokevirtual 357, 3) := by decide +kernel
theorem dX9_toldOfAll_64 : decode cX9_toldOfAll 64 = .ok (.ireturn, 1) := by decide +kernel
theorem dX9_toldOfAll_65 : decode cX9_toldOfAll 65 = .ok (.aload_n 0, 1) := by decide +kernel
theorem dX9_toldOfAll_66 : decode cX9_toldOfAll 66 = .ok (.getfield 285, 3) := by decide +kernel
theorem dX9_toldOfAll_69 : decode cX9_toldOfAll 69 = .ok (.ireturn, 1) := by decide +kernel
theorem dX9_toldOfAll_70 : decode cX9_toldOfAll 70 = .ok (.bipush (-2), 2) := by decide +kernel
theorem dX9_toldOfAll_72 : decode cX9_toldOfAll 72 = .ok (.ireturn, 1) := by decide +kernel
set_option maxRecDepth 20000 in
theorem ggX9_told_X9_in : GoodIn wsX9_told wsX9_in := goodIn_r _ [8] (by decide +kernel) (by decide +kernel)
set_option maxRecDepth 20000 in
theorem gX9_told_X9_in : GoodIn wsX9_told (va_wsS RX9 83 yX9_in wsX9_in) := goodIn_app (goodIn_of _ (by decide +kernel)) ggX9_told_X9_in
set_option maxRecDepth 20000 in
theorem ggX9_told_X9_toldOfPerson : GoodIn wsX9_told wsX9_toldOfPerson := goodIn_r _ [12, 13, 14, 7, 15, 16, 5, 6, 8, 17, 18, 19, 20, 21, 22, 23, 24, 25, 58, 59, 60, 61, 62, 63, 64, 65, 66, 67, 68, 69, 70, 71, 72, 73, 74, 75, 76, 77, 78, 79, 80, 81, 82, 83, 84, 85, 86, 87, 88, 89, 90, 91, 92, 93, 94] (by decide +kernel) (by decide +kernel)
set_option maxRecDepth 20000 in
theorem gX9_told_X9_toldOfPerson : GoodIn wsX9_told (wsV RX9 364 RX9 yX9_toldOfPerson wsX9_toldOfPerson) := goodIn_app (goodIn_of _ (by decide +kernel)) ggX9_told_X9_toldOfPerson
set_option maxRecDepth 20000 in
theorem ggX9_told_X9_toldOfReader : GoodIn wsX9_told wsX9_toldOfReader := goodIn_r _ [29, 30, 31, 32, 33, 34, 7, 35, 36, 5, 6, 8, 58, 59, 60, 61, 62, 63, 64, 65, 66, 67, 68, 69, 70, 71, 72, 73, 74, 75, 76, 77, 78, 79, 80, 81, 82, 83, 84, 85, 86, 87, 88, 89, 90, 91, 92, 93, 94] (by decide +kernel) (by decide +kernel)
set_option maxRecDepth 20000 in
theorem gX9_told_X9_toldOfReader : GoodIn wsX9_told (wsV RX9 371 RX9 yX9_toldOfReader wsX9_toldOfReader) := goodIn_app (goodIn_of _ (by decide +kernel)) ggX9_told_X9_toldOfReader
set_option maxRecDepth 20000 in
theorem ggX9_told_X9_toldOfAll : GoodIn wsX9_told wsX9_toldOfAll := goodIn_r _ [40, 41, 42, 43, 44, 45, 46, 47, 7, 48, 23, 49, 50, 51, 52, 53, 54, 55, 56, 31, 57, 58, 59, 60, 61, 62, 63, 64, 65, 66, 67, 68, 69, 70, 71, 72, 73, 74, 75, 76, 77, 78, 79, 80, 81, 82, 83, 84, 85, 86, 87, 88, 89, 90, 91, 92, 93, 94] (by decide +kernel) (by decide +kernel)
set_option maxRecDepth 20000 in
theorem gX9_told_X9_toldOfAll : GoodIn wsX9_told (wsV RX9 374 RX9 yX9_toldOfAll wsX9_toldOfAll) := goodIn_app (goodIn_of _ (by decide +kernel)) ggX9_told_X9_toldOfAll
theorem dX9_told_0 : decode cX9_told 0 = .ok (.iload_n 1, 1) := by decide +kernel
theorem dX9_told_1 : decode cX9_told 1 = .ok (.i2l, 1) := by decide +kernel
theorem dX9_told_2 : decode cX9_told 2 = .ok (.ldc2_w 360, 3) := by decide +kernel
theorem dX9_told_5 : decode cX9_told 5 = .ok (.ldc2_w 362, 3) := by decide +kernel
theorem dX9_told_8 : decode cX9_told 8 = .ok (.invokestatic 83, 3) := by decide +kernel
theorem dX9_told_11 : decode cX9_told 11 = .ok (.ifCond .eq 9, 3) := by decide +kernel
theorem dX9_told_14 : decode cX9_told 14 = .ok (.aload_n 0, 1) := by decide +kernel
theorem dX9_told_15 : decode cX9_told 15 = .ok (.iload_n 1, 1) := by decide +kernel
theorem dX9_told_16 : decode cX9_told 16 = .ok (.invokevirtual 364, 3) := by decide +kernel
theorem dX9_told_19 : decode cX9_told 19 = .ok (.ireturn, 1) := by decide +kernel
theorem dX9_told_20 : decode cX9_told 20 = .ok (.iload_n 1, 1) := by decide +kernel
theorem dX9_told_21 : decode cX9_told 21 = .ok (.i2l, 1) := by decide +kernel
theorem dX9_told_22 : decode cX9_told 22 = .ok (.ldc2_w 367, 3) := by decide +kernel
theorem dX9_told_25 : decode cX9_told 25 = .ok (.ldc2_w 369, 3) := by decide +kernel
theorem dX9_told_28 : decode cX9_told 28 = .ok (.invokestatic 83, 3) := by decide +kernel
theorem dX9_told_31 : decode cX9_told 31 = .ok (.ifCond .eq 11, 3) := by decide +kernel
theorem dX9_told_34 : decode cX9_told 34 = .ok (.aload_n 0, 1) := by decide +kernel
theorem dX9_told_35 : decode cX9_told 35 = .ok (.iload_n 1, 1) := by decide +kernel
theorem dX9_told_36 : decode cX9_told 36 = .ok (.invokevirtual 371, 3) := by decide +kernel
theorem dX9_told_39 : decode cX9_told 39 = .ok (.goto 8, 3) := by decide +kernel
theorem dX9_told_42 : decode cX9_told 42 = .ok (.aload_n 0, 1) := by decide +kernel
theorem dX9_told_43 : decode cX9_told 43 = .ok (.iload_n 1, 1) := by decide +kernel
theorem dX9_told_44 : decode cX9_told 44 = .ok (.invokevirtual 374, 3) := by decide +kernel
theorem dX9_told_47 : decode cX9_told 47 = .ok (.ireturn, 1) := by decide +kernel
theorem dJ6_numberOfTrailingZeros_0f7a4_0 : decode cJ6_numberOfTrailingZeros_0f7a4 0 = .ok (.iload_n 0, 1) := by decide +kernel
theorem dJ6_numberOfTrailingZeros_0f7a4_1 : decode cJ6_numberOfTrailingZeros_0f7a4 1 = .ok (.iconst (-1), 1) := by decide +kernel
theorem dJ6_numberOfTrailingZeros_0f7a4_2 : decode cJ6_numberOfTrailingZeros_0f7a4 2 = .ok (.ixor, 1) := by decide +kernel
theorem dJ6_numberOfTrailingZeros_0f7a4_3 : decode cJ6_numberOfTrailingZeros_0f7a4 3 = .ok (.iload_n 0, 1) := by decide +kernel
theorem dJ6_numberOfTrailingZeros_0f7a4_4 : decode cJ6_numberOfTrailingZeros_0f7a4 4 = .ok (.iconst 1, 1) := by decide +kernel
theorem dJ6_numberOfTrailingZeros_0f7a4_5 : decode cJ6_numberOfTrailingZeros_0f7a4 5 = .ok (.isub, 1) := by decide +kernel
theorem dJ6_numberOfTrailingZeros_0f7a4_6 : decode cJ6_numberOfTrailingZeros_0f7a4 6 = .ok (.iand, 1) := by decide +kernel
theorem dJ6_numberOfTrailingZeros_0f7a4_7 : decode cJ6_numberOfTrailingZeros_0f7a4 7 = .ok (.istore_n 0, 1) := by decide +kernel
theorem dJ6_numberOfTrailingZeros_0f7a4_8 : decode cJ6_numberOfTrailingZeros_0f7a4 8 = .ok (.iload_n 0, 1) := by decide +kernel
theorem dJ6_numberOfTrailingZeros_0f7a4_9 : decode cJ6_numberOfTrailingZeros_0f7a4 9 = .ok (.ifCond .gt 8, 3) := by decide +kernel
theorem dJ6_numberOfTrailingZeros_0f7a4_12 : decode cJ6_numberOfTrailingZeros_0f7a4 12 = .ok (.iload_n 0, 1) := by decide +kernel
theorem dJ6_numberOfTrailingZeros_0f7a4_13 : decode cJ6_numberOfTrailingZeros_0f7a4 13 = .ok (.bipush 32, 2) := by decide +kernel
theorem dJ6_numberOfTrailingZeros_0f7a4_15 : decode cJ6_numberOfTrailingZeros_0f7a4 15 = .ok (.iand, 1) := by decide +kernel
theorem dJ6_numberOfTrailingZeros_0f7a4_16 : decode cJ6_numberOfTrailingZeros_0f7a4 16 = .ok (.ireturn, 1) := by decide +kernel
theorem dJ6_numberOfTrailingZeros_0f7a4_17 : decode cJ6_numberOfTrailingZeros_0f7a4 17 = .ok (.iconst 1, 1) := by decide +kernel
theorem dJ6_numberOfTrailingZeros_0f7a4_18 : decode cJ6_numberOfTrailingZeros_0f7a4 18 = .ok (.istore_n 1, 1) := by decide +kernel
theorem dJ6_numberOfTrailingZeros_0f7a4_19 : decode cJ6_numberOfTrailingZeros_0f7a4 19 = .ok (.iload_n 0, 1) := by decide +kernel
theorem dJ6_numberOfTrailingZeros_0f7a4_20 : decode cJ6_numberOfTrailingZeros_0f7a4 20 = .ok (.ldc_w 264, 3) := by decide +kernel
