theorem dX6_canRead_49 : decode cX6_canRead 49 = .ok (.ishl, 1) := by decide +kernel
theorem dX6_canRead_50 : decode cX6_canRead 50 = .ok (.ixor, 1) := by decide +kernel
theorem dX6_canRead_51 : decode cX6_canRead 51 = .ok (.iload 5, 2) := by decide +kernel
theorem dX6_canRead_53 : decode cX6_canRead 53 = .ok (.invokevirtual 29, 3) := by decide +kernel
theorem dX6_canRead_56 : decode cX6_canRead 56 = .ok (.istore 7, 2) := by decide +kernel
theorem dX6_canRead_58 : decode cX6_canRead 58 = .ok (.iload 7, 2) := by decide +kernel
theorem dX6_canRead_60 : decode cX6_canRead 60 = .ok (.sipush 1000, 3) := by decide +kernel
theorem dX6_canRead_63 : decode cX6_canRead 63 = .ok (.if_icmp .ge 34, 3) := by decide +kernel
theorem dX6_canRead_66 : decode cX6_canRead 66 = .ok (.aload_n 1, 1) := by decide +kernel
theorem dX6_canRead_67 : decode cX6_canRead 67 = .ok (.getfield 33, 3) := by decide +kernel
theorem dX6_canRead_70 : decode cX6_canRead 70 = .ok (.iload 5, 2) := by decide +kernel
theorem dX6_canRead_72 : decode cX6_canRead 72 = .ok (.iaload, 1) := by decide +kernel
theorem dX6_canRead_73 : decode cX6_canRead 73 = .ok (.iload 7, 2) := by decide +kernel
theorem dX6_canRead_75 : decode cX6_canRead 75 = .ok (.aload_n 1, 1) := by decide +kernel
theorem dX6_canRead_76 : decode cX6_canRead 76 = .ok (.getfield 36, 3) := by decide +kernel
theorem dX6_canRead_79 : decode cX6_canRead 79 = .ok (.imul, 1) := by decide +kernel
theorem dX6_canRead_80 : decode cX6_canRead 80 = .ok (.if_icmp .le 17, 3) := by decide +kernel
theorem dX6_canRead_83 : decode cX6_canRead 83 = .ok (.aload_n 0, 1) := by decide +kernel
theorem dX6_canRead_84 : decode cX6_canRead 84 = .ok (.getfield 9, 3) := by decide +kernel
theorem dX6_canRead_87 : decode cX6_canRead 87 = .ok (.iload 6, 2) := by decide +kernel
theorem dX6_canRead_89 : decode cX6_canRead 89 = .ok (.iload 7, 2) := by decide +kernel
theorem dX6_canRead_91 : decode cX6_canRead 91 = .ok (.iconst 1, 1) := by decide +kernel
theorem dX6_canRead_92 : decode cX6_canRead 92 = .ok (.iadd, 1) := by decide +kernel
theorem dX6_canRead_93 : decode cX6_canRead 93 = .ok (.iastore, 1) := by decide +kernel
theorem dX6_canRead_94 : decode cX6_canRead 94 = .ok (.iconst 1, 1) := by decide +kernel
theorem dX6_canRead_95 : decode cX6_canRead 95 = .ok (.istore 4, 2) := by decide +kernel
theorem dX6_canRead_97 : decode cX6_canRead 97 = .ok (.iinc 5 1, 3) := by decide +kernel
theorem dX6_canRead_100 : decode cX6_canRead 100 = .ok (.goto (-94), 3) := by decide +kernel
theorem dX6_canRead_103 : decode cX6_canRead 103 = .ok (.iload 4, 2) := by decide +kernel
theorem dX6_canRead_105 : decode cX6_canRead 105 = .ok (.ireturn, 1) := by decide +kernel
theorem dX6_earliestArrival_0 : decode cX6_earliestArrival 0 = .ok (.iload_n 3, 1) := by decide +kernel
theorem dX6_earliestArrival_1 : decode cX6_earliestArrival 1 = .ok (.ifCond .ne 49, 3) := by decide +kernel
theorem dX6_earliestArrival_4 : decode cX6_earliestArrival 4 = .ok (.aload_n 1, 1) := by decide +kernel
theorem dX6_earliestArrival_5 : decode cX6_earliestArrival 5 = .ok (.getfield 40, 3) := by decide +kernel
theorem dX6_earliestArrival_8 : decode cX6_earliestArrival 8 = .ok (.iload_n 2, 1) := by decide +kernel
theorem dX6_earliestArrival_9 : decode cX6_earliestArrival 9 = .ok (.iaload, 1) := by decide +kernel
theorem dX6_earliestArrival_10 : decode cX6_earliestArrival 10 = .ok (.aload_n 1, 1) := by decide +kernel
theorem dX6_earliestArrival_11 : decode cX6_earliestArrival 11 = .ok (.getfield 43, 3) := by decide +kernel
theorem dX6_earliestArrival_14 : decode cX6_earliestArrival 14 = .ok (.iload_n 2, 1) := by decide +kernel
theorem dX6_earliestArrival_15 : decode cX6_earliestArrival 15 = .ok (.baload, 1) := by decide +kernel
theorem dX6_earliestArrival_16 : decode cX6_earliestArrival 16 = .ok (.ifCond .eq 7, 3) := by decide +kernel
theorem dX6_earliestArrival_19 : decode cX6_earliestArrival 19 = .ok (.iconst 1, 1) := by decide +kernel
theorem dX6_earliestArrival_20 : decode cX6_earliestArrival 20 = .ok (.goto 4, 3) := by decide +kernel
theorem dX6_earliestArrival_23 : decode cX6_earliestArrival 23 = .ok (.iconst 0, 1) := by decide +kernel
theorem dX6_earliestArrival_24 : decode cX6_earliestArrival 24 = .ok (.invokestatic 47, 3) := by decide +kernel
theorem dX6_earliestArrival_27 : decode cX6_earliestArrival 27 = .ok (.istore 5, 2) := by decide +kernel
theorem dX6_earliestArrival_29 : decode cX6_earliestArrival 29 = .ok (.iload 5, 2) := by decide +kernel
theorem dX6_earliestArrival_31 : decode cX6_earliestArrival 31 = .ok (.aload_n 1, 1) := by decide +kernel
theorem dX6_earliestArrival_32 : decode cX6_earliestArrival 32 = .ok (.getfield 53, 3) := by decide +kernel
theorem dX6_earliestArrival_35 : decode cX6_earliestArrival 35 = .ok (.iload_n 2, 1) := by decide +kernel
theorem dX6_earliestArrival_36 : decode cX6_earliestArrival 36 = .ok (.iaload, 1) := by decide +kernel
theorem dX6_earliestArrival_37 : decode cX6_earliestArrival 37 = .ok (.aload_n 1, 1) := by decide +kernel
theorem dX6_earliestArrival_38 : decode cX6_earliestArrival 38 = .ok (.getfield 56, 3) := by decide +kernel
theorem dX6_earliestArrival_41 : decode cX6_earliestArrival 41 = .ok (.iload 4, 2) := by decide +kernel
theorem dX6_earliestArrival_43 : decode cX6_earliestArrival 43 = .ok (.iaload, 1) := by decide +kernel
theorem dX6_earliestArrival_44 : decode cX6_earliestArrival 44 = .ok (.isub, 1) := by decide +kernel
theorem dX6_earliestArrival_45 : decode cX6_earliestArrival 45 = .ok (.invokestatic 59, 3) := by decide +kernel
theorem dX6_earliestArrival_48 : decode cX6_earliestArrival 48 = .ok (.iadd, 1) := by decide +kernel
theorem dX6_earliestArrival_49 : decode cX6_earliestArrival 49 = .ok (.ireturn, 1) := by decide +kernel
theorem dX6_earliestArrival_50 : decode cX6_earliestArrival 50 = .ok (.sipush 1000, 3) := by decide +kernel
theorem dX6_earliestArrival_53 : decode cX6_earliestArrival 53 = .ok (.istore 5, 2) := by decide +kernel
theorem dX6_earliestArrival_55 : decode cX6_earliestArrival 55 = .ok (.iconst 0, 1) := by decide +kernel
theorem dX6_earliestArrival_56 : decode cX6_earliestArrival 56 = .ok (.istore 6, 2) := by decide +kernel
theorem dX6_earliestArrival_58 : decode cX6_earliestArrival 58 = .ok (.iload 6, 2) := by decide +kernel
theorem dX6_earliestArrival_60 : decode cX6_earliestArrival 60 = .ok (.bipush 8, 2) := by decide +kernel
theorem dX6_earliestArrival_62 : decode cX6_earliestArrival 62 = .ok (.if_icmp .ge 61, 3) := by decide +kernel
theorem dX6_earliestArrival_65 : decode cX6_earliestArrival 65 = .ok (.iload_n 3, 1) := by decide +kernel
theorem dX6_earliestArrival_66 : decode cX6_earliestArrival 66 = .ok (.iload 6, 2) := by decide +kernel
theorem dX6_earliestArrival_68 : decode cX6_earliestArrival 68 = .ok (.ishr, 1) := by decide +kernel
theorem dX6_earliestArrival_69 : decode cX6_earliestArrival 69 = .ok (.iconst 1, 1) := by decide +kernel
theorem dX6_earliestArrival_70 : decode cX6_earliestArrival 70 = .ok (.iand, 1) := by decide +kernel
theorem dX6_earliestArrival_71 : decode cX6_earliestArrival 71 = .ok (.iconst 1, 1) := by decide +kernel
theorem dX6_earliestArrival_72 : decode cX6_earliestArrival 72 = .ok (.if_icmp .ne 45, 3) := by decide +kernel
theorem dX6_earliestArrival_75 : decode cX6_earliestArrival 75 = .ok (.aload_n 1, 1) := by decide +kernel
theorem dX6_earliestArrival_76 : decode cX6_earliestArrival 76 = .ok (.getfield 56, 3) := by decide +kernel
theorem dX6_earliestArrival_79 : decode cX6_earliestArrival 79 = .ok (.iload 6, 2) := by decide +kernel
theorem dX6_earliestArrival_81 : decode cX6_earliestArrival 81 = .ok (.iaload, 1) := by decide +kernel
theorem dX6_earliestArrival_82 : decode cX6_earliestArrival 82 = .ok (.aload_n 1, 1) := by decide +kernel
theorem dX6_earliestArrival_83 : decode cX6_earliestArrival 83 = .ok (.getfield 56, 3) := by decide +kernel
theorem dX6_earliestArrival_86 : decode cX6_earliestArrival 86 = .ok (.iload 4, 2) := by decide +kernel
theorem dX6_earliestArrival_88 : decode cX6_earliestArrival 88 = .ok (.iaload, 1) := by decide +kernel
theorem dX6_earliestArrival_89 : decode cX6_earliestArrival 89 = .ok (.isub, 1) := by decide +kernel
theorem dX6_earliestArrival_90 : decode cX6_earliestArrival 90 = .ok (.invokestatic 59, 3) := by decide +kernel
theorem dX6_earliestArrival_93 : decode cX6_earliestArrival 93 = .ok (.istore 7, 2) := by decide +kernel
theorem dX6_earliestArrival_95 : decode cX6_earliestArrival 95 = .ok (.iload 5, 2) := by decide +kernel
theorem dX6_earliestArrival_97 : decode cX6_earliestArrival 97 = .ok (.aload_n 0, 1) := by decide +kernel
theorem dX6_earliestArrival_98 : decode cX6_earliestArrival 98 = .ok (.getfield 9, 3) := by decide +kernel
theorem dX6_earliestArrival_101 : decode cX6_earliestArrival 101 = .ok (.iload_n 3, 1) := by decide +kernel
theorem dX6_earliestArrival_102 : decode cX6_earliestArrival 102 = .ok (.bipush 8, 2) := by decide +kernel
theorem dX6_earliestArrival_104 : decode cX6_earliestArrival 104 = .ok (.imul, 1) := by decide +kernel
theorem dX6_earliestArrival_105 : decode cX6_earliestArrival 105 = .ok (.iload 6, 2) := by decide +kernel
theorem dX6_earliestArrival_107 : decode cX6_earliestArrival 107 = .ok (.iadd, 1) := by decide +kernel
theorem dX6_earliestArrival_108 : decode cX6_earliestArrival 108 = .ok (.iaload, 1) := by decide +kernel
theorem dX6_earliestArrival_109 : decode cX6_earliestArrival 109 = .ok (.iload 7, 2) := by decide +kernel
theorem dX6_earliestArrival_111 : decode cX6_earliestArrival 111 = .ok (.iadd, 1) := by decide +kernel
theorem dX6_earliestArrival_112 : decode cX6_earliestArrival 112 = .ok (.invokestatic 62, 3) := by decide +kernel
theorem dX6_earliestArrival_115 : decode cX6_earliestArrival 115 = .ok (.istore 5, 2) := by decide +kernel
theorem dX6_earliestArrival_117 : decode cX6_earliestArrival 117 = .ok (.iinc 6 1, 3) := by decide +kernel
theorem dX6_earliestArrival_120 : decode cX6_earliestArrival 120 = .ok (.goto (-62), 3) := by decide +kernel
theorem dX6_earliestArrival_123 : decode cX6_earliestArrival 123 = .ok (.iload 5, 2) := by decide +kernel
theorem dX6_earliestArrival_125 : decode cX6_earliestArrival 125 = .ok (.ireturn, 1) := by decide +kernel
theorem dX7_init_0 : decode cX7_init 0 = .ok (.aload_n 0, 1) := by decide +kernel
theorem dX7_init_1 : decode cX7_init 1 = .ok (.invokespecial 3, 3) := by decide +kernel
theorem dX7_init_4 : decode cX7_init 4 = .ok (.aload_n 0, 1) := by decide +kernel
theorem dX7_init_5 : decode cX7_init 5 = .ok (.bipush 8, 2) := by decide +kernel
theorem dX7_init_7 : decode cX7_init 7 = .ok (.newarray .int, 2) := by decide +kernel
theorem dX7_init_9 : decode cX7_init 9 = .ok (.putfield 9, 3) := by decide +kernel
theorem dX7_init_12 : decode cX7_init 12 = .ok (.aload_n 0, 1) := by decide +kernel
theorem dX7_init_13 : decode cX7_init 13 = .ok (.bipush 8, 2) := by decide +kernel
theorem dX7_init_15 : decode cX7_init 15 = .ok (.newarray .int, 2) := by decide +kernel
theorem dX7_init_17 : decode cX7_init 17 = .ok (.putfield 15, 3) := by decide +kernel
theorem dX7_init_20 : decode cX7_init 20 = .ok (.aload_n 0, 1) := by decide +kernel
theorem dX7_init_21 : decode cX7_init 21 = .ok (.bipush 8, 2) := by decide +kernel
theorem dX7_init_23 : decode cX7_init 23 = .ok (.newarray .int, 2) := by decide +kernel
theorem dX7_init_25 : decode cX7_init 25 = .ok (.putfield 18, 3) := by decide +kernel
theorem dX7_init_28 : decode cX7_init 28 = .ok (.aload_n 0, 1) := by decide +kernel
theorem dX7_init_29 : decode cX7_init 29 = .ok (.iconst 0, 1) := by decide +kernel
theorem dX7_init_30 : decode cX7_init 30 = .ok (.putfield 21, 3) := by decide +kernel
theorem dX7_init_33 : decode cX7_init 33 = .ok (.return_, 1) := by decide +kernel
theorem dX7_append_0 : decode cX7_append 0 = .ok (.aload_n 0, 1) := by decide +kernel
theorem dX7_append_1 : decode cX7_append 1 = .ok (.getfield 21, 3) := by decide +kernel
theorem dX7_append_4 : decode cX7_append 4 = .ok (.bipush 8, 2) := by decide +kernel
theorem dX7_append_6 : decode cX7_append 6 = .ok (.if_icmp .lt 5, 3) := by decide +kernel
theorem dX7_append_9 : decode cX7_append 9 = .ok (.iconst 0, 1) := by decide +kernel
theorem dX7_append_10 : decode cX7_append 10 = .ok (.ireturn, 1) := by decide +kernel
theorem dX7_append_11 : decode cX7_append 11 = .ok (.aload_n 0, 1) := by decide +kernel
theorem dX7_append_12 : decode cX7_append 12 = .ok (.getfield 9, 3) := by decide +kernel
theorem dX7_append_15 : decode cX7_append 15 = .ok (.aload_n 0, 1) := by decide +kernel
theorem dX7_append_16 : decode cX7_append 16 = .ok (.getfield 21, 3) := by decide +kernel
theorem dX7_append_19 : decode cX7_append 19 = .ok (.iload_n 1, 1) := by decide +kernel
theorem dX7_append_20 : decode cX7_append 20 = .ok (.iastore, 1) := by decide +kernel
theorem dX7_append_21 : decode cX7_append 21 = .ok (.aload_n 0, 1) := by decide +kernel
theorem dX7_append_22 : decode cX7_append 22 = .ok (.getfield 15, 3) := by decide +kernel
theorem dX7_append_25 : decode cX7_append 25 = .ok (.aload_n 0, 1) := by decide +kernel
theorem dX7_append_26 : decode cX7_append 26 = .ok (.getfield 21, 3) := by decide +kernel
theorem dX7_append_29 : decode cX7_append 29 = .ok (.iload_n 2, 1) := by decide +kernel
theorem dX7_append_30 : decode cX7_append 30 = .ok (.iastore, 1) := by decide +kernel
theorem dX7_append_31 : decode cX7_append 31 = .ok (.aload_n 0, 1) := by decide +kernel
theorem dX7_append_32 : decode cX7_append 32 = .ok (.getfield 18, 3) := by decide +kernel
theorem dX7_append_35 : decode cX7_append 35 = .ok (.aload_n 0, 1) := by decide +kernel
theorem dX7_append_36 : decode cX7_append 36 = .ok (.getfield 21, 3) := by decide +kernel
theorem dX7_append_39 : decode cX7_append 39 = .ok (.iload_n 3, 1) := by decide +kernel
theorem dX7_append_40 : decode cX7_append 40 = .ok (.iastore, 1) := by decide +kernel
theorem dX7_append_41 : decode cX7_append 41 = .ok (.aload_n 0, 1) := by decide +kernel
theorem dX7_append_42 : decode cX7_append 42 = .ok (.dup, 1) := by decide +kernel
theorem dX7_append_43 : decode cX7_append 43 = .ok (.getfield 21, 3) := by decide +kernel
theorem dX7_append_46 : decode cX7_append 46 = .ok (.iconst 1, 1) := by decide +kernel
theorem dX7_append_47 : decode cX7_append 47 = .ok (.iadd, 1) := by decide +kernel
theorem dX7_append_48 : decode cX7_append 48 = .ok (.putfield 21, 3) := by decide +kernel
theorem dX7_append_51 : decode cX7_append 51 = .ok (.iconst 1, 1) := by decide +kernel
theorem dX7_append_52 : decode cX7_append 52 = .ok (.ireturn, 1) := by decide +kernel
theorem dX7_copyFrom_0 : decode cX7_copyFrom 0 = .ok (.aload_n 1, 1) := by decide +kernel
theorem dX7_copyFrom_1 : decode cX7_copyFrom 1 = .ok (.getfield 9, 3) := by decide +kernel
theorem dX7_copyFrom_4 : decode cX7_copyFrom 4 = .ok (.iconst 0, 1) := by decide +kernel
theorem dX7_copyFrom_5 : decode cX7_copyFrom 5 = .ok (.aload_n 0, 1) := by decide +kernel
theorem dX7_copyFrom_6 : decode cX7_copyFrom 6 = .ok (.getfield 9, 3) := by decide +kernel
theorem dX7_copyFrom_9 : decode cX7_copyFrom 9 = .ok (.iconst 0, 1) := by decide +kernel
theorem dX7_copyFrom_10 : decode cX7_copyFrom 10 = .ok (.bipush 8, 2) := by decide +kernel
theorem dX7_copyFrom_12 : decode cX7_copyFrom 12 = .ok (.invokestatic 25, 3) := by decide +kernel
theorem dX7_copyFrom_15 : decode cX7_copyFrom 15 = .ok (.aload_n 1, 1) := by decide +kernel
theorem dX7_copyFrom_16 : decode cX7_copyFrom 16 = .ok (.getfield 15, 3) := by decide +kernel
theorem dX7_copyFrom_19 : decode cX7_copyFrom 19 = .ok (.iconst 0, 1) := by decide +kernel
theorem dX7_copyFrom_20 : decode cX7_copyFrom 20 = .ok (.aload_n 0, 1) := by decide +kernel
theorem dX7_copyFrom_21 : decode cX7_copyFrom 21 = .ok (.getfield 15, 3) := by decide +kernel
theorem dX7_copyFrom_24 : decode cX7_copyFrom 24 = .ok (.iconst 0, 1) := by decide +kernel
theorem dX7_copyFrom_25 : decode cX7_copyFrom 25 = .ok (.bipush 8, 2) := by decide +kernel
theorem dX7_copyFrom_27 : decode cX7_copyFrom 27 = .ok (.invokestatic 25, 3) := by decide +kernel
theorem dX7_copyFrom_30 : decode cX7_copyFrom 30 = .ok (.aload_n 1, 1) := by decide +kernel
theorem dX7_copyFrom_31 : decode cX7_copyFrom 31 = .ok (.getfield 18, 3) := by decide +kernel
theorem dX7_copyFrom_34 : decode cX7_copyFrom 34 = .ok (.iconst 0, 1) := by decide +kernel
theorem dX7_copyFrom_35 : decode cX7_copyFrom 35 = .ok (.aload_n 0, 1) := by decide +kernel
theorem dX7_copyFrom_36 : decode cX7_copyFrom 36 = .ok (.getfield 18, 3) := by decide +kernel
theorem dX7_copyFrom_39 : decode cX7_copyFrom 39 = .ok (.iconst 0, 1) := by decide +kernel
theorem dX7_copyFrom_40 : decode cX7_copyFrom 40 = .ok (.bipush 8, 2) := by decide +kernel
theorem dX7_copyFrom_42 : decode cX7_copyFrom 42 = .ok (.invokestatic 25, 3) := by decide +kernel
theorem dX7_copyFrom_45 : decode cX7_copyFrom 45 = .ok (.aload_n 0, 1) := by decide +kernel
theorem dX7_copyFrom_46 : decode cX7_copyFrom 46 = .ok (.aload_n 1, 1) := by decide +kernel
theorem dX7_copyFrom_47 : decode cX7_copyFrom 47 = .ok (.getfield 21, 3) := by decide +kernel
theorem dX7_copyFrom_50 : decode cX7_copyFrom 50 = .ok (.putfield 21, 3) := by decide +kernel
theorem dX7_copyFrom_53 : decode cX7_copyFrom 53 = .ok (.return_, 1) := by decide +kernel
set_option maxRecDepth 20000 in
theorem ggX7_allow_X2_thinkersOf : GoodIn wsX7_allow wsX2_thinkersOf := goodIn_r _ [8, 9, 10, 7, 11] (by decide +kernel) (by decide +kernel)
set_option maxRecDepth 20000 in
theorem gX7_allow_X2_thinkersOf : GoodIn wsX7_allow (va_wsS RX7 31 yX2_thinkersOf wsX2_thinkersOf) := goodIn_app (goodIn_of _ (by decide +kernel)) ggX7_allow_X2_thinkersOf
set_option maxRecDepth 20000 in
theorem ggX7_allow_J6_bitCount_0f7a4 : GoodIn wsX7_allow wsJ6_bitCount_0f7a4 := goodIn_r _ [15, 16, 17, 18] (by decide +kernel) (by decide +kernel)
set_option maxRecDepth 20000 in
theorem gX7_allow_J6_bitCount_0f7a4 : GoodIn wsX7_allow (va_wsS RX7 37 yJ6_bitCount_0f7a4 wsJ6_bitCount_0f7a4) := goodIn_app (goodIn_of _ (by decide +kernel)) ggX7_allow_J6_bitCount_0f7a4
theorem dX7_allow_0 : decode cX7_allow 0 = .ok (.iconst 0, 1) := by decide +kernel
theorem dX7_allow_1 : decode cX7_allow 1 = .ok (.istore_n 2, 1) := by decide +kernel
theorem dX7_allow_2 : decode cX7_allow 2 = .ok (.iload_n 2, 1) := by decide +kernel
theorem dX7_allow_3 : decode cX7_allow 3 = .ok (.aload_n 0, 1) := by decide +kernel
theorem dX7_allow_4 : decode cX7_allow 4 = .ok (.getfield 21, 3) := by decide +kernel
theorem dX7_allow_7 : decode cX7_allow 7 = .ok (.if_icmp .ge 46, 3) := by decide +kernel
theorem dX7_allow_10 : decode cX7_allow 10 = .ok (.iload_n 2, 1) := by decide +kernel
theorem dX7_allow_11 : decode cX7_allow 11 = .ok (.bipush 8, 2) := by decide +kernel
theorem dX7_allow_13 : decode cX7_allow 13 = .ok (.if_icmp .ge 40, 3) := by decide +kernel
theorem dX7_allow_16 : decode cX7_allow 16 = .ok (.aload_n 0, 1) := by decide +kernel
theorem dX7_allow_17 : decode cX7_allow 17 = .ok (.getfield 9, 3) := by decide +kernel
theorem dX7_allow_20 : decode cX7_allow 20 = .ok (.iload_n 2, 1) := by decide +kernel
theorem dX7_allow_21 : decode cX7_allow 21 = .ok (.iaload, 1) := by decide +kernel
theorem dX7_allow_22 : decode cX7_allow 22 = .ok (.iload_n 1, 1) := by decide +kernel
theorem dX7_allow_23 : decode cX7_allow 23 = .ok (.aload_n 0, 1) := by decide +kernel
theorem dX7_allow_24 : decode cX7_allow 24 = .ok (.getfield 15, 3) := by decide +kernel
theorem dX7_allow_27 : decode cX7_allow 27 = .ok (.iload_n 2, 1) := by decide +kernel
theorem dX7_allow_28 : decode cX7_allow 28 = .ok (.iaload, 1) := by decide +kernel
theorem dX7_allow_29 : decode cX7_allow 29 = .ok (.invokestatic 31, 3) := by decide +kernel
theorem dX7_allow_32 : decode cX7_allow 32 = .ok (.iand, 1) := by decide +kernel
theorem dX7_allow_33 : decode cX7_allow 33 = .ok (.invokestatic 37, 3) := by decide +kernel
theorem dX7_allow_36 : decode cX7_allow 36 = .ok (.aload_n 0, 1) := by decide +kernel
theorem dX7_allow_37 : decode cX7_allow 37 = .ok (.getfield 18, 3) := by decide +kernel
theorem dX7_allow_40 : decode cX7_allow 40 = .ok (.iload_n 2, 1) := by decide +kernel
theorem dX7_allow_41 : decode cX7_allow 41 = .ok (.iaload, 1) := by decide +kernel
theorem dX7_allow_42 : decode cX7_allow 42 = .ok (.if_icmp .eq 5, 3) := by decide +kernel
theorem dX7_allow_45 : decode cX7_allow 45 = .ok (.iconst 0, 1) := by decide +kernel
theorem dX7_allow_46 : decode cX7_allow 46 = .ok (.ireturn, 1) := by decide +kernel
theorem dX7_allow_47 : decode cX7_allow 47 = .ok (.iinc 2 1, 3) := by decide +kernel
theorem dX7_allow_50 : decode cX7_allow 50 = .ok (.goto (-48), 3) := by decide +kernel
theorem dX7_allow_53 : decode cX7_allow 53 = .ok (.iconst 1, 1) := by decide +kernel
theorem dX7_allow_54 : decode cX7_allow 54 = .ok (.ireturn, 1) := by decide +kernel
set_option maxRecDepth 20000 in
theorem ggX8_init_X5_init : GoodIn wsX8_init wsX5_init := goodIn_r _ [34, 35, 2, 3, 36, 37, 38, 39, 40, 41, 42, 43, 44, 45, 46, 47, 48, 105, 106, 107, 108, 109, 110, 111, 112, 113, 114, 115] (by decide +kernel) (by decide +kernel)
set_option maxRecDepth 20000 in
theorem gX8_init_X5_init : GoodIn wsX8_init (wsX5_init) := ggX8_init_X5_init
set_option maxRecDepth 20000 in
theorem ggX8_init_X4_init : GoodIn wsX8_init wsX4_init := goodIn_r _ [50, 51, 2, 3, 36, 52, 53, 123, 124] (by decide +kernel) (by decide +kernel)
set_option maxRecDepth 20000 in
theorem gX8_init_X4_init_n18 : GoodIn wsX8_init (wsX4_init) := ggX8_init_X4_init
set_option maxRecDepth 20000 in
theorem ggX8_init_X3_init : GoodIn wsX8_init wsX3_init := goodIn_r _ [55, 56, 2, 3, 57, 5, 6, 58, 59, 60, 61, 62, 63, 64, 65, 66, 67, 68, 69, 33, 34, 35, 36, 37, 38, 39, 40, 41, 42, 43, 44, 45, 46, 47, 48, 70, 71, 72, 73, 74, 75, 105, 106, 107, 108, 109, 110, 111, 112, 113, 114, 115, 125, 126, 127, 128, 129, 130, 131, 132, 147, 148, 149] (by decide +kernel) (by decide +kernel)
set_option maxRecDepth 20000 in
theorem gX8_init_X3_init_n25 : GoodIn wsX8_init (wsX3_init) := ggX8_init_X3_init
set_option maxRecDepth 20000 in
theorem ggX8_init_X6_init : GoodIn wsX8_init wsX6_init := goodIn_r _ [77, 78, 2, 3, 36, 79, 133] (by decide +kernel) (by decide +kernel)
set_option maxRecDepth 20000 in
theorem gX8_init_X6_init_n32 : GoodIn wsX8_init (wsX6_init) := ggX8_init_X6_init
set_option maxRecDepth 20000 in
theorem ggX8_init_X7_init : GoodIn wsX8_init wsX7_init := goodIn_r _ [81, 82, 2, 3, 36, 83, 84, 85, 86, 134, 135, 136, 137] (by decide +kernel) (by decide +kernel)
set_option maxRecDepth 20000 in
theorem gX8_init_X7_init_n39 : GoodIn wsX8_init (wsX7_init) := ggX8_init_X7_init
set_option maxRecDepth 20000 in
theorem ggX8_init_X2_init : GoodIn wsX8_init wsX2_init := goodIn_r _ [88, 89, 2, 3, 36, 90, 91, 92, 93, 94, 95, 138, 139, 140, 141, 142, 143] (by decide +kernel) (by decide +kernel)
set_option maxRecDepth 20000 in
theorem gX8_init_X2_init_n46 : GoodIn wsX8_init (wsX2_init) := ggX8_init_X2_init
set_option maxRecDepth 20000 in
theorem ggX8_init_X1_init : GoodIn wsX8_init wsX1_init := goodIn_r _ [97, 98, 2, 3, 99, 5, 6, 100, 101, 21, 22, 102, 103, 104, 33, 34, 35, 36, 37, 38, 39, 40, 41, 42, 43, 44, 45, 46, 47, 48, 80, 81, 82, 83, 84, 85, 86, 105, 106, 107, 108, 109, 110, 111, 112, 113, 114, 115, 144, 145, 146, 134, 135, 136, 137] (by decide +kernel) (by decide +kernel)
set_option maxRecDepth 20000 in
theorem gX8_init_X1_init_n57 : GoodIn wsX8_init (wsX1_init) := ggX8_init_X1_init
theorem dX8_init_0 : decode cX8_init 0 = .ok (.aload_n 0, 1) := by decide +kernel
theorem dX8_init_1 : decode cX8_init 1 = .ok (.invokespecial 1, 3) := by decide +kernel
theorem dX8_init_4 : decode cX8_init 4 = .ok (.aload_n 0, 1) := by decide +kernel
theorem dX8_init_5 : decode cX8_init 5 = .ok (.new 7, 3) := by decide +kernel
theorem dX8_init_8 : decode cX8_init 8 = .ok (.dup, 1) := by decide +kernel
theorem dX8_init_9 : decode cX8_init 9 = .ok (.invokespecial 9, 3) := by decide +kernel
theorem dX8_init_12 : decode cX8_init 12 = .ok (.putfield 10, 3) := by decide +kernel
theorem dX8_init_15 : decode cX8_init 15 = .ok (.aload_n 0, 1) := by decide +kernel
theorem dX8_init_16 : decode cX8_init 16 = .ok (.new 16, 3) := by decide +kernel
theorem dX8_init_19 : decode cX8_init 19 = .ok (.dup, 1) := by decide +kernel
theorem dX8_init_20 : decode cX8_init 20 = .ok (.invokespecial 18, 3) := by decide +kernel
theorem dX8_init_23 : decode cX8_init 23 = .ok (.putfield 19, 3) := by decide +kernel
theorem dX8_init_26 : decode cX8_init 26 = .ok (.aload_n 0, 1) := by decide +kernel
theorem dX8_init_27 : decode cX8_init 27 = .ok (.new 23, 3) := by decide +kernel
theorem dX8_init_30 : decode cX8_init 30 = .ok (.dup, 1) := by decide +kernel
theorem dX8_init_31 : decode cX8_init 31 = .ok (.invokespecial 25, 3) := by decide +kernel
theorem dX8_init_34 : decode cX8_init 34 = .ok (.putfield 26, 3) := by decide +kernel
theorem dX8_init_37 : decode cX8_init 37 = .ok (.aload_n 0, 1) := by decide +kernel
theorem dX8_init_38 : decode cX8_init 38 = .ok (.new 30, 3) := by decide +kernel
theorem dX8_init_41 : decode cX8_init 41 = .ok (.dup, 1) := by decide +kernel
theorem dX8_init_42 : decode cX8_init 42 = .ok (.invokespecial 32, 3) := by decide +kernel
theorem dX8_init_45 : decode cX8_init 45 = .ok (.putfield 33, 3) := by decide +kernel
theorem dX8_init_48 : decode cX8_init 48 = .ok (.aload_n 0, 1) := by decide +kernel
theorem dX8_init_49 : decode cX8_init 49 = .ok (.new 37, 3) := by decide +kernel
theorem dX8_init_52 : decode cX8_init 52 = .ok (.dup, 1) := by decide +kernel
theorem dX8_init_53 : decode cX8_init 53 = .ok (.invokespecial 39, 3) := by decide +kernel
theorem dX8_init_56 : decode cX8_init 56 = .ok (.putfield 40, 3) := by decide +kernel
theorem dX8_init_59 : decode cX8_init 59 = .ok (.aload_n 0, 1) := by decide +kernel
theorem dX8_init_60 : decode cX8_init 60 = .ok (.new 44, 3) := by decide +kernel
theorem dX8_init_63 : decode cX8_init 63 = .ok (.dup, 1) := by decide +kernel
theorem dX8_init_64 : decode cX8_init 64 = .ok (.invokespecial 46, 3) := by decide +kernel
theorem dX8_init_67 : decode cX8_init 67 = .ok (.putfield 47, 3) := by decide +kernel
theorem dX8_init_70 : decode cX8_init 70 = .ok (.aload_n 0, 1) := by decide +kernel
theorem dX8_init_71 : decode cX8_init 71 = .ok (.iconst 2, 1) := by decide +kernel
theorem dX8_init_72 : decode cX8_init 72 = .ok (.anewarray 51, 3) := by decide +kernel
theorem dX8_init_75 : decode cX8_init 75 = .ok (.putfield 53, 3) := by decide +kernel
theorem dX8_init_78 : decode cX8_init 78 = .ok (.iconst 0, 1) := by decide +kernel
theorem dX8_init_79 : decode cX8_init 79 = .ok (.istore_n 1, 1) := by decide +kernel
theorem dX8_init_80 : decode cX8_init 80 = .ok (.iload_n 1, 1) := by decide +kernel
theorem dX8_init_81 : decode cX8_init 81 = .ok (.iconst 2, 1) := by decide +kernel
theorem dX8_init_82 : decode cX8_init 82 = .ok (.if_icmp .ge 22, 3) := by decide +kernel
theorem dX8_init_85 : decode cX8_init 85 = .ok (.aload_n 0, 1) := by decide +kernel
theorem dX8_init_86 : decode cX8_init 86 = .ok (.getfield 53, 3) := by decide +kernel
theorem dX8_init_89 : decode cX8_init 89 = .ok (.iload_n 1, 1) := by decide +kernel
theorem dX8_init_90 : decode cX8_init 90 = .ok (.new 51, 3) := by decide +kernel
theorem dX8_init_93 : decode cX8_init 93 = .ok (.dup, 1) := by decide +kernel
theorem dX8_init_94 : decode cX8_init 94 = .ok (.invokespecial 57, 3) := by decide +kernel
theorem dX8_init_97 : decode cX8_init 97 = .ok (.aastore, 1) := by decide +kernel
theorem dX8_init_98 : decode cX8_init 98 = .ok (.iinc 1 1, 3) := by decide +kernel
theorem dX8_init_101 : decode cX8_init 101 = .ok (.goto (-21), 3) := by decide +kernel
theorem dX8_init_104 : decode cX8_init 104 = .ok (.return_, 1) := by decide +kernel
set_option maxRecDepth 20000 in
theorem ggX8_person_X8_isPerson : GoodIn wsX8_person wsX8_isPerson := goodIn_r _ [7, 8, 9, 6, 10] (by decide +kernel) (by decide +kernel)
set_option maxRecDepth 20000 in
theorem gX8_person_X8_isPerson : GoodIn wsX8_person (va_wsS RX8 58 yX8_isPerson wsX8_isPerson) := goodIn_app (goodIn_of _ (by decide +kernel)) ggX8_person_X8_isPerson
set_option maxRecDepth 20000 in
theorem ggX8_person_X8_within : GoodIn wsX8_person wsX8_within := goodIn_r _ [10] (by decide +kernel) (by decide +kernel)
set_option maxRecDepth 20000 in
theorem gX8_person_X8_within : GoodIn wsX8_person (va_wsS RX8 62 yX8_within wsX8_within) := goodIn_app (goodIn_of _ (by decide +kernel)) ggX8_person_X8_within
theorem dX8_person_0 : decode cX8_person 0 = .ok (.iload_n 1, 1) := by decide +kernel
theorem dX8_person_1 : decode cX8_person 1 = .ok (.invokestatic 58, 3) := by decide +kernel
theorem dX8_person_4 : decode cX8_person 4 = .ok (.ifCond .ne 5, 3) := by decide +kernel
theorem dX8_person_7 : decode cX8_person 7 = .ok (.iconst (-1), 1) := by decide +kernel
theorem dX8_person_8 : decode cX8_person 8 = .ok (.ireturn, 1) := by decide +kernel
theorem dX8_person_9 : decode cX8_person 9 = .ok (.iload_n 2, 1) := by decide +kernel
theorem dX8_person_10 : decode cX8_person 10 = .ok (.iconst 0, 1) := by decide +kernel
theorem dX8_person_11 : decode cX8_person 11 = .ok (.bipush 99, 2) := by decide +kernel
theorem dX8_person_13 : decode cX8_person 13 = .ok (.invokestatic 62, 3) := by decide +kernel
theorem dX8_person_16 : decode cX8_person 16 = .ok (.ifCond .eq 13, 3) := by decide +kernel
theorem dX8_person_19 : decode cX8_person 19 = .ok (.iload_n 3, 1) := by decide +kernel
theorem dX8_person_20 : decode cX8_person 20 = .ok (.iconst 0, 1) := by decide +kernel
theorem dX8_person_21 : decode cX8_person 21 = .ok (.bipush 99, 2) := by decide +kernel
theorem dX8_person_23 : decode cX8_person 23 = .ok (.invokestatic 62, 3) := by decide +kernel
theorem dX8_person_26 : decode cX8_person 26 = .ok (.ifCond .ne 6, 3) := by decide +kernel
theorem dX8_person_29 : decode cX8_person 29 = .ok (.bipush (-2), 2) := by decide +kernel
theorem dX8_person_31 : decode cX8_person 31 = .ok (.ireturn, 1) := by decide +kernel
theorem dX8_person_32 : decode cX8_person 32 = .ok (.bipush 100, 2) := by decide +kernel
theorem dX8_person_34 : decode cX8_person 34 = .ok (.aload_n 0, 1) := by decide +kernel
theorem dX8_person_35 : decode cX8_person 35 = .ok (.getfield 10, 3) := by decide +kernel
theorem dX8_person_38 : decode cX8_person 38 = .ok (.getfield 66, 3) := by decide +kernel
theorem dX8_person_41 : decode cX8_person 41 = .ok (.iload_n 1, 1) := by decide +kernel
theorem dX8_person_42 : decode cX8_person 42 = .ok (.iaload, 1) := by decide +kernel
theorem dX8_person_43 : decode cX8_person 43 = .ok (.imul, 1) := by decide +kernel
theorem dX8_person_44 : decode cX8_person 44 = .ok (.aload_n 0, 1) := by decide +kernel
theorem dX8_person_45 : decode cX8_person 45 = .ok (.getfield 10, 3) := by decide +kernel
theorem dX8_person_48 : decode cX8_person 48 = .ok (.getfield 70, 3) := by decide +kernel
theorem dX8_person_51 : decode cX8_person 51 = .ok (.iload_n 1, 1) := by decide +kernel
theorem dX8_person_52 : decode cX8_person 52 = .ok (.iaload, 1) := by decide +kernel
theorem dX8_person_53 : decode cX8_person 53 = .ok (.iadd, 1) := by decide +kernel
theorem dX8_person_54 : decode cX8_person 54 = .ok (.istore 4, 2) := by decide +kernel
theorem dX8_person_56 : decode cX8_person 56 = .ok (.aload_n 0, 1) := by decide +kernel
theorem dX8_person_57 : decode cX8_person 57 = .ok (.getfield 10, 3) := by decide +kernel
theorem dX8_person_60 : decode cX8_person 60 = .ok (.getfield 66, 3) := by decide +kernel
theorem dX8_person_63 : decode cX8_person 63 = .ok (.iload_n 1, 1) := by decide +kernel
theorem dX8_person_64 : decode cX8_person 64 = .ok (.iload_n 2, 1) := by decide +kernel
theorem dX8_person_65 : decode cX8_person 65 = .ok (.iastore, 1) := by decide +kernel
theorem dX8_person_66 : decode cX8_person 66 = .ok (.aload_n 0, 1) := by decide +kernel
theorem dX8_person_67 : decode cX8_person 67 = .ok (.getfield 10, 3) := by decide +kernel
theorem dX8_person_70 : decode cX8_person 70 = .ok (.getfield 70, 3) := by decide +kernel
theorem dX8_person_73 : decode cX8_person 73 = .ok (.iload_n 1, 1) := by decide +kernel
theorem dX8_person_74 : decode cX8_person 74 = .ok (.iload_n 3, 1) := by decide +kernel
theorem dX8_person_75 : decode cX8_person 75 = .ok (.iastore, 1) := by decide +kernel
theorem dX8_person_76 : decode cX8_person 76 = .ok (.iload 4, 2) := by decide +kernel
theorem dX8_person_78 : decode cX8_person 78 = .ok (.ireturn, 1) := by decide +kernel
set_option maxRecDepth 20000 in
theorem ggX8_stone_X8_isPerson : GoodIn wsX8_stone wsX8_isPerson := goodIn_r _ [6, 7, 8, 5, 9] (by decide +kernel) (by decide +kernel)
set_option maxRecDepth 20000 in
theorem gX8_stone_X8_isPerson : GoodIn wsX8_stone (va_wsS RX8 58 yX8_isPerson wsX8_isPerson) := goodIn_app (goodIn_of _ (by decide +kernel)) ggX8_stone_X8_isPerson
set_option maxRecDepth 20000 in
theorem ggX8_stone_X8_isCell : GoodIn wsX8_stone wsX8_isCell := goodIn_r _ [12, 7, 8, 5, 9] (by decide +kernel) (by decide +kernel)
set_option maxRecDepth 20000 in
theorem gX8_stone_X8_isCell : GoodIn wsX8_stone (va_wsS RX8 73 yX8_isCell wsX8_isCell) := goodIn_app (goodIn_of _ (by decide +kernel)) ggX8_stone_X8_isCell
set_option maxRecDepth 20000 in
theorem ggX8_stone_X8_within : GoodIn wsX8_stone wsX8_within := goodIn_r _ [9] (by decide +kernel) (by decide +kernel)
set_option maxRecDepth 20000 in
theorem gX8_stone_X8_within : GoodIn wsX8_stone (va_wsS RX8 62 yX8_within wsX8_within) := goodIn_app (goodIn_of _ (by decide +kernel)) ggX8_stone_X8_within
set_option maxRecDepth 20000 in
theorem ggX8_stone_X5_put : GoodIn wsX8_stone wsX5_put := goodIn_r _ [17, 18, 19, 20, 28, 29, 30, 31, 32, 33, 34, 35, 36, 37, 38] (by decide +kernel) (by decide +kernel)
set_option maxRecDepth 20000 in
theorem gX8_stone_X5_put : GoodIn wsX8_stone (wsV RX8 79 RX5 yX5_put wsX5_put) := goodIn_app (goodIn_of _ (by decide +kernel)) ggX8_stone_X5_put
theorem dX8_stone_0 : decode cX8_stone 0 = .ok (.iload_n 1, 1) := by decide +kernel
theorem dX8_stone_1 : decode cX8_stone 1 = .ok (.invokestatic 58, 3) := by decide +kernel
theorem dX8_stone_4 : decode cX8_stone 4 = .ok (.ifCond .ne 5, 3) := by decide +kernel
theorem dX8_stone_7 : decode cX8_stone 7 = .ok (.iconst (-1), 1) := by decide +kernel
theorem dX8_stone_8 : decode cX8_stone 8 = .ok (.ireturn, 1) := by decide +kernel
theorem dX8_stone_9 : decode cX8_stone 9 = .ok (.iload_n 2, 1) := by decide +kernel
theorem dX8_stone_10 : decode cX8_stone 10 = .ok (.iconst (-1), 1) := by decide +kernel
theorem dX8_stone_11 : decode cX8_stone 11 = .ok (.if_icmp .ne 16, 3) := by decide +kernel
theorem dX8_stone_14 : decode cX8_stone 14 = .ok (.iload_n 3, 1) := by decide +kernel
theorem dX8_stone_15 : decode cX8_stone 15 = .ok (.ifCond .ne 12, 3) := by decide +kernel
theorem dX8_stone_18 : decode cX8_stone 18 = .ok (.iload 4, 2) := by decide +kernel
theorem dX8_stone_20 : decode cX8_stone 20 = .ok (.ifCond .ne 7, 3) := by decide +kernel
theorem dX8_stone_23 : decode cX8_stone 23 = .ok (.iconst 1, 1) := by decide +kernel
theorem dX8_stone_24 : decode cX8_stone 24 = .ok (.goto 4, 3) := by decide +kernel
theorem dX8_stone_27 : decode cX8_stone 27 = .ok (.iconst 0, 1) := by decide +kernel
theorem dX8_stone_28 : decode cX8_stone 28 = .ok (.istore 5, 2) := by decide +kernel
theorem dX8_stone_30 : decode cX8_stone 30 = .ok (.iload_n 2, 1) := by decide +kernel
theorem dX8_stone_31 : decode cX8_stone 31 = .ok (.invokestatic 73, 3) := by decide +kernel
theorem dX8_stone_34 : decode cX8_stone 34 = .ok (.ifCond .eq 28, 3) := by decide +kernel
theorem dX8_stone_37 : decode cX8_stone 37 = .ok (.iload_n 3, 1) := by decide +kernel
theorem dX8_stone_38 : decode cX8_stone 38 = .ok (.iconst 1, 1) := by decide +kernel
theorem dX8_stone_39 : decode cX8_stone 39 = .ok (.bipush 99, 2) := by decide +kernel
theorem dX8_stone_41 : decode cX8_stone 41 = .ok (.invokestatic 62, 3) := by decide +kernel
theorem dX8_stone_44 : decode cX8_stone 44 = .ok (.ifCond .eq 18, 3) := by decide +kernel
theorem dX8_stone_47 : decode cX8_stone 47 = .ok (.iload 4, 2) := by decide +kernel
theorem dX8_stone_49 : decode cX8_stone 49 = .ok (.iconst 1, 1) := by decide +kernel
theorem dX8_stone_50 : decode cX8_stone 50 = .ok (.bipush 99, 2) := by decide +kernel
theorem dX8_stone_52 : decode cX8_stone 52 = .ok (.invokestatic 62, 3) := by decide +kernel
theorem dX8_stone_55 : decode cX8_stone 55 = .ok (.ifCond .eq 7, 3) := by decide +kernel
theorem dX8_stone_58 : decode cX8_stone 58 = .ok (.iconst 1, 1) := by decide +kernel
theorem dX8_stone_59 : decode cX8_stone 59 = .ok (.goto 4, 3) := by decide +kernel
theorem dX8_stone_62 : decode cX8_stone 62 = .ok (.iconst 0, 1) := by decide +kernel
theorem dX8_stone_63 : decode cX8_stone 63 = .ok (.istore 6, 2) := by decide +kernel
theorem dX8_stone_65 : decode cX8_stone 65 = .ok (.iload 5, 2) := by decide +kernel
theorem dX8_stone_67 : decode cX8_stone 67 = .ok (.ifCond .ne 11, 3) := by decide +kernel
theorem dX8_stone_70 : decode cX8_stone 70 = .ok (.iload 6, 2) := by decide +kernel
theorem dX8_stone_72 : decode cX8_stone 72 = .ok (.ifCond .ne 6, 3) := by decide +kernel
theorem dX8_stone_75 : decode cX8_stone 75 = .ok (.bipush (-2), 2) := by decide +kernel
theorem dX8_stone_77 : decode cX8_stone 77 = .ok (.ireturn, 1) := by decide +kernel
theorem dX8_stone_78 : decode cX8_stone 78 = .ok (.aload_n 0, 1) := by decide +kernel
theorem dX8_stone_79 : decode cX8_stone 79 = .ok (.getfield 10, 3) := by decide +kernel
theorem dX8_stone_82 : decode cX8_stone 82 = .ok (.getfield 76, 3) := by decide +kernel
theorem dX8_stone_85 : decode cX8_stone 85 = .ok (.iload_n 1, 1) := by decide +kernel
theorem dX8_stone_86 : decode cX8_stone 86 = .ok (.iaload, 1) := by decide +kernel
theorem dX8_stone_87 : decode cX8_stone 87 = .ok (.istore 7, 2) := by decide +kernel
theorem dX8_stone_89 : decode cX8_stone 89 = .ok (.aload_n 0, 1) := by decide +kernel
theorem dX8_stone_90 : decode cX8_stone 90 = .ok (.getfield 10, 3) := by decide +kernel
theorem dX8_stone_93 : decode cX8_stone 93 = .ok (.iload_n 1, 1) := by decide +kernel
theorem dX8_stone_94 : decode cX8_stone 94 = .ok (.iload 5, 2) := by decide +kernel
theorem dX8_stone_96 : decode cX8_stone 96 = .ok (.ifCond .eq 8, 3) := by decide +kernel
theorem dX8_stone_99 : decode cX8_stone 99 = .ok (.bipush (-6), 2) := by decide +kernel
theorem dX8_stone_101 : decode cX8_stone 101 = .ok (.goto 4, 3) := by decide +kernel
theorem dX8_stone_104 : decode cX8_stone 104 = .ok (.iload_n 2, 1) := by decide +kernel
theorem dX8_stone_105 : decode cX8_stone 105 = .ok (.iload_n 3, 1) := by decide +kernel
theorem dX8_stone_106 : decode cX8_stone 106 = .ok (.iload 4, 2) := by decide +kernel
theorem dX8_stone_108 : decode cX8_stone 108 = .ok (.invokevirtual 79, 3) := by decide +kernel
theorem dX8_stone_111 : decode cX8_stone 111 = .ok (.iload 7, 2) := by decide +kernel
theorem dX8_stone_113 : decode cX8_stone 113 = .ok (.ireturn, 1) := by decide +kernel
set_option maxRecDepth 20000 in
theorem ggX8_reader_X8_isReader : GoodIn wsX8_reader wsX8_isReader := goodIn_r _ [8, 9, 10, 7, 11] (by decide +kernel) (by decide +kernel)
set_option maxRecDepth 20000 in
theorem gX8_reader_X8_isReader : GoodIn wsX8_reader (va_wsS RX8 83 yX8_isReader wsX8_isReader) := goodIn_app (goodIn_of _ (by decide +kernel)) ggX8_reader_X8_isReader
set_option maxRecDepth 20000 in
theorem ggX8_reader_X8_isCell : GoodIn wsX8_reader wsX8_isCell := goodIn_r _ [14, 9, 10, 7, 11] (by decide +kernel) (by decide +kernel)
set_option maxRecDepth 20000 in
theorem gX8_reader_X8_isCell : GoodIn wsX8_reader (va_wsS RX8 73 yX8_isCell wsX8_isCell) := goodIn_app (goodIn_of _ (by decide +kernel)) ggX8_reader_X8_isCell
set_option maxRecDepth 20000 in
theorem ggX8_reader_X8_within : GoodIn wsX8_reader wsX8_within := goodIn_r _ [11] (by decide +kernel) (by decide +kernel)
set_option maxRecDepth 20000 in
theorem gX8_reader_X8_within : GoodIn wsX8_reader (va_wsS RX8 62 yX8_within wsX8_within) := goodIn_app (goodIn_of _ (by decide +kernel)) ggX8_reader_X8_within
theorem dX8_reader_0 : decode cX8_reader 0 = .ok (.iload_n 1, 1) := by decide +kernel
theorem dX8_reader_1 : decode cX8_reader 1 = .ok (.invokestatic 83, 3) := by decide +kernel
theorem dX8_reader_4 : decode cX8_reader 4 = .ok (.ifCond .ne 5, 3) := by decide +kernel
theorem dX8_reader_7 : decode cX8_reader 7 = .ok (.iconst (-1), 1) := by decide +kernel
theorem dX8_reader_8 : decode cX8_reader 8 = .ok (.ireturn, 1) := by decide +kernel
theorem dX8_reader_9 : decode cX8_reader 9 = .ok (.iload_n 2, 1) := by decide +kernel
theorem dX8_reader_10 : decode cX8_reader 10 = .ok (.invokestatic 73, 3) := by decide +kernel
theorem dX8_reader_13 : decode cX8_reader 13 = .ok (.ifCond .eq 13, 3) := by decide +kernel
theorem dX8_reader_16 : decode cX8_reader 16 = .ok (.iload_n 3, 1) := by decide +kernel
theorem dX8_reader_17 : decode cX8_reader 17 = .ok (.iconst 0, 1) := by decide +kernel
theorem dX8_reader_18 : decode cX8_reader 18 = .ok (.bipush 9, 2) := by decide +kernel
theorem dX8_reader_20 : decode cX8_reader 20 = .ok (.invokestatic 62, 3) := by decide +kernel
