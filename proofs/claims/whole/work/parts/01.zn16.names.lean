set_option maxRecDepth 20000 in
theorem gX9_ask_X9_less : GoodIn wsX9_ask (va_wsS RX9 159 yX9_less wsX9_less) := goodIn_app (goodIn_of _ (by decide +kernel)) ggX9_ask_X9_less
theorem dX9_ask_0 : decode cX9_ask 0 = .ok (.iload_n 1, 1) := by decide +kernel
theorem dX9_ask_1 : decode cX9_ask 1 = .ok (.i2l, 1) := by decide +kernel
theorem dX9_ask_2 : decode cX9_ask 2 = .ok (.lconst 0, 1) := by decide +kernel
theorem dX9_ask_3 : decode cX9_ask 3 = .ok (.lconst 1, 1) := by decide +kernel
theorem dX9_ask_4 : decode cX9_ask 4 = .ok (.invokestatic 83, 3) := by decide +kernel
theorem dX9_ask_7 : decode cX9_ask 7 = .ok (.ifCond .ne 6, 3) := by decide +kernel
theorem dX9_ask_10 : decode cX9_ask 10 = .ok (.bipush (-2), 2) := by decide +kernel
theorem dX9_ask_12 : decode cX9_ask 12 = .ok (.ireturn, 1) := by decide +kernel
theorem dX9_ask_13 : decode cX9_ask 13 = .ok (.bipush 10, 2) := by decide +kernel
theorem dX9_ask_15 : decode cX9_ask 15 = .ok (.istore_n 2, 1) := by decide +kernel
theorem dX9_ask_16 : decode cX9_ask 16 = .ok (.aload_n 0, 1) := by decide +kernel
theorem dX9_ask_17 : decode cX9_ask 17 = .ok (.iconst 1, 1) := by decide +kernel
theorem dX9_ask_18 : decode cX9_ask 18 = .ok (.iconst 0, 1) := by decide +kernel
theorem dX9_ask_19 : decode cX9_ask 19 = .ok (.invokevirtual 300, 3) := by decide +kernel
theorem dX9_ask_22 : decode cX9_ask 22 = .ok (.istore_n 3, 1) := by decide +kernel
theorem dX9_ask_23 : decode cX9_ask 23 = .ok (.bipush 11, 2) := by decide +kernel
theorem dX9_ask_25 : decode cX9_ask 25 = .ok (.istore 4, 2) := by decide +kernel
theorem dX9_ask_27 : decode cX9_ask 27 = .ok (.iload 4, 2) := by decide +kernel
theorem dX9_ask_29 : decode cX9_ask 29 = .ok (.sipush 154, 3) := by decide +kernel
theorem dX9_ask_32 : decode cX9_ask 32 = .ok (.if_icmp .ge 58, 3) := by decide +kernel
theorem dX9_ask_35 : decode cX9_ask 35 = .ok (.iload 4, 2) := by decide +kernel
theorem dX9_ask_37 : decode cX9_ask 37 = .ok (.bipush 10, 2) := by decide +kernel
theorem dX9_ask_39 : decode cX9_ask 39 = .ok (.irem, 1) := by decide +kernel
theorem dX9_ask_40 : decode cX9_ask 40 = .ok (.iconst 4, 1) := by decide +kernel
theorem dX9_ask_41 : decode cX9_ask 41 = .ok (.if_icmp .ge 20, 3) := by decide +kernel
theorem dX9_ask_44 : decode cX9_ask 44 = .ok (.aload_n 0, 1) := by decide +kernel
theorem dX9_ask_45 : decode cX9_ask 45 = .ok (.iload 4, 2) := by decide +kernel
theorem dX9_ask_47 : decode cX9_ask 47 = .ok (.bipush 10, 2) := by decide +kernel
theorem dX9_ask_49 : decode cX9_ask 49 = .ok (.idiv, 1) := by decide +kernel
theorem dX9_ask_50 : decode cX9_ask 50 = .ok (.iload 4, 2) := by decide +kernel
theorem dX9_ask_52 : decode cX9_ask 52 = .ok (.bipush 10, 2) := by decide +kernel
theorem dX9_ask_54 : decode cX9_ask 54 = .ok (.irem, 1) := by decide +kernel
theorem dX9_ask_55 : decode cX9_ask 55 = .ok (.invokevirtual 300, 3) := by decide +kernel
theorem dX9_ask_58 : decode cX9_ask 58 = .ok (.goto 4, 3) := by decide +kernel
theorem dX9_ask_61 : decode cX9_ask 61 = .ok (.iload_n 3, 1) := by decide +kernel
theorem dX9_ask_62 : decode cX9_ask 62 = .ok (.istore 5, 2) := by decide +kernel
theorem dX9_ask_64 : decode cX9_ask 64 = .ok (.iload 5, 2) := by decide +kernel
theorem dX9_ask_66 : decode cX9_ask 66 = .ok (.iload_n 3, 1) := by decide +kernel
theorem dX9_ask_67 : decode cX9_ask 67 = .ok (.if_icmp .ge 8, 3) := by decide +kernel
theorem dX9_ask_70 : decode cX9_ask 70 = .ok (.iload 4, 2) := by decide +kernel
theorem dX9_ask_72 : decode cX9_ask 72 = .ok (.goto 4, 3) := by decide +kernel
theorem dX9_ask_75 : decode cX9_ask 75 = .ok (.iload_n 2, 1) := by decide +kernel
theorem dX9_ask_76 : decode cX9_ask 76 = .ok (.istore_n 2, 1) := by decide +kernel
theorem dX9_ask_77 : decode cX9_ask 77 = .ok (.iload_n 3, 1) := by decide +kernel
theorem dX9_ask_78 : decode cX9_ask 78 = .ok (.iload 5, 2) := by decide +kernel
theorem dX9_ask_80 : decode cX9_ask 80 = .ok (.invokestatic 159, 3) := by decide +kernel
theorem dX9_ask_83 : decode cX9_ask 83 = .ok (.istore_n 3, 1) := by decide +kernel
theorem dX9_ask_84 : decode cX9_ask 84 = .ok (.iinc 4 1, 3) := by decide +kernel
theorem dX9_ask_87 : decode cX9_ask 87 = .ok (.goto (-60), 3) := by decide +kernel
theorem dX9_ask_90 : decode cX9_ask 90 = .ok (.iload_n 3, 1) := by decide +kernel
theorem dX9_ask_91 : decode cX9_ask 91 = .ok (.ifCond .ne 8, 3) := by decide +kernel
theorem dX9_ask_94 : decode cX9_ask 94 = .ok (.bipush (-6), 2) := by decide +kernel
theorem dX9_ask_96 : decode cX9_ask 96 = .ok (.goto 12, 3) := by decide +kernel
theorem dX9_ask_99 : decode cX9_ask 99 = .ok (.iload_n 1, 1) := by decide +kernel
theorem dX9_ask_100 : decode cX9_ask 100 = .ok (.ifCond .ne 7, 3) := by decide +kernel
theorem dX9_ask_103 : decode cX9_ask 103 = .ok (.iload_n 2, 1) := by decide +kernel
theorem dX9_ask_104 : decode cX9_ask 104 = .ok (.goto 4, 3) := by decide +kernel
theorem dX9_ask_107 : decode cX9_ask 107 = .ok (.iload_n 3, 1) := by decide +kernel
theorem dX9_ask_108 : decode cX9_ask 108 = .ok (.ireturn, 1) := by decide +kernel
theorem dX9_leastTake_0 : decode cX9_leastTake 0 = .ok (.bipush (-6), 2) := by decide +kernel
theorem dX9_leastTake_2 : decode cX9_leastTake 2 = .ok (.istore_n 2, 1) := by decide +kernel
theorem dX9_leastTake_3 : decode cX9_leastTake 3 = .ok (.bipush 31, 2) := by decide +kernel
theorem dX9_leastTake_5 : decode cX9_leastTake 5 = .ok (.istore_n 3, 1) := by decide +kernel
theorem dX9_leastTake_6 : decode cX9_leastTake 6 = .ok (.iload_n 3, 1) := by decide +kernel
theorem dX9_leastTake_7 : decode cX9_leastTake 7 = .ok (.ifCond .le 33, 3) := by decide +kernel
theorem dX9_leastTake_10 : decode cX9_leastTake 10 = .ok (.iload_n 3, 1) := by decide +kernel
theorem dX9_leastTake_11 : decode cX9_leastTake 11 = .ok (.iload_n 3, 1) := by decide +kernel
theorem dX9_leastTake_12 : decode cX9_leastTake 12 = .ok (.imul, 1) := by decide +kernel
theorem dX9_leastTake_13 : decode cX9_leastTake 13 = .ok (.iload_n 1, 1) := by decide +kernel
theorem dX9_leastTake_14 : decode cX9_leastTake 14 = .ok (.if_icmp .gt 18, 3) := by decide +kernel
theorem dX9_leastTake_17 : decode cX9_leastTake 17 = .ok (.aload_n 0, 1) := by decide +kernel
theorem dX9_leastTake_18 : decode cX9_leastTake 18 = .ok (.getfield 67, 3) := by decide +kernel
theorem dX9_leastTake_21 : decode cX9_leastTake 21 = .ok (.iload_n 1, 1) := by decide +kernel
theorem dX9_leastTake_22 : decode cX9_leastTake 22 = .ok (.iload_n 3, 1) := by decide +kernel
theorem dX9_leastTake_23 : decode cX9_leastTake 23 = .ok (.isub, 1) := by decide +kernel
theorem dX9_leastTake_24 : decode cX9_leastTake 24 = .ok (.baload, 1) := by decide +kernel
theorem dX9_leastTake_25 : decode cX9_leastTake 25 = .ok (.ifCond .ne 7, 3) := by decide +kernel
theorem dX9_leastTake_28 : decode cX9_leastTake 28 = .ok (.iload_n 3, 1) := by decide +kernel
theorem dX9_leastTake_29 : decode cX9_leastTake 29 = .ok (.goto 4, 3) := by decide +kernel
theorem dX9_leastTake_32 : decode cX9_leastTake 32 = .ok (.iload_n 2, 1) := by decide +kernel
theorem dX9_leastTake_33 : decode cX9_leastTake 33 = .ok (.istore_n 2, 1) := by decide +kernel
theorem dX9_leastTake_34 : decode cX9_leastTake 34 = .ok (.iinc 3 (-1), 3) := by decide +kernel
theorem dX9_leastTake_37 : decode cX9_leastTake 37 = .ok (.goto (-31), 3) := by decide +kernel
theorem dX9_leastTake_40 : decode cX9_leastTake 40 = .ok (.iload_n 2, 1) := by decide +kernel
theorem dX9_leastTake_41 : decode cX9_leastTake 41 = .ok (.ireturn, 1) := by decide +kernel
set_option maxRecDepth 20000 in
theorem ggX9_roots_X9_in : GoodIn wsX9_roots wsX9_in := goodIn_r _ [6] (by decide +kernel) (by decide +kernel)
set_option maxRecDepth 20000 in
theorem gX9_roots_X9_in : GoodIn wsX9_roots (va_wsS RX9 83 yX9_in wsX9_in) := goodIn_app (goodIn_of _ (by decide +kernel)) ggX9_roots_X9_in
set_option maxRecDepth 20000 in
theorem ggX9_roots_X9_leastTake : GoodIn wsX9_roots wsX9_leastTake := goodIn_r _ [10, 2, 11, 12, 13, 14, 15, 16, 17, 18, 19, 20, 21, 22, 23, 24, 25, 26, 27, 28, 29, 30, 31, 32, 33, 34, 35, 36, 37, 38, 39, 40, 41, 42, 43, 44, 45, 46, 47] (by decide +kernel) (by decide +kernel)
set_option maxRecDepth 20000 in
theorem gX9_roots_X9_leastTake : GoodIn wsX9_roots (wsV RX9 305 RX9 yX9_leastTake wsX9_leastTake) := goodIn_app (goodIn_of _ (by decide +kernel)) ggX9_roots_X9_leastTake
theorem dX9_roots_0 : decode cX9_roots 0 = .ok (.iload_n 1, 1) := by decide +kernel
theorem dX9_roots_1 : decode cX9_roots 1 = .ok (.i2l, 1) := by decide +kernel
theorem dX9_roots_2 : decode cX9_roots 2 = .ok (.lconst 0, 1) := by decide +kernel
theorem dX9_roots_3 : decode cX9_roots 3 = .ok (.ldc2_w 303, 3) := by decide +kernel
theorem dX9_roots_6 : decode cX9_roots 6 = .ok (.invokestatic 83, 3) := by decide +kernel
theorem dX9_roots_9 : decode cX9_roots 9 = .ok (.ifCond .eq 13, 3) := by decide +kernel
theorem dX9_roots_12 : decode cX9_roots 12 = .ok (.iload_n 2, 1) := by decide +kernel
theorem dX9_roots_13 : decode cX9_roots 13 = .ok (.i2l, 1) := by decide +kernel
theorem dX9_roots_14 : decode cX9_roots 14 = .ok (.lconst 0, 1) := by decide +kernel
theorem dX9_roots_15 : decode cX9_roots 15 = .ok (.lconst 1, 1) := by decide +kernel
theorem dX9_roots_16 : decode cX9_roots 16 = .ok (.invokestatic 83, 3) := by decide +kernel
theorem dX9_roots_19 : decode cX9_roots 19 = .ok (.ifCond .ne 6, 3) := by decide +kernel
theorem dX9_roots_22 : decode cX9_roots 22 = .ok (.bipush (-2), 2) := by decide +kernel
theorem dX9_roots_24 : decode cX9_roots 24 = .ok (.ireturn, 1) := by decide +kernel
theorem dX9_roots_25 : decode cX9_roots 25 = .ok (.iconst 0, 1) := by decide +kernel
theorem dX9_roots_26 : decode cX9_roots 26 = .ok (.istore_n 3, 1) := by decide +kernel
theorem dX9_roots_27 : decode cX9_roots 27 = .ok (.iload_n 3, 1) := by decide +kernel
theorem dX9_roots_28 : decode cX9_roots 28 = .ok (.iload_n 1, 1) := by decide +kernel
theorem dX9_roots_29 : decode cX9_roots 29 = .ok (.if_icmp .gt 28, 3) := by decide +kernel
theorem dX9_roots_32 : decode cX9_roots 32 = .ok (.aload_n 0, 1) := by decide +kernel
theorem dX9_roots_33 : decode cX9_roots 33 = .ok (.getfield 67, 3) := by decide +kernel
theorem dX9_roots_36 : decode cX9_roots 36 = .ok (.iload_n 3, 1) := by decide +kernel
theorem dX9_roots_37 : decode cX9_roots 37 = .ok (.aload_n 0, 1) := by decide +kernel
theorem dX9_roots_38 : decode cX9_roots 38 = .ok (.iload_n 3, 1) := by decide +kernel
theorem dX9_roots_39 : decode cX9_roots 39 = .ok (.invokevirtual 305, 3) := by decide +kernel
theorem dX9_roots_42 : decode cX9_roots 42 = .ok (.ifCond .lt 7, 3) := by decide +kernel
theorem dX9_roots_45 : decode cX9_roots 45 = .ok (.iconst 1, 1) := by decide +kernel
theorem dX9_roots_46 : decode cX9_roots 46 = .ok (.goto 4, 3) := by decide +kernel
theorem dX9_roots_49 : decode cX9_roots 49 = .ok (.iconst 0, 1) := by decide +kernel
theorem dX9_roots_50 : decode cX9_roots 50 = .ok (.bastore, 1) := by decide +kernel
theorem dX9_roots_51 : decode cX9_roots 51 = .ok (.iinc 3 1, 3) := by decide +kernel
theorem dX9_roots_54 : decode cX9_roots 54 = .ok (.goto (-27), 3) := by decide +kernel
theorem dX9_roots_57 : decode cX9_roots 57 = .ok (.iload_n 2, 1) := by decide +kernel
theorem dX9_roots_58 : decode cX9_roots 58 = .ok (.iconst 1, 1) := by decide +kernel
theorem dX9_roots_59 : decode cX9_roots 59 = .ok (.if_icmp .ne 11, 3) := by decide +kernel
theorem dX9_roots_62 : decode cX9_roots 62 = .ok (.aload_n 0, 1) := by decide +kernel
theorem dX9_roots_63 : decode cX9_roots 63 = .ok (.iload_n 1, 1) := by decide +kernel
theorem dX9_roots_64 : decode cX9_roots 64 = .ok (.invokevirtual 305, 3) := by decide +kernel
theorem dX9_roots_67 : decode cX9_roots 67 = .ok (.goto 17, 3) := by decide +kernel
theorem dX9_roots_70 : decode cX9_roots 70 = .ok (.aload_n 0, 1) := by decide +kernel
theorem dX9_roots_71 : decode cX9_roots 71 = .ok (.getfield 67, 3) := by decide +kernel
theorem dX9_roots_74 : decode cX9_roots 74 = .ok (.iload_n 1, 1) := by decide +kernel
theorem dX9_roots_75 : decode cX9_roots 75 = .ok (.baload, 1) := by decide +kernel
theorem dX9_roots_76 : decode cX9_roots 76 = .ok (.ifCond .eq 7, 3) := by decide +kernel
theorem dX9_roots_79 : decode cX9_roots 79 = .ok (.iconst 1, 1) := by decide +kernel
theorem dX9_roots_80 : decode cX9_roots 80 = .ok (.goto 4, 3) := by decide +kernel
theorem dX9_roots_83 : decode cX9_roots 83 = .ok (.iconst 0, 1) := by decide +kernel
theorem dX9_roots_84 : decode cX9_roots 84 = .ok (.ireturn, 1) := by decide +kernel
theorem dX9_lowest_0 : decode cX9_lowest 0 = .ok (.lload_n 2, 1) := by decide +kernel
theorem dX9_lowest_1 : decode cX9_lowest 1 = .ok (.lstore 5, 2) := by decide +kernel
theorem dX9_lowest_3 : decode cX9_lowest 3 = .ok (.lload_n 0, 1) := by decide +kernel
theorem dX9_lowest_4 : decode cX9_lowest 4 = .ok (.lstore 7, 2) := by decide +kernel
theorem dX9_lowest_6 : decode cX9_lowest 6 = .ok (.lload 7, 2) := by decide +kernel
theorem dX9_lowest_8 : decode cX9_lowest 8 = .ok (.lconst 0, 1) := by decide +kernel
theorem dX9_lowest_9 : decode cX9_lowest 9 = .ok (.lcmp, 1) := by decide +kernel
theorem dX9_lowest_10 : decode cX9_lowest 10 = .ok (.ifCond .eq 21, 3) := by decide +kernel
theorem dX9_lowest_13 : decode cX9_lowest 13 = .ok (.lload 5, 2) := by decide +kernel
theorem dX9_lowest_15 : decode cX9_lowest 15 = .ok (.lload 7, 2) := by decide +kernel
theorem dX9_lowest_17 : decode cX9_lowest 17 = .ok (.lrem, 1) := by decide +kernel
theorem dX9_lowest_18 : decode cX9_lowest 18 = .ok (.lstore 9, 2) := by decide +kernel
theorem dX9_lowest_20 : decode cX9_lowest 20 = .ok (.lload 7, 2) := by decide +kernel
theorem dX9_lowest_22 : decode cX9_lowest 22 = .ok (.lstore 5, 2) := by decide +kernel
theorem dX9_lowest_24 : decode cX9_lowest 24 = .ok (.lload 9, 2) := by decide +kernel
theorem dX9_lowest_26 : decode cX9_lowest 26 = .ok (.lstore 7, 2) := by decide +kernel
theorem dX9_lowest_28 : decode cX9_lowest 28 = .ok (.goto (-22), 3) := by decide +kernel
theorem dX9_lowest_31 : decode cX9_lowest 31 = .ok (.iload 4, 2) := by decide +kernel
theorem dX9_lowest_33 : decode cX9_lowest 33 = .ok (.ifCond .ne 10, 3) := by decide +kernel
theorem dX9_lowest_36 : decode cX9_lowest 36 = .ok (.lload_n 0, 1) := by decide +kernel
theorem dX9_lowest_37 : decode cX9_lowest 37 = .ok (.lload 5, 2) := by decide +kernel
theorem dX9_lowest_39 : decode cX9_lowest 39 = .ok (.ldiv, 1) := by decide +kernel
theorem dX9_lowest_40 : decode cX9_lowest 40 = .ok (.goto 7, 3) := by decide +kernel
theorem dX9_lowest_43 : decode cX9_lowest 43 = .ok (.lload_n 2, 1) := by decide +kernel
theorem dX9_lowest_44 : decode cX9_lowest 44 = .ok (.lload 5, 2) := by decide +kernel
theorem dX9_lowest_46 : decode cX9_lowest 46 = .ok (.ldiv, 1) := by decide +kernel
theorem dX9_lowest_47 : decode cX9_lowest 47 = .ok (.lreturn, 1) := by decide +kernel
theorem dX9_power_0 : decode cX9_power 0 = .ok (.lconst 1, 1) := by decide +kernel
theorem dX9_power_1 : decode cX9_power 1 = .ok (.lstore_n 3, 1) := by decide +kernel
theorem dX9_power_2 : decode cX9_power 2 = .ok (.iconst 0, 1) := by decide +kernel
theorem dX9_power_3 : decode cX9_power 3 = .ok (.istore 5, 2) := by decide +kernel
theorem dX9_power_5 : decode cX9_power 5 = .ok (.iload 5, 2) := by decide +kernel
theorem dX9_power_7 : decode cX9_power 7 = .ok (.iload_n 2, 1) := by decide +kernel
theorem dX9_power_8 : decode cX9_power 8 = .ok (.if_icmp .ge 13, 3) := by decide +kernel
theorem dX9_power_11 : decode cX9_power 11 = .ok (.lload_n 3, 1) := by decide +kernel
theorem dX9_power_12 : decode cX9_power 12 = .ok (.lload_n 0, 1) := by decide +kernel
theorem dX9_power_13 : decode cX9_power 13 = .ok (.lmul, 1) := by decide +kernel
theorem dX9_power_14 : decode cX9_power 14 = .ok (.lstore_n 3, 1) := by decide +kernel
theorem dX9_power_15 : decode cX9_power 15 = .ok (.iinc 5 1, 3) := by decide +kernel
theorem dX9_power_18 : decode cX9_power 18 = .ok (.goto (-13), 3) := by decide +kernel
theorem dX9_power_21 : decode cX9_power 21 = .ok (.lload_n 3, 1) := by decide +kernel
theorem dX9_power_22 : decode cX9_power 22 = .ok (.lreturn, 1) := by decide +kernel
theorem dX9_choose_0 : decode cX9_choose 0 = .ok (.lconst 1, 1) := by decide +kernel
theorem dX9_choose_1 : decode cX9_choose 1 = .ok (.lstore_n 2, 1) := by decide +kernel
theorem dX9_choose_2 : decode cX9_choose 2 = .ok (.iconst 0, 1) := by decide +kernel
theorem dX9_choose_3 : decode cX9_choose 3 = .ok (.istore 4, 2) := by decide +kernel
theorem dX9_choose_5 : decode cX9_choose 5 = .ok (.iload 4, 2) := by decide +kernel
theorem dX9_choose_7 : decode cX9_choose 7 = .ok (.iload_n 1, 1) := by decide +kernel
theorem dX9_choose_8 : decode cX9_choose 8 = .ok (.if_icmp .ge 23, 3) := by decide +kernel
theorem dX9_choose_11 : decode cX9_choose 11 = .ok (.lload_n 2, 1) := by decide +kernel
theorem dX9_choose_12 : decode cX9_choose 12 = .ok (.iload_n 0, 1) := by decide +kernel
theorem dX9_choose_13 : decode cX9_choose 13 = .ok (.iload 4, 2) := by decide +kernel
theorem dX9_choose_15 : decode cX9_choose 15 = .ok (.isub, 1) := by decide +kernel
theorem dX9_choose_16 : decode cX9_choose 16 = .ok (.i2l, 1) := by decide +kernel
theorem dX9_choose_17 : decode cX9_choose 17 = .ok (.lmul, 1) := by decide +kernel
theorem dX9_choose_18 : decode cX9_choose 18 = .ok (.iload 4, 2) := by decide +kernel
theorem dX9_choose_20 : decode cX9_choose 20 = .ok (.iconst 1, 1) := by decide +kernel
theorem dX9_choose_21 : decode cX9_choose 21 = .ok (.iadd, 1) := by decide +kernel
theorem dX9_choose_22 : decode cX9_choose 22 = .ok (.i2l, 1) := by decide +kernel
theorem dX9_choose_23 : decode cX9_choose 23 = .ok (.ldiv, 1) := by decide +kernel
theorem dX9_choose_24 : decode cX9_choose 24 = .ok (.lstore_n 2, 1) := by decide +kernel
theorem dX9_choose_25 : decode cX9_choose 25 = .ok (.iinc 4 1, 3) := by decide +kernel
theorem dX9_choose_28 : decode cX9_choose 28 = .ok (.goto (-23), 3) := by decide +kernel
theorem dX9_choose_31 : decode cX9_choose 31 = .ok (.lload_n 2, 1) := by decide +kernel
theorem dX9_choose_32 : decode cX9_choose 32 = .ok (.lreturn, 1) := by decide +kernel
theorem dX9_strangers_0 : decode cX9_strangers 0 = .ok (.lconst 1, 1) := by decide +kernel
theorem dX9_strangers_1 : decode cX9_strangers 1 = .ok (.lstore_n 1, 1) := by decide +kernel
theorem dX9_strangers_2 : decode cX9_strangers 2 = .ok (.lconst 0, 1) := by decide +kernel
theorem dX9_strangers_3 : decode cX9_strangers 3 = .ok (.lstore_n 3, 1) := by decide +kernel
theorem dX9_strangers_4 : decode cX9_strangers 4 = .ok (.iconst 2, 1) := by decide +kernel
theorem dX9_strangers_5 : decode cX9_strangers 5 = .ok (.istore 5, 2) := by decide +kernel
theorem dX9_strangers_7 : decode cX9_strangers 7 = .ok (.iload 5, 2) := by decide +kernel
theorem dX9_strangers_9 : decode cX9_strangers 9 = .ok (.iload_n 0, 1) := by decide +kernel
theorem dX9_strangers_10 : decode cX9_strangers 10 = .ok (.if_icmp .gt 25, 3) := by decide +kernel
theorem dX9_strangers_13 : decode cX9_strangers 13 = .ok (.iload 5, 2) := by decide +kernel
theorem dX9_strangers_15 : decode cX9_strangers 15 = .ok (.iconst 1, 1) := by decide +kernel
theorem dX9_strangers_16 : decode cX9_strangers 16 = .ok (.isub, 1) := by decide +kernel
theorem dX9_strangers_17 : decode cX9_strangers 17 = .ok (.i2l, 1) := by decide +kernel
theorem dX9_strangers_18 : decode cX9_strangers 18 = .ok (.lload_n 3, 1) := by decide +kernel
theorem dX9_strangers_19 : decode cX9_strangers 19 = .ok (.lload_n 1, 1) := by decide +kernel
theorem dX9_strangers_20 : decode cX9_strangers 20 = .ok (.ladd, 1) := by decide +kernel
theorem dX9_strangers_21 : decode cX9_strangers 21 = .ok (.lmul, 1) := by decide +kernel
theorem dX9_strangers_22 : decode cX9_strangers 22 = .ok (.lstore 6, 2) := by decide +kernel
theorem dX9_strangers_24 : decode cX9_strangers 24 = .ok (.lload_n 3, 1) := by decide +kernel
theorem dX9_strangers_25 : decode cX9_strangers 25 = .ok (.lstore_n 1, 1) := by decide +kernel
theorem dX9_strangers_26 : decode cX9_strangers 26 = .ok (.lload 6, 2) := by decide +kernel
theorem dX9_strangers_28 : decode cX9_strangers 28 = .ok (.lstore_n 3, 1) := by decide +kernel
theorem dX9_strangers_29 : decode cX9_strangers 29 = .ok (.iinc 5 1, 3) := by decide +kernel
theorem dX9_strangers_32 : decode cX9_strangers 32 = .ok (.goto (-25), 3) := by decide +kernel
theorem dX9_strangers_35 : decode cX9_strangers 35 = .ok (.lload_n 3, 1) := by decide +kernel
theorem dX9_strangers_36 : decode cX9_strangers 36 = .ok (.lreturn, 1) := by decide +kernel
set_option maxRecDepth 20000 in
theorem ggX9_thought_X9_in : GoodIn wsX9_thought wsX9_in := goodIn_r _ [7] (by decide +kernel) (by decide +kernel)
set_option maxRecDepth 20000 in
theorem gX9_thought_X9_in : GoodIn wsX9_thought (va_wsS RX9 83 yX9_in wsX9_in) := goodIn_app (goodIn_of _ (by decide +kernel)) ggX9_thought_X9_in
set_option maxRecDepth 20000 in
theorem ggX9_thought_X9_power : GoodIn wsX9_thought wsX9_power := goodIn_r _ [10] (by decide +kernel) (by decide +kernel)
set_option maxRecDepth 20000 in
theorem gX9_thought_X9_power : GoodIn wsX9_thought (va_wsS RX9 312 yX9_power wsX9_power) := goodIn_app (goodIn_of _ (by decide +kernel)) ggX9_thought_X9_power
set_option maxRecDepth 20000 in
theorem ggX9_thought_X9_lowest : GoodIn wsX9_thought wsX9_lowest := goodIn_r _ [13] (by decide +kernel) (by decide +kernel)
set_option maxRecDepth 20000 in
theorem gX9_thought_X9_lowest : GoodIn wsX9_thought (va_wsS RX9 316 yX9_lowest wsX9_lowest) := goodIn_app (goodIn_of _ (by decide +kernel)) ggX9_thought_X9_lowest
set_option maxRecDepth 20000 in
theorem ggX9_thought_X9_strangers : GoodIn wsX9_thought wsX9_strangers := goodIn_r _ [16] (by decide +kernel) (by decide +kernel)
set_option maxRecDepth 20000 in
theorem gX9_thought_X9_strangers : GoodIn wsX9_thought (va_wsS RX9 320 yX9_strangers wsX9_strangers) := goodIn_app (goodIn_of _ (by decide +kernel)) ggX9_thought_X9_strangers
set_option maxRecDepth 20000 in
theorem ggX9_thought_X9_choose : GoodIn wsX9_thought wsX9_choose := goodIn_r _ [19] (by decide +kernel) (by decide +kernel)
set_option maxRecDepth 20000 in
theorem gX9_thought_X9_choose : GoodIn wsX9_thought (va_wsS RX9 324 yX9_choose wsX9_choose) := goodIn_app (goodIn_of _ (by decide +kernel)) ggX9_thought_X9_choose
theorem dX9_thought_0 : decode cX9_thought 0 = .ok (.iload_n 1, 1) := by decide +kernel
theorem dX9_thought_1 : decode cX9_thought 1 = .ok (.i2l, 1) := by decide +kernel
theorem dX9_thought_2 : decode cX9_thought 2 = .ok (.ldc2_w 233, 3) := by decide +kernel
theorem dX9_thought_5 : decode cX9_thought 5 = .ok (.ldc2_w 308, 3) := by decide +kernel
theorem dX9_thought_8 : decode cX9_thought 8 = .ok (.invokestatic 83, 3) := by decide +kernel
theorem dX9_thought_11 : decode cX9_thought 11 = .ok (.ifCond .eq 39, 3) := by decide +kernel
theorem dX9_thought_14 : decode cX9_thought 14 = .ok (.iload_n 2, 1) := by decide +kernel
theorem dX9_thought_15 : decode cX9_thought 15 = .ok (.i2l, 1) := by decide +kernel
theorem dX9_thought_16 : decode cX9_thought 16 = .ok (.lconst 0, 1) := by decide +kernel
theorem dX9_thought_17 : decode cX9_thought 17 = .ok (.iload_n 1, 1) := by decide +kernel
theorem dX9_thought_18 : decode cX9_thought 18 = .ok (.iconst 1, 1) := by decide +kernel
theorem dX9_thought_19 : decode cX9_thought 19 = .ok (.isub, 1) := by decide +kernel
theorem dX9_thought_20 : decode cX9_thought 20 = .ok (.i2l, 1) := by decide +kernel
theorem dX9_thought_21 : decode cX9_thought 21 = .ok (.invokestatic 83, 3) := by decide +kernel
theorem dX9_thought_24 : decode cX9_thought 24 = .ok (.ifCond .eq 26, 3) := by decide +kernel
theorem dX9_thought_27 : decode cX9_thought 27 = .ok (.iload_n 3, 1) := by decide +kernel
theorem dX9_thought_28 : decode cX9_thought 28 = .ok (.i2l, 1) := by decide +kernel
theorem dX9_thought_29 : decode cX9_thought 29 = .ok (.lconst 0, 1) := by decide +kernel
theorem dX9_thought_30 : decode cX9_thought 30 = .ok (.ldc2_w 233, 3) := by decide +kernel
theorem dX9_thought_33 : decode cX9_thought 33 = .ok (.invokestatic 83, 3) := by decide +kernel
theorem dX9_thought_36 : decode cX9_thought 36 = .ok (.ifCond .eq 14, 3) := by decide +kernel
theorem dX9_thought_39 : decode cX9_thought 39 = .ok (.iload 4, 2) := by decide +kernel
theorem dX9_thought_41 : decode cX9_thought 41 = .ok (.i2l, 1) := by decide +kernel
theorem dX9_thought_42 : decode cX9_thought 42 = .ok (.lconst 0, 1) := by decide +kernel
theorem dX9_thought_43 : decode cX9_thought 43 = .ok (.lconst 1, 1) := by decide +kernel
theorem dX9_thought_44 : decode cX9_thought 44 = .ok (.invokestatic 83, 3) := by decide +kernel
theorem dX9_thought_47 : decode cX9_thought 47 = .ok (.ifCond .ne 7, 3) := by decide +kernel
theorem dX9_thought_50 : decode cX9_thought 50 = .ok (.ldc2_w 310, 3) := by decide +kernel
theorem dX9_thought_53 : decode cX9_thought 53 = .ok (.lreturn, 1) := by decide +kernel
theorem dX9_thought_54 : decode cX9_thought 54 = .ok (.iload_n 1, 1) := by decide +kernel
theorem dX9_thought_55 : decode cX9_thought 55 = .ok (.iconst 1, 1) := by decide +kernel
theorem dX9_thought_56 : decode cX9_thought 56 = .ok (.isub, 1) := by decide +kernel
theorem dX9_thought_57 : decode cX9_thought 57 = .ok (.istore 5, 2) := by decide +kernel
theorem dX9_thought_59 : decode cX9_thought 59 = .ok (.iload_n 3, 1) := by decide +kernel
theorem dX9_thought_60 : decode cX9_thought 60 = .ok (.iconst 1, 1) := by decide +kernel
theorem dX9_thought_61 : decode cX9_thought 61 = .ok (.if_icmp .ne 17, 3) := by decide +kernel
theorem dX9_thought_64 : decode cX9_thought 64 = .ok (.lconst 1, 1) := by decide +kernel
theorem dX9_thought_65 : decode cX9_thought 65 = .ok (.iload 5, 2) := by decide +kernel
theorem dX9_thought_67 : decode cX9_thought 67 = .ok (.i2l, 1) := by decide +kernel
theorem dX9_thought_68 : decode cX9_thought 68 = .ok (.iconst 2, 1) := by decide +kernel
theorem dX9_thought_69 : decode cX9_thought 69 = .ok (.invokestatic 312, 3) := by decide +kernel
theorem dX9_thought_72 : decode cX9_thought 72 = .ok (.iload 4, 2) := by decide +kernel
theorem dX9_thought_74 : decode cX9_thought 74 = .ok (.invokestatic 316, 3) := by decide +kernel
theorem dX9_thought_77 : decode cX9_thought 77 = .ok (.lreturn, 1) := by decide +kernel
theorem dX9_thought_78 : decode cX9_thought 78 = .ok (.iload_n 3, 1) := by decide +kernel
theorem dX9_thought_79 : decode cX9_thought 79 = .ok (.iconst 2, 1) := by decide +kernel
theorem dX9_thought_80 : decode cX9_thought 80 = .ok (.if_icmp .ne 20, 3) := by decide +kernel
theorem dX9_thought_83 : decode cX9_thought 83 = .ok (.iload_n 1, 1) := by decide +kernel
theorem dX9_thought_84 : decode cX9_thought 84 = .ok (.invokestatic 320, 3) := by decide +kernel
theorem dX9_thought_87 : decode cX9_thought 87 = .ok (.iload 5, 2) := by decide +kernel
theorem dX9_thought_89 : decode cX9_thought 89 = .ok (.i2l, 1) := by decide +kernel
theorem dX9_thought_90 : decode cX9_thought 90 = .ok (.iload_n 1, 1) := by decide +kernel
theorem dX9_thought_91 : decode cX9_thought 91 = .ok (.invokestatic 312, 3) := by decide +kernel
theorem dX9_thought_94 : decode cX9_thought 94 = .ok (.iload 4, 2) := by decide +kernel
theorem dX9_thought_96 : decode cX9_thought 96 = .ok (.invokestatic 316, 3) := by decide +kernel
theorem dX9_thought_99 : decode cX9_thought 99 = .ok (.lreturn, 1) := by decide +kernel
theorem dX9_thought_100 : decode cX9_thought 100 = .ok (.iload 5, 2) := by decide +kernel
theorem dX9_thought_102 : decode cX9_thought 102 = .ok (.iload_n 2, 1) := by decide +kernel
theorem dX9_thought_103 : decode cX9_thought 103 = .ok (.invokestatic 324, 3) := by decide +kernel
theorem dX9_thought_106 : decode cX9_thought 106 = .ok (.iload 5, 2) := by decide +kernel
theorem dX9_thought_108 : decode cX9_thought 108 = .ok (.iconst 1, 1) := by decide +kernel
theorem dX9_thought_109 : decode cX9_thought 109 = .ok (.isub, 1) := by decide +kernel
theorem dX9_thought_110 : decode cX9_thought 110 = .ok (.i2l, 1) := by decide +kernel
theorem dX9_thought_111 : decode cX9_thought 111 = .ok (.iload 5, 2) := by decide +kernel
theorem dX9_thought_113 : decode cX9_thought 113 = .ok (.iload_n 2, 1) := by decide +kernel
theorem dX9_thought_114 : decode cX9_thought 114 = .ok (.isub, 1) := by decide +kernel
theorem dX9_thought_115 : decode cX9_thought 115 = .ok (.invokestatic 312, 3) := by decide +kernel
theorem dX9_thought_118 : decode cX9_thought 118 = .ok (.lmul, 1) := by decide +kernel
theorem dX9_thought_119 : decode cX9_thought 119 = .ok (.iload 5, 2) := by decide +kernel
theorem dX9_thought_121 : decode cX9_thought 121 = .ok (.i2l, 1) := by decide +kernel
theorem dX9_thought_122 : decode cX9_thought 122 = .ok (.iload 5, 2) := by decide +kernel
theorem dX9_thought_124 : decode cX9_thought 124 = .ok (.invokestatic 312, 3) := by decide +kernel
theorem dX9_thought_127 : decode cX9_thought 127 = .ok (.iload 4, 2) := by decide +kernel
theorem dX9_thought_129 : decode cX9_thought 129 = .ok (.invokestatic 316, 3) := by decide +kernel
theorem dX9_thought_132 : decode cX9_thought 132 = .ok (.lreturn, 1) := by decide +kernel
set_option maxRecDepth 20000 in
theorem ggX9_drawn_X9_whyNot : GoodIn wsX9_drawn wsX9_whyNot := goodIn_r _ [5, 6, 7, 8, 9, 10, 11, 12, 4, 13, 14, 15, 16, 17, 18, 19, 20, 21, 22, 23, 24, 25, 26, 65, 66, 67, 68, 69, 70, 71, 72, 73, 74, 75, 76, 77, 78, 79, 80, 81, 82, 83, 84, 85, 86, 87, 88, 89, 90, 91, 92, 93, 94, 95, 96, 97, 98, 99, 100, 101] (by decide +kernel) (by decide +kernel)
set_option maxRecDepth 20000 in
theorem gX9_drawn_X9_whyNot : GoodIn wsX9_drawn (wsV RX9 219 RX9 yX9_whyNot wsX9_whyNot) := goodIn_app (goodIn_of _ (by decide +kernel)) ggX9_drawn_X9_whyNot
set_option maxRecDepth 20000 in
theorem ggX9_drawn_X9_happen : GoodIn wsX9_drawn wsX9_happen := goodIn_r _ [30, 31, 6, 32, 33, 34, 4, 35, 18, 8, 36, 37, 38, 39, 40, 7, 41, 42, 43, 44, 45, 46, 47, 48, 19, 49, 50, 51, 52, 53, 54, 55, 56, 57, 58, 9, 59, 60, 61, 62, 63, 64, 65, 66, 67, 68, 69, 70, 71, 72, 73, 74, 75, 76, 77, 78, 79, 80, 81, 82, 83, 84, 85, 86, 87, 88, 89, 90, 91, 92, 93, 94, 95, 96, 97, 98, 99, 100, 101] (by decide +kernel) (by decide +kernel)
set_option maxRecDepth 20000 in
theorem gX9_drawn_X9_happen : GoodIn wsX9_drawn (wsV RX9 203 RX9 yX9_happen wsX9_happen) := goodIn_app (goodIn_of _ (by decide +kernel)) ggX9_drawn_X9_happen
theorem dX9_drawn_0 : decode cX9_drawn 0 = .ok (.iload_n 1, 1) := by decide +kernel
theorem dX9_drawn_1 : decode cX9_drawn 1 = .ok (.iconst 2, 1) := by decide +kernel
theorem dX9_drawn_2 : decode cX9_drawn 2 = .ok (.if_icmp .ge 7, 3) := by decide +kernel
theorem dX9_drawn_5 : decode cX9_drawn 5 = .ok (.iconst 0, 1) := by decide +kernel
theorem dX9_drawn_6 : decode cX9_drawn 6 = .ok (.goto 43, 3) := by decide +kernel
theorem dX9_drawn_9 : decode cX9_drawn 9 = .ok (.iload_n 1, 1) := by decide +kernel
theorem dX9_drawn_10 : decode cX9_drawn 10 = .ok (.iconst 2, 1) := by decide +kernel
theorem dX9_drawn_11 : decode cX9_drawn 11 = .ok (.if_icmp .ne 7, 3) := by decide +kernel
theorem dX9_drawn_14 : decode cX9_drawn 14 = .ok (.iconst 1, 1) := by decide +kernel
theorem dX9_drawn_15 : decode cX9_drawn 15 = .ok (.goto 34, 3) := by decide +kernel
theorem dX9_drawn_18 : decode cX9_drawn 18 = .ok (.iload_n 1, 1) := by decide +kernel
theorem dX9_drawn_19 : decode cX9_drawn 19 = .ok (.iconst 5, 1) := by decide +kernel
theorem dX9_drawn_20 : decode cX9_drawn 20 = .ok (.if_icmp .ge 19, 3) := by decide +kernel
theorem dX9_drawn_23 : decode cX9_drawn 23 = .ok (.iload_n 2, 1) := by decide +kernel
theorem dX9_drawn_24 : decode cX9_drawn 24 = .ok (.iconst 4, 1) := by decide +kernel
theorem dX9_drawn_25 : decode cX9_drawn 25 = .ok (.idiv, 1) := by decide +kernel
theorem dX9_drawn_26 : decode cX9_drawn 26 = .ok (.iconst 2, 1) := by decide +kernel
theorem dX9_drawn_27 : decode cX9_drawn 27 = .ok (.irem, 1) := by decide +kernel
theorem dX9_drawn_28 : decode cX9_drawn 28 = .ok (.ifCond .ne 7, 3) := by decide +kernel
theorem dX9_drawn_31 : decode cX9_drawn 31 = .ok (.iconst 2, 1) := by decide +kernel
theorem dX9_drawn_32 : decode cX9_drawn 32 = .ok (.goto 17, 3) := by decide +kernel
theorem dX9_drawn_35 : decode cX9_drawn 35 = .ok (.iconst 3, 1) := by decide +kernel
theorem dX9_drawn_36 : decode cX9_drawn 36 = .ok (.goto 13, 3) := by decide +kernel
theorem dX9_drawn_39 : decode cX9_drawn 39 = .ok (.iload_n 1, 1) := by decide +kernel
theorem dX9_drawn_40 : decode cX9_drawn 40 = .ok (.iconst 5, 1) := by decide +kernel
theorem dX9_drawn_41 : decode cX9_drawn 41 = .ok (.if_icmp .ne 7, 3) := by decide +kernel
theorem dX9_drawn_44 : decode cX9_drawn 44 = .ok (.iconst 4, 1) := by decide +kernel
theorem dX9_drawn_45 : decode cX9_drawn 45 = .ok (.goto 4, 3) := by decide +kernel
theorem dX9_drawn_48 : decode cX9_drawn 48 = .ok (.iconst 5, 1) := by decide +kernel
theorem dX9_drawn_49 : decode cX9_drawn 49 = .ok (.istore_n 3, 1) := by decide +kernel
theorem dX9_drawn_50 : decode cX9_drawn 50 = .ok (.iload_n 1, 1) := by decide +kernel
theorem dX9_drawn_51 : decode cX9_drawn 51 = .ok (.iconst 3, 1) := by decide +kernel
theorem dX9_drawn_52 : decode cX9_drawn 52 = .ok (.if_icmp .ge 10, 3) := by decide +kernel
theorem dX9_drawn_55 : decode cX9_drawn 55 = .ok (.iload_n 2, 1) := by decide +kernel
theorem dX9_drawn_56 : decode cX9_drawn 56 = .ok (.bipush 8, 2) := by decide +kernel
theorem dX9_drawn_58 : decode cX9_drawn 58 = .ok (.irem, 1) := by decide +kernel
theorem dX9_drawn_59 : decode cX9_drawn 59 = .ok (.goto 6, 3) := by decide +kernel
theorem dX9_drawn_62 : decode cX9_drawn 62 = .ok (.iload_n 2, 1) := by decide +kernel
theorem dX9_drawn_63 : decode cX9_drawn 63 = .ok (.iconst 4, 1) := by decide +kernel
theorem dX9_drawn_64 : decode cX9_drawn 64 = .ok (.irem, 1) := by decide +kernel
theorem dX9_drawn_65 : decode cX9_drawn 65 = .ok (.istore 4, 2) := by decide +kernel
theorem dX9_drawn_67 : decode cX9_drawn 67 = .ok (.iload_n 1, 1) := by decide +kernel
theorem dX9_drawn_68 : decode cX9_drawn 68 = .ok (.iconst 2, 1) := by decide +kernel
theorem dX9_drawn_69 : decode cX9_drawn 69 = .ok (.if_icmp .ge 13, 3) := by decide +kernel
theorem dX9_drawn_72 : decode cX9_drawn 72 = .ok (.iload_n 2, 1) := by decide +kernel
theorem dX9_drawn_73 : decode cX9_drawn 73 = .ok (.bipush 8, 2) := by decide +kernel
theorem dX9_drawn_75 : decode cX9_drawn 75 = .ok (.idiv, 1) := by decide +kernel
theorem dX9_drawn_76 : decode cX9_drawn 76 = .ok (.bipush 8, 2) := by decide +kernel
theorem dX9_drawn_78 : decode cX9_drawn 78 = .ok (.irem, 1) := by decide +kernel
theorem dX9_drawn_79 : decode cX9_drawn 79 = .ok (.goto 24, 3) := by decide +kernel
theorem dX9_drawn_82 : decode cX9_drawn 82 = .ok (.iload_n 1, 1) := by decide +kernel
theorem dX9_drawn_83 : decode cX9_drawn 83 = .ok (.iconst 2, 1) := by decide +kernel
theorem dX9_drawn_84 : decode cX9_drawn 84 = .ok (.if_icmp .ne 13, 3) := by decide +kernel
theorem dX9_drawn_87 : decode cX9_drawn 87 = .ok (.iload_n 2, 1) := by decide +kernel
theorem dX9_drawn_88 : decode cX9_drawn 88 = .ok (.bipush 8, 2) := by decide +kernel
theorem dX9_drawn_90 : decode cX9_drawn 90 = .ok (.idiv, 1) := by decide +kernel
theorem dX9_drawn_91 : decode cX9_drawn 91 = .ok (.bipush 12, 2) := by decide +kernel
theorem dX9_drawn_93 : decode cX9_drawn 93 = .ok (.irem, 1) := by decide +kernel
theorem dX9_drawn_94 : decode cX9_drawn 94 = .ok (.goto 9, 3) := by decide +kernel
theorem dX9_drawn_97 : decode cX9_drawn 97 = .ok (.iload_n 2, 1) := by decide +kernel
theorem dX9_drawn_98 : decode cX9_drawn 98 = .ok (.iconst 4, 1) := by decide +kernel
theorem dX9_drawn_99 : decode cX9_drawn 99 = .ok (.idiv, 1) := by decide +kernel
theorem dX9_drawn_100 : decode cX9_drawn 100 = .ok (.bipush 8, 2) := by decide +kernel
theorem dX9_drawn_102 : decode cX9_drawn 102 = .ok (.irem, 1) := by decide +kernel
theorem dX9_drawn_103 : decode cX9_drawn 103 = .ok (.istore 5, 2) := by decide +kernel
theorem dX9_drawn_105 : decode cX9_drawn 105 = .ok (.aload_n 0, 1) := by decide +kernel
theorem dX9_drawn_106 : decode cX9_drawn 106 = .ok (.iload_n 3, 1) := by decide +kernel
theorem dX9_drawn_107 : decode cX9_drawn 107 = .ok (.iload 4, 2) := by decide +kernel
theorem dX9_drawn_109 : decode cX9_drawn 109 = .ok (.iload 5, 2) := by decide +kernel
theorem dX9_drawn_111 : decode cX9_drawn 111 = .ok (.invokevirtual 219, 3) := by decide +kernel
theorem dX9_drawn_114 : decode cX9_drawn 114 = .ok (.ifCond .ne 12, 3) := by decide +kernel
theorem dX9_drawn_117 : decode cX9_drawn 117 = .ok (.aload_n 0, 1) := by decide +kernel
theorem dX9_drawn_118 : decode cX9_drawn 118 = .ok (.iload_n 3, 1) := by decide +kernel
theorem dX9_drawn_119 : decode cX9_drawn 119 = .ok (.iload 4, 2) := by decide +kernel
theorem dX9_drawn_121 : decode cX9_drawn 121 = .ok (.iload 5, 2) := by decide +kernel
theorem dX9_drawn_123 : decode cX9_drawn 123 = .ok (.invokevirtual 203, 3) := by decide +kernel
theorem dX9_drawn_126 : decode cX9_drawn 126 = .ok (.return_, 1) := by decide +kernel
theorem dX9_allNoted_0 : decode cX9_allNoted 0 = .ok (.iconst 0, 1) := by decide +kernel
theorem dX9_allNoted_1 : decode cX9_allNoted 1 = .ok (.istore_n 1, 1) := by decide +kernel
theorem dX9_allNoted_2 : decode cX9_allNoted 2 = .ok (.iconst 0, 1) := by decide +kernel
theorem dX9_allNoted_3 : decode cX9_allNoted 3 = .ok (.istore_n 2, 1) := by decide +kernel
theorem dX9_allNoted_4 : decode cX9_allNoted 4 = .ok (.iload_n 2, 1) := by decide +kernel
theorem dX9_allNoted_5 : decode cX9_allNoted 5 = .ok (.bipush 8, 2) := by decide +kernel
theorem dX9_allNoted_7 : decode cX9_allNoted 7 = .ok (.if_icmp .ge 18, 3) := by decide +kernel
theorem dX9_allNoted_10 : decode cX9_allNoted 10 = .ok (.iload_n 1, 1) := by decide +kernel
theorem dX9_allNoted_11 : decode cX9_allNoted 11 = .ok (.aload_n 0, 1) := by decide +kernel
theorem dX9_allNoted_12 : decode cX9_allNoted 12 = .ok (.getfield 13, 3) := by decide +kernel
theorem dX9_allNoted_15 : decode cX9_allNoted 15 = .ok (.iload_n 2, 1) := by decide +kernel
theorem dX9_allNoted_16 : decode cX9_allNoted 16 = .ok (.iaload, 1) := by decide +kernel
theorem dX9_allNoted_17 : decode cX9_allNoted 17 = .ok (.iadd, 1) := by decide +kernel
theorem dX9_allNoted_18 : decode cX9_allNoted 18 = .ok (.istore_n 1, 1) := by decide +kernel
theorem dX9_allNoted_19 : decode cX9_allNoted 19 = .ok (.iinc 2 1, 3) := by decide +kernel
theorem dX9_allNoted_22 : decode cX9_allNoted 22 = .ok (.goto (-18), 3) := by decide +kernel
theorem dX9_allNoted_25 : decode cX9_allNoted 25 = .ok (.iload_n 1, 1) := by decide +kernel
theorem dX9_allNoted_26 : decode cX9_allNoted 26 = .ok (.ireturn, 1) := by decide +kernel
set_option maxRecDepth 20000 in
theorem ggX9_storm_X9_in : GoodIn wsX9_storm wsX9_in := goodIn_r _ [11] (by decide +kernel) (by decide +kernel)
set_option maxRecDepth 20000 in
theorem gX9_storm_X9_in : GoodIn wsX9_storm (va_wsS RX9 83 yX9_in wsX9_in) := goodIn_app (goodIn_of _ (by decide +kernel)) ggX9_storm_X9_in
set_option maxRecDepth 20000 in
theorem ggX9_storm_X9_carryAll : GoodIn wsX9_storm wsX9_carryAll := goodIn_r _ [15, 16, 17, 18, 19, 20, 21, 22, 23, 24, 25, 26, 27, 28, 29, 30, 10, 31, 32, 33, 34, 35, 36, 102, 103, 104, 105, 106, 107, 108, 109, 110, 111, 112, 113, 114, 115, 116, 117, 118, 119, 120, 121, 122, 123, 124, 125, 126, 127, 128, 129, 130, 131, 132, 133, 134, 135, 136, 137, 138] (by decide +kernel) (by decide +kernel)
set_option maxRecDepth 20000 in
theorem gX9_storm_X9_carryAll : GoodIn wsX9_storm (wsV RX9 199 RX9 yX9_carryAll wsX9_carryAll) := goodIn_app (goodIn_of _ (by decide +kernel)) ggX9_storm_X9_carryAll
set_option maxRecDepth 20000 in
theorem ggX9_storm_X9_drawn : GoodIn wsX9_storm wsX9_drawn := goodIn_r _ [40, 41, 42, 43, 10, 44, 19, 21, 24, 18, 45, 46, 47, 48, 49, 50, 51, 52, 25, 27, 53, 54, 55, 56, 8, 9, 11, 57, 58, 59, 60, 61, 62, 63, 64, 65, 23, 66, 67, 68, 69, 22, 70, 71, 72, 73, 74, 75, 76, 77, 78, 79, 80, 20, 26, 81, 82, 83, 84, 85, 86, 87, 88, 89, 4, 102, 103, 104, 105, 106, 107, 108, 109, 110, 111, 112, 113, 114, 115, 116, 117, 118, 119, 120, 121, 122, 123, 124, 125, 126, 127, 128, 129, 130, 131, 132, 133, 134, 135, 136, 137, 138] (by decide +kernel) (by decide +kernel)
set_option maxRecDepth 20000 in
theorem gX9_storm_X9_drawn : GoodIn wsX9_storm (wsV RX9 336 RX9 yX9_drawn wsX9_drawn) := goodIn_app (goodIn_of _ (by decide +kernel)) ggX9_storm_X9_drawn
set_option maxRecDepth 20000 in
theorem ggX9_storm_X9_lying : GoodIn wsX9_storm wsX9_lying := goodIn_r _ [93, 21, 102, 103, 104, 105, 106, 107, 108, 109, 110, 111, 112, 113, 114, 115, 116, 117, 118, 119, 120, 121, 122, 123, 124, 125, 126, 127, 128, 129, 130, 131, 132, 133, 134, 135, 136, 137, 138] (by decide +kernel) (by decide +kernel)
set_option maxRecDepth 20000 in
theorem gX9_storm_X9_lying : GoodIn wsX9_storm (wsV RX9 246 RX9 yX9_lying wsX9_lying) := goodIn_app (goodIn_of _ (by decide +kernel)) ggX9_storm_X9_lying
set_option maxRecDepth 20000 in
theorem ggX9_storm_X9_allNoted : GoodIn wsX9_storm wsX9_allNoted := goodIn_r _ [97, 20, 102, 103, 104, 105, 106, 107, 108, 109, 110, 111, 112, 113, 114, 115, 116, 117, 118, 119, 120, 121, 122, 123, 124, 125, 126, 127, 128, 129, 130, 131, 132, 133, 134, 135, 136, 137, 138] (by decide +kernel) (by decide +kernel)
