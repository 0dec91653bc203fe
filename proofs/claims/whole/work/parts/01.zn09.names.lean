theorem dX8_cover_27 : decode cX8_cover 27 = .ok (.istore_n 3, 1) := by decide +kernel
theorem dX8_cover_28 : decode cX8_cover 28 = .ok (.iload_n 2, 1) := by decide +kernel
theorem dX8_cover_29 : decode cX8_cover 29 = .ok (.ifCond .ne 10, 3) := by decide +kernel
theorem dX8_cover_32 : decode cX8_cover 32 = .ok (.iload_n 3, 1) := by decide +kernel
theorem dX8_cover_33 : decode cX8_cover 33 = .ok (.invokestatic 178, 3) := by decide +kernel
theorem dX8_cover_36 : decode cX8_cover 36 = .ok (.goto 4, 3) := by decide +kernel
theorem dX8_cover_39 : decode cX8_cover 39 = .ok (.iload_n 3, 1) := by decide +kernel
theorem dX8_cover_40 : decode cX8_cover 40 = .ok (.ireturn, 1) := by decide +kernel
set_option maxRecDepth 20000 in
theorem ggX8_fewestCells_J6_bitCount_0f7a4 : GoodIn wsX8_fewestCells wsJ6_bitCount_0f7a4 := goodIn_r _ [5, 6, 7, 8] (by decide +kernel) (by decide +kernel)
set_option maxRecDepth 20000 in
theorem gX8_fewestCells_J6_bitCount_0f7a4 : GoodIn wsX8_fewestCells (va_wsS RX8 178 yJ6_bitCount_0f7a4 wsJ6_bitCount_0f7a4) := goodIn_app (goodIn_of _ (by decide +kernel)) ggX8_fewestCells_J6_bitCount_0f7a4
set_option maxRecDepth 20000 in
theorem ggX8_fewestCells_X5_allNear : GoodIn wsX8_fewestCells wsX5_allNear := goodIn_r _ [13, 14, 15, 16, 17, 12, 18, 19, 20, 21, 22, 23, 24, 25, 26, 27, 28, 36, 37, 38, 39, 40, 41, 42, 43, 44, 45, 46] (by decide +kernel) (by decide +kernel)
set_option maxRecDepth 20000 in
theorem gX8_fewestCells_X5_allNear : GoodIn wsX8_fewestCells (wsV RX8 183 RX5 yX5_allNear wsX5_allNear) := goodIn_app (goodIn_of _ (by decide +kernel)) ggX8_fewestCells_X5_allNear
theorem dX8_fewestCells_0 : decode cX8_fewestCells 0 = .ok (.sipush 4095, 3) := by decide +kernel
theorem dX8_fewestCells_3 : decode cX8_fewestCells 3 = .ok (.istore_n 2, 1) := by decide +kernel
theorem dX8_fewestCells_4 : decode cX8_fewestCells 4 = .ok (.iconst 0, 1) := by decide +kernel
theorem dX8_fewestCells_5 : decode cX8_fewestCells 5 = .ok (.istore_n 3, 1) := by decide +kernel
theorem dX8_fewestCells_6 : decode cX8_fewestCells 6 = .ok (.iload_n 3, 1) := by decide +kernel
theorem dX8_fewestCells_7 : decode cX8_fewestCells 7 = .ok (.sipush 4096, 3) := by decide +kernel
theorem dX8_fewestCells_10 : decode cX8_fewestCells 10 = .ok (.if_icmp .ge 34, 3) := by decide +kernel
theorem dX8_fewestCells_13 : decode cX8_fewestCells 13 = .ok (.iload_n 3, 1) := by decide +kernel
theorem dX8_fewestCells_14 : decode cX8_fewestCells 14 = .ok (.invokestatic 178, 3) := by decide +kernel
theorem dX8_fewestCells_17 : decode cX8_fewestCells 17 = .ok (.iload_n 2, 1) := by decide +kernel
theorem dX8_fewestCells_18 : decode cX8_fewestCells 18 = .ok (.invokestatic 178, 3) := by decide +kernel
theorem dX8_fewestCells_21 : decode cX8_fewestCells 21 = .ok (.if_icmp .ge 17, 3) := by decide +kernel
theorem dX8_fewestCells_24 : decode cX8_fewestCells 24 = .ok (.aload_n 0, 1) := by decide +kernel
theorem dX8_fewestCells_25 : decode cX8_fewestCells 25 = .ok (.getfield 10, 3) := by decide +kernel
theorem dX8_fewestCells_28 : decode cX8_fewestCells 28 = .ok (.iload_n 3, 1) := by decide +kernel
theorem dX8_fewestCells_29 : decode cX8_fewestCells 29 = .ok (.iload_n 1, 1) := by decide +kernel
theorem dX8_fewestCells_30 : decode cX8_fewestCells 30 = .ok (.invokevirtual 183, 3) := by decide +kernel
theorem dX8_fewestCells_33 : decode cX8_fewestCells 33 = .ok (.ifCond .eq 5, 3) := by decide +kernel
theorem dX8_fewestCells_36 : decode cX8_fewestCells 36 = .ok (.iload_n 3, 1) := by decide +kernel
theorem dX8_fewestCells_37 : decode cX8_fewestCells 37 = .ok (.istore_n 2, 1) := by decide +kernel
theorem dX8_fewestCells_38 : decode cX8_fewestCells 38 = .ok (.iinc 3 1, 3) := by decide +kernel
theorem dX8_fewestCells_41 : decode cX8_fewestCells 41 = .ok (.goto (-35), 3) := by decide +kernel
theorem dX8_fewestCells_44 : decode cX8_fewestCells 44 = .ok (.iload_n 2, 1) := by decide +kernel
theorem dX8_fewestCells_45 : decode cX8_fewestCells 45 = .ok (.ireturn, 1) := by decide +kernel
set_option maxRecDepth 20000 in
theorem ggX8_seen_X8_within : GoodIn wsX8_seen wsX8_within := goodIn_r _ [6] (by decide +kernel) (by decide +kernel)
set_option maxRecDepth 20000 in
theorem gX8_seen_X8_within : GoodIn wsX8_seen (va_wsS RX8 62 yX8_within wsX8_within) := goodIn_app (goodIn_of _ (by decide +kernel)) ggX8_seen_X8_within
set_option maxRecDepth 20000 in
theorem ggX8_seen_X7_append : GoodIn wsX8_seen wsX7_append := goodIn_r _ [11, 12, 13, 14, 15, 23, 24, 25, 26] (by decide +kernel) (by decide +kernel)
set_option maxRecDepth 20000 in
theorem gX8_seen_X7_append : GoodIn wsX8_seen (wsV RX8 187 RX7 yX7_append wsX7_append) := goodIn_app (goodIn_of _ (by decide +kernel)) ggX8_seen_X7_append
theorem dX8_seen_0 : decode cX8_seen 0 = .ok (.iload_n 1, 1) := by decide +kernel
theorem dX8_seen_1 : decode cX8_seen 1 = .ok (.iconst 1, 1) := by decide +kernel
theorem dX8_seen_2 : decode cX8_seen 2 = .ok (.bipush 15, 2) := by decide +kernel
theorem dX8_seen_4 : decode cX8_seen 4 = .ok (.invokestatic 62, 3) := by decide +kernel
theorem dX8_seen_7 : decode cX8_seen 7 = .ok (.ifCond .eq 21, 3) := by decide +kernel
theorem dX8_seen_10 : decode cX8_seen 10 = .ok (.iload_n 2, 1) := by decide +kernel
theorem dX8_seen_11 : decode cX8_seen 11 = .ok (.iconst 0, 1) := by decide +kernel
theorem dX8_seen_12 : decode cX8_seen 12 = .ok (.iconst 3, 1) := by decide +kernel
theorem dX8_seen_13 : decode cX8_seen 13 = .ok (.invokestatic 62, 3) := by decide +kernel
theorem dX8_seen_16 : decode cX8_seen 16 = .ok (.ifCond .eq 12, 3) := by decide +kernel
theorem dX8_seen_19 : decode cX8_seen 19 = .ok (.iload_n 3, 1) := by decide +kernel
theorem dX8_seen_20 : decode cX8_seen 20 = .ok (.iconst 0, 1) := by decide +kernel
theorem dX8_seen_21 : decode cX8_seen 21 = .ok (.iconst 3, 1) := by decide +kernel
theorem dX8_seen_22 : decode cX8_seen 22 = .ok (.invokestatic 62, 3) := by decide +kernel
theorem dX8_seen_25 : decode cX8_seen 25 = .ok (.ifCond .ne 6, 3) := by decide +kernel
theorem dX8_seen_28 : decode cX8_seen 28 = .ok (.bipush (-2), 2) := by decide +kernel
theorem dX8_seen_30 : decode cX8_seen 30 = .ok (.ireturn, 1) := by decide +kernel
theorem dX8_seen_31 : decode cX8_seen 31 = .ok (.aload_n 0, 1) := by decide +kernel
theorem dX8_seen_32 : decode cX8_seen 32 = .ok (.getfield 40, 3) := by decide +kernel
theorem dX8_seen_35 : decode cX8_seen 35 = .ok (.iload_n 1, 1) := by decide +kernel
theorem dX8_seen_36 : decode cX8_seen 36 = .ok (.iload_n 2, 1) := by decide +kernel
theorem dX8_seen_37 : decode cX8_seen 37 = .ok (.iload_n 3, 1) := by decide +kernel
theorem dX8_seen_38 : decode cX8_seen 38 = .ok (.invokevirtual 187, 3) := by decide +kernel
theorem dX8_seen_41 : decode cX8_seen 41 = .ok (.ifCond .eq 13, 3) := by decide +kernel
theorem dX8_seen_44 : decode cX8_seen 44 = .ok (.aload_n 0, 1) := by decide +kernel
theorem dX8_seen_45 : decode cX8_seen 45 = .ok (.getfield 40, 3) := by decide +kernel
theorem dX8_seen_48 : decode cX8_seen 48 = .ok (.getfield 189, 3) := by decide +kernel
theorem dX8_seen_51 : decode cX8_seen 51 = .ok (.goto 5, 3) := by decide +kernel
theorem dX8_seen_54 : decode cX8_seen 54 = .ok (.bipush (-4), 2) := by decide +kernel
theorem dX8_seen_56 : decode cX8_seen 56 = .ok (.ireturn, 1) := by decide +kernel
theorem dX8_forget_0 : decode cX8_forget 0 = .ok (.aload_n 0, 1) := by decide +kernel
theorem dX8_forget_1 : decode cX8_forget 1 = .ok (.getfield 40, 3) := by decide +kernel
theorem dX8_forget_4 : decode cX8_forget 4 = .ok (.getfield 189, 3) := by decide +kernel
theorem dX8_forget_7 : decode cX8_forget 7 = .ok (.istore_n 1, 1) := by decide +kernel
theorem dX8_forget_8 : decode cX8_forget 8 = .ok (.aload_n 0, 1) := by decide +kernel
theorem dX8_forget_9 : decode cX8_forget 9 = .ok (.getfield 40, 3) := by decide +kernel
theorem dX8_forget_12 : decode cX8_forget 12 = .ok (.iconst 0, 1) := by decide +kernel
theorem dX8_forget_13 : decode cX8_forget 13 = .ok (.putfield 189, 3) := by decide +kernel
theorem dX8_forget_16 : decode cX8_forget 16 = .ok (.iload_n 1, 1) := by decide +kernel
theorem dX8_forget_17 : decode cX8_forget 17 = .ok (.ireturn, 1) := by decide +kernel
set_option maxRecDepth 20000 in
theorem ggX8_nets_X2_findNets : GoodIn wsX8_nets wsX2_findNets := goodIn_r _ [8, 9, 10, 11, 12, 13, 14, 15, 16, 17, 18, 19, 20, 21, 7, 22, 23, 24, 25, 26, 27, 28, 29, 30, 31, 32, 44, 45, 46, 47, 48, 49, 50, 51, 52, 53] (by decide +kernel) (by decide +kernel)
set_option maxRecDepth 20000 in
theorem gX8_nets_X2_findNets : GoodIn wsX8_nets (wsV RX8 192 RX2 yX2_findNets wsX2_findNets) := goodIn_app (goodIn_of _ (by decide +kernel)) ggX8_nets_X2_findNets
set_option maxRecDepth 20000 in
theorem ggX8_nets_X2_figuresOfNet : GoodIn wsX8_nets wsX2_figuresOfNet := goodIn_r _ [36, 9, 10, 23, 24, 7, 25, 44, 45, 46, 47, 48, 49] (by decide +kernel) (by decide +kernel)
set_option maxRecDepth 20000 in
theorem gX8_nets_X2_figuresOfNet : GoodIn wsX8_nets (wsV RX8 199 RX2 yX2_figuresOfNet wsX2_figuresOfNet) := goodIn_app (goodIn_of _ (by decide +kernel)) ggX8_nets_X2_figuresOfNet
theorem dX8_nets_0 : decode cX8_nets 0 = .ok (.aload_n 0, 1) := by decide +kernel
theorem dX8_nets_1 : decode cX8_nets 1 = .ok (.getfield 47, 3) := by decide +kernel
theorem dX8_nets_4 : decode cX8_nets 4 = .ok (.aload_n 0, 1) := by decide +kernel
theorem dX8_nets_5 : decode cX8_nets 5 = .ok (.getfield 40, 3) := by decide +kernel
theorem dX8_nets_8 : decode cX8_nets 8 = .ok (.invokevirtual 192, 3) := by decide +kernel
theorem dX8_nets_11 : decode cX8_nets 11 = .ok (.iload_n 1, 1) := by decide +kernel
theorem dX8_nets_12 : decode cX8_nets 12 = .ok (.iconst (-1), 1) := by decide +kernel
theorem dX8_nets_13 : decode cX8_nets 13 = .ok (.if_icmp .ne 11, 3) := by decide +kernel
theorem dX8_nets_16 : decode cX8_nets 16 = .ok (.aload_n 0, 1) := by decide +kernel
theorem dX8_nets_17 : decode cX8_nets 17 = .ok (.getfield 47, 3) := by decide +kernel
theorem dX8_nets_20 : decode cX8_nets 20 = .ok (.getfield 196, 3) := by decide +kernel
theorem dX8_nets_23 : decode cX8_nets 23 = .ok (.ireturn, 1) := by decide +kernel
theorem dX8_nets_24 : decode cX8_nets 24 = .ok (.aload_n 0, 1) := by decide +kernel
theorem dX8_nets_25 : decode cX8_nets 25 = .ok (.getfield 47, 3) := by decide +kernel
theorem dX8_nets_28 : decode cX8_nets 28 = .ok (.iload_n 1, 1) := by decide +kernel
theorem dX8_nets_29 : decode cX8_nets 29 = .ok (.invokevirtual 199, 3) := by decide +kernel
theorem dX8_nets_32 : decode cX8_nets 32 = .ok (.ireturn, 1) := by decide +kernel
set_option maxRecDepth 20000 in
theorem ggX8_ask_X8_within : GoodIn wsX8_ask wsX8_within := goodIn_r _ [9] (by decide +kernel) (by decide +kernel)
set_option maxRecDepth 20000 in
theorem gX8_ask_X8_within : GoodIn wsX8_ask (va_wsS RX8 62 yX8_within wsX8_within) := goodIn_app (goodIn_of _ (by decide +kernel)) ggX8_ask_X8_within
set_option maxRecDepth 20000 in
theorem ggX8_ask_X2_findNets : GoodIn wsX8_ask wsX2_findNets := goodIn_r _ [14, 15, 16, 17, 18, 19, 20, 21, 22, 23, 24, 25, 26, 27, 13, 28, 29, 30, 31, 32, 33, 34, 35, 36, 37, 38, 68, 69, 70, 71, 72, 73, 74, 75, 76, 77] (by decide +kernel) (by decide +kernel)
set_option maxRecDepth 20000 in
theorem gX8_ask_X2_findNets : GoodIn wsX8_ask (wsV RX8 192 RX2 yX2_findNets wsX2_findNets) := goodIn_app (goodIn_of _ (by decide +kernel)) ggX8_ask_X2_findNets
set_option maxRecDepth 20000 in
theorem ggX8_ask_X2_findQuestion : GoodIn wsX8_ask wsX2_findQuestion := goodIn_r _ [42, 43, 44, 45, 46, 47, 13, 48, 49, 15, 16, 50, 27, 28, 29, 30, 31, 51, 52, 53, 54, 55, 56, 57, 58, 59, 60, 33, 34, 35, 36, 37, 38, 68, 69, 70, 71, 72, 73] (by decide +kernel) (by decide +kernel)
set_option maxRecDepth 20000 in
theorem gX8_ask_X2_findQuestion : GoodIn wsX8_ask (wsV RX8 202 RX2 yX2_findQuestion wsX2_findQuestion) := goodIn_app (goodIn_of _ (by decide +kernel)) ggX8_ask_X2_findQuestion
theorem dX8_ask_0 : decode cX8_ask 0 = .ok (.iload_n 1, 1) := by decide +kernel
theorem dX8_ask_1 : decode cX8_ask 1 = .ok (.iconst 0, 1) := by decide +kernel
theorem dX8_ask_2 : decode cX8_ask 2 = .ok (.iconst 1, 1) := by decide +kernel
theorem dX8_ask_3 : decode cX8_ask 3 = .ok (.invokestatic 62, 3) := by decide +kernel
theorem dX8_ask_6 : decode cX8_ask 6 = .ok (.ifCond .ne 6, 3) := by decide +kernel
theorem dX8_ask_9 : decode cX8_ask 9 = .ok (.bipush (-2), 2) := by decide +kernel
theorem dX8_ask_11 : decode cX8_ask 11 = .ok (.ireturn, 1) := by decide +kernel
theorem dX8_ask_12 : decode cX8_ask 12 = .ok (.aload_n 0, 1) := by decide +kernel
theorem dX8_ask_13 : decode cX8_ask 13 = .ok (.getfield 47, 3) := by decide +kernel
theorem dX8_ask_16 : decode cX8_ask 16 = .ok (.aload_n 0, 1) := by decide +kernel
theorem dX8_ask_17 : decode cX8_ask 17 = .ok (.getfield 40, 3) := by decide +kernel
theorem dX8_ask_20 : decode cX8_ask 20 = .ok (.invokevirtual 192, 3) := by decide +kernel
theorem dX8_ask_23 : decode cX8_ask 23 = .ok (.aload_n 0, 1) := by decide +kernel
theorem dX8_ask_24 : decode cX8_ask 24 = .ok (.getfield 47, 3) := by decide +kernel
theorem dX8_ask_27 : decode cX8_ask 27 = .ok (.getfield 196, 3) := by decide +kernel
theorem dX8_ask_30 : decode cX8_ask 30 = .ok (.ifCond .ne 6, 3) := by decide +kernel
theorem dX8_ask_33 : decode cX8_ask 33 = .ok (.bipush (-6), 2) := by decide +kernel
theorem dX8_ask_35 : decode cX8_ask 35 = .ok (.ireturn, 1) := by decide +kernel
theorem dX8_ask_36 : decode cX8_ask 36 = .ok (.aload_n 0, 1) := by decide +kernel
theorem dX8_ask_37 : decode cX8_ask 37 = .ok (.getfield 47, 3) := by decide +kernel
theorem dX8_ask_40 : decode cX8_ask 40 = .ok (.invokevirtual 202, 3) := by decide +kernel
theorem dX8_ask_43 : decode cX8_ask 43 = .ok (.iload_n 1, 1) := by decide +kernel
theorem dX8_ask_44 : decode cX8_ask 44 = .ok (.ifCond .ne 13, 3) := by decide +kernel
theorem dX8_ask_47 : decode cX8_ask 47 = .ok (.aload_n 0, 1) := by decide +kernel
theorem dX8_ask_48 : decode cX8_ask 48 = .ok (.getfield 47, 3) := by decide +kernel
theorem dX8_ask_51 : decode cX8_ask 51 = .ok (.getfield 205, 3) := by decide +kernel
theorem dX8_ask_54 : decode cX8_ask 54 = .ok (.goto 10, 3) := by decide +kernel
theorem dX8_ask_57 : decode cX8_ask 57 = .ok (.aload_n 0, 1) := by decide +kernel
theorem dX8_ask_58 : decode cX8_ask 58 = .ok (.getfield 47, 3) := by decide +kernel
theorem dX8_ask_61 : decode cX8_ask 61 = .ok (.getfield 208, 3) := by decide +kernel
theorem dX8_ask_64 : decode cX8_ask 64 = .ok (.ireturn, 1) := by decide +kernel
set_option maxRecDepth 20000 in
theorem ggX8_roots_X8_within : GoodIn wsX8_roots wsX8_within := goodIn_r _ [4] (by decide +kernel) (by decide +kernel)
set_option maxRecDepth 20000 in
theorem gX8_roots_X8_within : GoodIn wsX8_roots (va_wsS RX8 62 yX8_within wsX8_within) := goodIn_app (goodIn_of _ (by decide +kernel)) ggX8_roots_X8_within
set_option maxRecDepth 20000 in
theorem ggX8_roots_X8_lastLosingHeap : GoodIn wsX8_roots wsX8_lastLosingHeap := goodIn_r _ [7] (by decide +kernel) (by decide +kernel)
set_option maxRecDepth 20000 in
theorem gX8_roots_X8_lastLosingHeap : GoodIn wsX8_roots (va_wsS RX8 211 yX8_lastLosingHeap wsX8_lastLosingHeap) := goodIn_app (goodIn_of _ (by decide +kernel)) ggX8_roots_X8_lastLosingHeap
theorem dX8_roots_0 : decode cX8_roots 0 = .ok (.iload_n 1, 1) := by decide +kernel
theorem dX8_roots_1 : decode cX8_roots 1 = .ok (.iconst 0, 1) := by decide +kernel
theorem dX8_roots_2 : decode cX8_roots 2 = .ok (.sipush 999, 3) := by decide +kernel
theorem dX8_roots_5 : decode cX8_roots 5 = .ok (.invokestatic 62, 3) := by decide +kernel
theorem dX8_roots_8 : decode cX8_roots 8 = .ok (.ifCond .eq 12, 3) := by decide +kernel
theorem dX8_roots_11 : decode cX8_roots 11 = .ok (.iload_n 2, 1) := by decide +kernel
theorem dX8_roots_12 : decode cX8_roots 12 = .ok (.iconst 0, 1) := by decide +kernel
theorem dX8_roots_13 : decode cX8_roots 13 = .ok (.iconst 1, 1) := by decide +kernel
theorem dX8_roots_14 : decode cX8_roots 14 = .ok (.invokestatic 62, 3) := by decide +kernel
theorem dX8_roots_17 : decode cX8_roots 17 = .ok (.ifCond .ne 6, 3) := by decide +kernel
theorem dX8_roots_20 : decode cX8_roots 20 = .ok (.bipush (-2), 2) := by decide +kernel
theorem dX8_roots_22 : decode cX8_roots 22 = .ok (.ireturn, 1) := by decide +kernel
theorem dX8_roots_23 : decode cX8_roots 23 = .ok (.iload_n 1, 1) := by decide +kernel
theorem dX8_roots_24 : decode cX8_roots 24 = .ok (.iload_n 1, 1) := by decide +kernel
theorem dX8_roots_25 : decode cX8_roots 25 = .ok (.invokestatic 211, 3) := by decide +kernel
theorem dX8_roots_28 : decode cX8_roots 28 = .ok (.isub, 1) := by decide +kernel
theorem dX8_roots_29 : decode cX8_roots 29 = .ok (.istore_n 3, 1) := by decide +kernel
theorem dX8_roots_30 : decode cX8_roots 30 = .ok (.iload_n 2, 1) := by decide +kernel
theorem dX8_roots_31 : decode cX8_roots 31 = .ok (.ifCond .ne 13, 3) := by decide +kernel
theorem dX8_roots_34 : decode cX8_roots 34 = .ok (.iload_n 3, 1) := by decide +kernel
theorem dX8_roots_35 : decode cX8_roots 35 = .ok (.ifCond .le 7, 3) := by decide +kernel
theorem dX8_roots_38 : decode cX8_roots 38 = .ok (.iconst 1, 1) := by decide +kernel
theorem dX8_roots_39 : decode cX8_roots 39 = .ok (.goto 4, 3) := by decide +kernel
theorem dX8_roots_42 : decode cX8_roots 42 = .ok (.iconst 0, 1) := by decide +kernel
theorem dX8_roots_43 : decode cX8_roots 43 = .ok (.ireturn, 1) := by decide +kernel
theorem dX8_roots_44 : decode cX8_roots 44 = .ok (.iload_n 3, 1) := by decide +kernel
theorem dX8_roots_45 : decode cX8_roots 45 = .ok (.ifCond .le 7, 3) := by decide +kernel
theorem dX8_roots_48 : decode cX8_roots 48 = .ok (.iload_n 3, 1) := by decide +kernel
theorem dX8_roots_49 : decode cX8_roots 49 = .ok (.goto 5, 3) := by decide +kernel
theorem dX8_roots_52 : decode cX8_roots 52 = .ok (.bipush (-6), 2) := by decide +kernel
theorem dX8_roots_54 : decode cX8_roots 54 = .ok (.ireturn, 1) := by decide +kernel
theorem dX8_lastLosingHeap_0 : decode cX8_lastLosingHeap 0 = .ok (.iconst 0, 1) := by decide +kernel
theorem dX8_lastLosingHeap_1 : decode cX8_lastLosingHeap 1 = .ok (.istore_n 1, 1) := by decide +kernel
theorem dX8_lastLosingHeap_2 : decode cX8_lastLosingHeap 2 = .ok (.iconst 0, 1) := by decide +kernel
theorem dX8_lastLosingHeap_3 : decode cX8_lastLosingHeap 3 = .ok (.istore_n 2, 1) := by decide +kernel
theorem dX8_lastLosingHeap_4 : decode cX8_lastLosingHeap 4 = .ok (.iconst 1, 1) := by decide +kernel
theorem dX8_lastLosingHeap_5 : decode cX8_lastLosingHeap 5 = .ok (.istore_n 3, 1) := by decide +kernel
theorem dX8_lastLosingHeap_6 : decode cX8_lastLosingHeap 6 = .ok (.iload_n 3, 1) := by decide +kernel
theorem dX8_lastLosingHeap_7 : decode cX8_lastLosingHeap 7 = .ok (.iload_n 0, 1) := by decide +kernel
theorem dX8_lastLosingHeap_8 : decode cX8_lastLosingHeap 8 = .ok (.if_icmp .gt 32, 3) := by decide +kernel
theorem dX8_lastLosingHeap_11 : decode cX8_lastLosingHeap 11 = .ok (.iload_n 2, 1) := by decide +kernel
theorem dX8_lastLosingHeap_12 : decode cX8_lastLosingHeap 12 = .ok (.iconst 1, 1) := by decide +kernel
theorem dX8_lastLosingHeap_13 : decode cX8_lastLosingHeap 13 = .ok (.iadd, 1) := by decide +kernel
theorem dX8_lastLosingHeap_14 : decode cX8_lastLosingHeap 14 = .ok (.iload_n 2, 1) := by decide +kernel
theorem dX8_lastLosingHeap_15 : decode cX8_lastLosingHeap 15 = .ok (.iconst 1, 1) := by decide +kernel
theorem dX8_lastLosingHeap_16 : decode cX8_lastLosingHeap 16 = .ok (.iadd, 1) := by decide +kernel
theorem dX8_lastLosingHeap_17 : decode cX8_lastLosingHeap 17 = .ok (.imul, 1) := by decide +kernel
theorem dX8_lastLosingHeap_18 : decode cX8_lastLosingHeap 18 = .ok (.iload_n 3, 1) := by decide +kernel
theorem dX8_lastLosingHeap_19 : decode cX8_lastLosingHeap 19 = .ok (.if_icmp .gt 6, 3) := by decide +kernel
theorem dX8_lastLosingHeap_22 : decode cX8_lastLosingHeap 22 = .ok (.iinc 2 1, 3) := by decide +kernel
theorem dX8_lastLosingHeap_25 : decode cX8_lastLosingHeap 25 = .ok (.iload_n 3, 1) := by decide +kernel
theorem dX8_lastLosingHeap_26 : decode cX8_lastLosingHeap 26 = .ok (.iload_n 2, 1) := by decide +kernel
theorem dX8_lastLosingHeap_27 : decode cX8_lastLosingHeap 27 = .ok (.isub, 1) := by decide +kernel
theorem dX8_lastLosingHeap_28 : decode cX8_lastLosingHeap 28 = .ok (.iload_n 1, 1) := by decide +kernel
theorem dX8_lastLosingHeap_29 : decode cX8_lastLosingHeap 29 = .ok (.if_icmp .le 5, 3) := by decide +kernel
theorem dX8_lastLosingHeap_32 : decode cX8_lastLosingHeap 32 = .ok (.iload_n 3, 1) := by decide +kernel
theorem dX8_lastLosingHeap_33 : decode cX8_lastLosingHeap 33 = .ok (.istore_n 1, 1) := by decide +kernel
theorem dX8_lastLosingHeap_34 : decode cX8_lastLosingHeap 34 = .ok (.iinc 3 1, 3) := by decide +kernel
theorem dX8_lastLosingHeap_37 : decode cX8_lastLosingHeap 37 = .ok (.goto (-31), 3) := by decide +kernel
theorem dX8_lastLosingHeap_40 : decode cX8_lastLosingHeap 40 = .ok (.iload_n 1, 1) := by decide +kernel
theorem dX8_lastLosingHeap_41 : decode cX8_lastLosingHeap 41 = .ok (.ireturn, 1) := by decide +kernel
set_option maxRecDepth 20000 in
theorem ggX8_thought_X8_within : GoodIn wsX8_thought wsX8_within := goodIn_r _ [9] (by decide +kernel) (by decide +kernel)
set_option maxRecDepth 20000 in
theorem gX8_thought_X8_within : GoodIn wsX8_thought (va_wsS RX8 62 yX8_within wsX8_within) := goodIn_app (goodIn_of _ (by decide +kernel)) ggX8_thought_X8_within
set_option maxRecDepth 20000 in
theorem ggX8_thought_X8_power : GoodIn wsX8_thought wsX8_power := goodIn_r _ [12] (by decide +kernel) (by decide +kernel)
set_option maxRecDepth 20000 in
theorem gX8_thought_X8_power : GoodIn wsX8_thought (va_wsS RX8 216 yX8_power wsX8_power) := goodIn_app (goodIn_of _ (by decide +kernel)) ggX8_thought_X8_power
set_option maxRecDepth 20000 in
theorem ggX8_thought_X8_choices : GoodIn wsX8_thought wsX8_choices := goodIn_r _ [15] (by decide +kernel) (by decide +kernel)
set_option maxRecDepth 20000 in
theorem gX8_thought_X8_choices : GoodIn wsX8_thought (va_wsS RX8 220 yX8_choices wsX8_choices) := goodIn_app (goodIn_of _ (by decide +kernel)) ggX8_thought_X8_choices
set_option maxRecDepth 20000 in
theorem ggX8_thought_X8_derangements : GoodIn wsX8_thought wsX8_derangements := goodIn_r _ [18] (by decide +kernel) (by decide +kernel)
set_option maxRecDepth 20000 in
theorem gX8_thought_X8_derangements : GoodIn wsX8_thought (va_wsS RX8 224 yX8_derangements wsX8_derangements) := goodIn_app (goodIn_of _ (by decide +kernel)) ggX8_thought_X8_derangements
set_option maxRecDepth 20000 in
theorem ggX8_thought_X8_commonDivisor : GoodIn wsX8_thought wsX8_commonDivisor := goodIn_r _ [21] (by decide +kernel) (by decide +kernel)
set_option maxRecDepth 20000 in
theorem gX8_thought_X8_commonDivisor : GoodIn wsX8_thought (va_wsS RX8 228 yX8_commonDivisor wsX8_commonDivisor) := goodIn_app (goodIn_of _ (by decide +kernel)) ggX8_thought_X8_commonDivisor
theorem dX8_thought_0 : decode cX8_thought 0 = .ok (.iload_n 1, 1) := by decide +kernel
theorem dX8_thought_1 : decode cX8_thought 1 = .ok (.iconst 2, 1) := by decide +kernel
theorem dX8_thought_2 : decode cX8_thought 2 = .ok (.bipush 12, 2) := by decide +kernel
theorem dX8_thought_4 : decode cX8_thought 4 = .ok (.invokestatic 62, 3) := by decide +kernel
theorem dX8_thought_7 : decode cX8_thought 7 = .ok (.ifCond .eq 33, 3) := by decide +kernel
theorem dX8_thought_10 : decode cX8_thought 10 = .ok (.iload_n 2, 1) := by decide +kernel
theorem dX8_thought_11 : decode cX8_thought 11 = .ok (.iconst 0, 1) := by decide +kernel
theorem dX8_thought_12 : decode cX8_thought 12 = .ok (.iload_n 1, 1) := by decide +kernel
theorem dX8_thought_13 : decode cX8_thought 13 = .ok (.iconst 1, 1) := by decide +kernel
theorem dX8_thought_14 : decode cX8_thought 14 = .ok (.isub, 1) := by decide +kernel
theorem dX8_thought_15 : decode cX8_thought 15 = .ok (.invokestatic 62, 3) := by decide +kernel
theorem dX8_thought_18 : decode cX8_thought 18 = .ok (.ifCond .eq 22, 3) := by decide +kernel
theorem dX8_thought_21 : decode cX8_thought 21 = .ok (.iload_n 3, 1) := by decide +kernel
theorem dX8_thought_22 : decode cX8_thought 22 = .ok (.iconst 0, 1) := by decide +kernel
theorem dX8_thought_23 : decode cX8_thought 23 = .ok (.iconst 2, 1) := by decide +kernel
theorem dX8_thought_24 : decode cX8_thought 24 = .ok (.invokestatic 62, 3) := by decide +kernel
theorem dX8_thought_27 : decode cX8_thought 27 = .ok (.ifCond .eq 13, 3) := by decide +kernel
theorem dX8_thought_30 : decode cX8_thought 30 = .ok (.iload 4, 2) := by decide +kernel
theorem dX8_thought_32 : decode cX8_thought 32 = .ok (.iconst 0, 1) := by decide +kernel
theorem dX8_thought_33 : decode cX8_thought 33 = .ok (.iconst 1, 1) := by decide +kernel
theorem dX8_thought_34 : decode cX8_thought 34 = .ok (.invokestatic 62, 3) := by decide +kernel
theorem dX8_thought_37 : decode cX8_thought 37 = .ok (.ifCond .ne 7, 3) := by decide +kernel
theorem dX8_thought_40 : decode cX8_thought 40 = .ok (.ldc2_w 214, 3) := by decide +kernel
theorem dX8_thought_43 : decode cX8_thought 43 = .ok (.lreturn, 1) := by decide +kernel
theorem dX8_thought_44 : decode cX8_thought 44 = .ok (.lconst 1, 1) := by decide +kernel
theorem dX8_thought_45 : decode cX8_thought 45 = .ok (.lstore 5, 2) := by decide +kernel
theorem dX8_thought_47 : decode cX8_thought 47 = .ok (.iload_n 1, 1) := by decide +kernel
theorem dX8_thought_48 : decode cX8_thought 48 = .ok (.iconst 1, 1) := by decide +kernel
theorem dX8_thought_49 : decode cX8_thought 49 = .ok (.isub, 1) := by decide +kernel
theorem dX8_thought_50 : decode cX8_thought 50 = .ok (.i2l, 1) := by decide +kernel
theorem dX8_thought_51 : decode cX8_thought 51 = .ok (.iconst 2, 1) := by decide +kernel
theorem dX8_thought_52 : decode cX8_thought 52 = .ok (.invokestatic 216, 3) := by decide +kernel
theorem dX8_thought_55 : decode cX8_thought 55 = .ok (.lstore 7, 2) := by decide +kernel
theorem dX8_thought_57 : decode cX8_thought 57 = .ok (.iload_n 3, 1) := by decide +kernel
theorem dX8_thought_58 : decode cX8_thought 58 = .ok (.ifCond .ne 40, 3) := by decide +kernel
theorem dX8_thought_61 : decode cX8_thought 61 = .ok (.iload_n 1, 1) := by decide +kernel
theorem dX8_thought_62 : decode cX8_thought 62 = .ok (.iconst 1, 1) := by decide +kernel
theorem dX8_thought_63 : decode cX8_thought 63 = .ok (.isub, 1) := by decide +kernel
theorem dX8_thought_64 : decode cX8_thought 64 = .ok (.iload_n 2, 1) := by decide +kernel
theorem dX8_thought_65 : decode cX8_thought 65 = .ok (.invokestatic 220, 3) := by decide +kernel
theorem dX8_thought_68 : decode cX8_thought 68 = .ok (.iload_n 1, 1) := by decide +kernel
theorem dX8_thought_69 : decode cX8_thought 69 = .ok (.iconst 2, 1) := by decide +kernel
theorem dX8_thought_70 : decode cX8_thought 70 = .ok (.isub, 1) := by decide +kernel
theorem dX8_thought_71 : decode cX8_thought 71 = .ok (.i2l, 1) := by decide +kernel
theorem dX8_thought_72 : decode cX8_thought 72 = .ok (.iload_n 1, 1) := by decide +kernel
theorem dX8_thought_73 : decode cX8_thought 73 = .ok (.iconst 1, 1) := by decide +kernel
theorem dX8_thought_74 : decode cX8_thought 74 = .ok (.isub, 1) := by decide +kernel
theorem dX8_thought_75 : decode cX8_thought 75 = .ok (.iload_n 2, 1) := by decide +kernel
theorem dX8_thought_76 : decode cX8_thought 76 = .ok (.isub, 1) := by decide +kernel
theorem dX8_thought_77 : decode cX8_thought 77 = .ok (.invokestatic 216, 3) := by decide +kernel
theorem dX8_thought_80 : decode cX8_thought 80 = .ok (.lmul, 1) := by decide +kernel
theorem dX8_thought_81 : decode cX8_thought 81 = .ok (.lstore 5, 2) := by decide +kernel
theorem dX8_thought_83 : decode cX8_thought 83 = .ok (.iload_n 1, 1) := by decide +kernel
theorem dX8_thought_84 : decode cX8_thought 84 = .ok (.iconst 1, 1) := by decide +kernel
theorem dX8_thought_85 : decode cX8_thought 85 = .ok (.isub, 1) := by decide +kernel
theorem dX8_thought_86 : decode cX8_thought 86 = .ok (.i2l, 1) := by decide +kernel
theorem dX8_thought_87 : decode cX8_thought 87 = .ok (.iload_n 1, 1) := by decide +kernel
theorem dX8_thought_88 : decode cX8_thought 88 = .ok (.iconst 1, 1) := by decide +kernel
theorem dX8_thought_89 : decode cX8_thought 89 = .ok (.isub, 1) := by decide +kernel
theorem dX8_thought_90 : decode cX8_thought 90 = .ok (.invokestatic 216, 3) := by decide +kernel
theorem dX8_thought_93 : decode cX8_thought 93 = .ok (.lstore 7, 2) := by decide +kernel
theorem dX8_thought_95 : decode cX8_thought 95 = .ok (.goto 24, 3) := by decide +kernel
theorem dX8_thought_98 : decode cX8_thought 98 = .ok (.iload_n 3, 1) := by decide +kernel
theorem dX8_thought_99 : decode cX8_thought 99 = .ok (.iconst 2, 1) := by decide +kernel
theorem dX8_thought_100 : decode cX8_thought 100 = .ok (.if_icmp .ne 19, 3) := by decide +kernel
theorem dX8_thought_103 : decode cX8_thought 103 = .ok (.iload_n 1, 1) := by decide +kernel
theorem dX8_thought_104 : decode cX8_thought 104 = .ok (.invokestatic 224, 3) := by decide +kernel
theorem dX8_thought_107 : decode cX8_thought 107 = .ok (.lstore 5, 2) := by decide +kernel
theorem dX8_thought_109 : decode cX8_thought 109 = .ok (.iload_n 1, 1) := by decide +kernel
theorem dX8_thought_110 : decode cX8_thought 110 = .ok (.iconst 1, 1) := by decide +kernel
theorem dX8_thought_111 : decode cX8_thought 111 = .ok (.isub, 1) := by decide +kernel
theorem dX8_thought_112 : decode cX8_thought 112 = .ok (.i2l, 1) := by decide +kernel
theorem dX8_thought_113 : decode cX8_thought 113 = .ok (.iload_n 1, 1) := by decide +kernel
theorem dX8_thought_114 : decode cX8_thought 114 = .ok (.invokestatic 216, 3) := by decide +kernel
theorem dX8_thought_117 : decode cX8_thought 117 = .ok (.lstore 7, 2) := by decide +kernel
theorem dX8_thought_119 : decode cX8_thought 119 = .ok (.lconst 1, 1) := by decide +kernel
theorem dX8_thought_120 : decode cX8_thought 120 = .ok (.lload 5, 2) := by decide +kernel
theorem dX8_thought_122 : decode cX8_thought 122 = .ok (.lload 7, 2) := by decide +kernel
theorem dX8_thought_124 : decode cX8_thought 124 = .ok (.invokestatic 228, 3) := by decide +kernel
theorem dX8_thought_127 : decode cX8_thought 127 = .ok (.invokestatic 232, 3) := by decide +kernel
theorem dX8_thought_130 : decode cX8_thought 130 = .ok (.lstore 9, 2) := by decide +kernel
theorem dX8_thought_132 : decode cX8_thought 132 = .ok (.iload 4, 2) := by decide +kernel
theorem dX8_thought_134 : decode cX8_thought 134 = .ok (.ifCond .ne 8, 3) := by decide +kernel
theorem dX8_thought_137 : decode cX8_thought 137 = .ok (.lload 5, 2) := by decide +kernel
theorem dX8_thought_139 : decode cX8_thought 139 = .ok (.goto 5, 3) := by decide +kernel
theorem dX8_thought_142 : decode cX8_thought 142 = .ok (.lload 7, 2) := by decide +kernel
theorem dX8_thought_144 : decode cX8_thought 144 = .ok (.lload 9, 2) := by decide +kernel
theorem dX8_thought_146 : decode cX8_thought 146 = .ok (.ldiv, 1) := by decide +kernel
theorem dX8_thought_147 : decode cX8_thought 147 = .ok (.lreturn, 1) := by decide +kernel
theorem dX8_power_0 : decode cX8_power 0 = .ok (.lconst 1, 1) := by decide +kernel
theorem dX8_power_1 : decode cX8_power 1 = .ok (.lstore_n 3, 1) := by decide +kernel
theorem dX8_power_2 : decode cX8_power 2 = .ok (.iconst 0, 1) := by decide +kernel
theorem dX8_power_3 : decode cX8_power 3 = .ok (.istore 5, 2) := by decide +kernel
theorem dX8_power_5 : decode cX8_power 5 = .ok (.iload 5, 2) := by decide +kernel
theorem dX8_power_7 : decode cX8_power 7 = .ok (.iload_n 2, 1) := by decide +kernel
theorem dX8_power_8 : decode cX8_power 8 = .ok (.if_icmp .ge 13, 3) := by decide +kernel
theorem dX8_power_11 : decode cX8_power 11 = .ok (.lload_n 3, 1) := by decide +kernel
theorem dX8_power_12 : decode cX8_power 12 = .ok (.lload_n 0, 1) := by decide +kernel
theorem dX8_power_13 : decode cX8_power 13 = .ok (.lmul, 1) := by decide +kernel
theorem dX8_power_14 : decode cX8_power 14 = .ok (.lstore_n 3, 1) := by decide +kernel
theorem dX8_power_15 : decode cX8_power 15 = .ok (.iinc 5 1, 3) := by decide +kernel
theorem dX8_power_18 : decode cX8_power 18 = .ok (.goto (-13), 3) := by decide +kernel
theorem dX8_power_21 : decode cX8_power 21 = .ok (.lload_n 3, 1) := by decide +kernel
theorem dX8_power_22 : decode cX8_power 22 = .ok (.lreturn, 1) := by decide +kernel
theorem dX8_choices_0 : decode cX8_choices 0 = .ok (.lconst 1, 1) := by decide +kernel
theorem dX8_choices_1 : decode cX8_choices 1 = .ok (.lstore_n 2, 1) := by decide +kernel
theorem dX8_choices_2 : decode cX8_choices 2 = .ok (.iconst 1, 1) := by decide +kernel
theorem dX8_choices_3 : decode cX8_choices 3 = .ok (.istore 4, 2) := by decide +kernel
theorem dX8_choices_5 : decode cX8_choices 5 = .ok (.iload 4, 2) := by decide +kernel
theorem dX8_choices_7 : decode cX8_choices 7 = .ok (.iload_n 1, 1) := by decide +kernel
theorem dX8_choices_8 : decode cX8_choices 8 = .ok (.if_icmp .gt 23, 3) := by decide +kernel
theorem dX8_choices_11 : decode cX8_choices 11 = .ok (.lload_n 2, 1) := by decide +kernel
theorem dX8_choices_12 : decode cX8_choices 12 = .ok (.iload_n 0, 1) := by decide +kernel
theorem dX8_choices_13 : decode cX8_choices 13 = .ok (.iload_n 1, 1) := by decide +kernel
theorem dX8_choices_14 : decode cX8_choices 14 = .ok (.isub, 1) := by decide +kernel
theorem dX8_choices_15 : decode cX8_choices 15 = .ok (.iload 4, 2) := by decide +kernel
theorem dX8_choices_17 : decode cX8_choices 17 = .ok (.iadd, 1) := by decide +kernel
theorem dX8_choices_18 : decode cX8_choices 18 = .ok (.i2l, 1) := by decide +kernel
theorem dX8_choices_19 : decode cX8_choices 19 = .ok (.lmul, 1) := by decide +kernel
theorem dX8_choices_20 : decode cX8_choices 20 = .ok (.iload 4, 2) := by decide +kernel
theorem dX8_choices_22 : decode cX8_choices 22 = .ok (.i2l, 1) := by decide +kernel
theorem dX8_choices_23 : decode cX8_choices 23 = .ok (.ldiv, 1) := by decide +kernel
theorem dX8_choices_24 : decode cX8_choices 24 = .ok (.lstore_n 2, 1) := by decide +kernel
theorem dX8_choices_25 : decode cX8_choices 25 = .ok (.iinc 4 1, 3) := by decide +kernel
theorem dX8_choices_28 : decode cX8_choices 28 = .ok (.goto (-23), 3) := by decide +kernel
theorem dX8_choices_31 : decode cX8_choices 31 = .ok (.lload_n 2, 1) := by decide +kernel
theorem dX8_choices_32 : decode cX8_choices 32 = .ok (.lreturn, 1) := by decide +kernel
theorem dX8_derangements_0 : decode cX8_derangements 0 = .ok (.lconst 1, 1) := by decide +kernel
theorem dX8_derangements_1 : decode cX8_derangements 1 = .ok (.lstore_n 1, 1) := by decide +kernel
theorem dX8_derangements_2 : decode cX8_derangements 2 = .ok (.lconst 0, 1) := by decide +kernel
theorem dX8_derangements_3 : decode cX8_derangements 3 = .ok (.lstore_n 3, 1) := by decide +kernel
theorem dX8_derangements_4 : decode cX8_derangements 4 = .ok (.iconst 2, 1) := by decide +kernel
theorem dX8_derangements_5 : decode cX8_derangements 5 = .ok (.istore 5, 2) := by decide +kernel
theorem dX8_derangements_7 : decode cX8_derangements 7 = .ok (.iload 5, 2) := by decide +kernel
theorem dX8_derangements_9 : decode cX8_derangements 9 = .ok (.iload_n 0, 1) := by decide +kernel
theorem dX8_derangements_10 : decode cX8_derangements 10 = .ok (.if_icmp .gt 25, 3) := by decide +kernel
theorem dX8_derangements_13 : decode cX8_derangements 13 = .ok (.iload 5, 2) := by decide +kernel
theorem dX8_derangements_15 : decode cX8_derangements 15 = .ok (.iconst 1, 1) := by decide +kernel
theorem dX8_derangements_16 : decode cX8_derangements 16 = .ok (.isub, 1) := by decide +kernel
theorem dX8_derangements_17 : decode cX8_derangements 17 = .ok (.i2l, 1) := by decide +kernel
theorem dX8_derangements_18 : decode cX8_derangements 18 = .ok (.lload_n 3, 1) := by decide +kernel
theorem dX8_derangements_19 : decode cX8_derangements 19 = .ok (.lload_n 1, 1) := by decide +kernel
theorem dX8_derangements_20 : decode cX8_derangements 20 = .ok (.ladd, 1) := by decide +kernel
theorem dX8_derangements_21 : decode cX8_derangements 21 = .ok (.lmul, 1) := by decide +kernel
theorem dX8_derangements_22 : decode cX8_derangements 22 = .ok (.lstore 6, 2) := by decide +kernel
theorem dX8_derangements_24 : decode cX8_derangements 24 = .ok (.lload_n 3, 1) := by decide +kernel
theorem dX8_derangements_25 : decode cX8_derangements 25 = .ok (.lstore_n 1, 1) := by decide +kernel
theorem dX8_derangements_26 : decode cX8_derangements 26 = .ok (.lload 6, 2) := by decide +kernel
theorem dX8_derangements_28 : decode cX8_derangements 28 = .ok (.lstore_n 3, 1) := by decide +kernel
theorem dX8_derangements_29 : decode cX8_derangements 29 = .ok (.iinc 5 1, 3) := by decide +kernel
theorem dX8_derangements_32 : decode cX8_derangements 32 = .ok (.goto (-25), 3) := by decide +kernel
theorem dX8_derangements_35 : decode cX8_derangements 35 = .ok (.lload_n 3, 1) := by decide +kernel
theorem dX8_derangements_36 : decode cX8_derangements 36 = .ok (.lreturn, 1) := by decide +kernel
theorem dX8_commonDivisor_0 : decode cX8_commonDivisor 0 = .ok (.lload_n 0, 1) := by decide +kernel
theorem dX8_commonDivisor_1 : decode cX8_commonDivisor 1 = .ok (.lstore 4, 2) := by decide +kernel
theorem dX8_commonDivisor_3 : decode cX8_commonDivisor 3 = .ok (.lload_n 2, 1) := by decide +kernel
theorem dX8_commonDivisor_4 : decode cX8_commonDivisor 4 = .ok (.lstore 6, 2) := by decide +kernel
theorem dX8_commonDivisor_6 : decode cX8_commonDivisor 6 = .ok (.iconst 0, 1) := by decide +kernel
theorem dX8_commonDivisor_7 : decode cX8_commonDivisor 7 = .ok (.istore 8, 2) := by decide +kernel
theorem dX8_commonDivisor_9 : decode cX8_commonDivisor 9 = .ok (.iload 8, 2) := by decide +kernel
theorem dX8_commonDivisor_11 : decode cX8_commonDivisor 11 = .ok (.sipush 200, 3) := by decide +kernel
theorem dX8_commonDivisor_14 : decode cX8_commonDivisor 14 = .ok (.if_icmp .ge 31, 3) := by decide +kernel
theorem dX8_commonDivisor_17 : decode cX8_commonDivisor 17 = .ok (.lload 6, 2) := by decide +kernel
theorem dX8_commonDivisor_19 : decode cX8_commonDivisor 19 = .ok (.lconst 0, 1) := by decide +kernel
theorem dX8_commonDivisor_20 : decode cX8_commonDivisor 20 = .ok (.lcmp, 1) := by decide +kernel
theorem dX8_commonDivisor_21 : decode cX8_commonDivisor 21 = .ok (.ifCond .eq 24, 3) := by decide +kernel
theorem dX8_commonDivisor_24 : decode cX8_commonDivisor 24 = .ok (.lload 4, 2) := by decide +kernel
theorem dX8_commonDivisor_26 : decode cX8_commonDivisor 26 = .ok (.lload 6, 2) := by decide +kernel
theorem dX8_commonDivisor_28 : decode cX8_commonDivisor 28 = .ok (.lrem, 1) := by decide +kernel
theorem dX8_commonDivisor_29 : decode cX8_commonDivisor 29 = .ok (.lstore 9, 2) := by decide +kernel
theorem dX8_commonDivisor_31 : decode cX8_commonDivisor 31 = .ok (.lload 6, 2) := by decide +kernel
theorem dX8_commonDivisor_33 : decode cX8_commonDivisor 33 = .ok (.lstore 4, 2) := by decide +kernel
theorem dX8_commonDivisor_35 : decode cX8_commonDivisor 35 = .ok (.lload 9, 2) := by decide +kernel
theorem dX8_commonDivisor_37 : decode cX8_commonDivisor 37 = .ok (.lstore 6, 2) := by decide +kernel
theorem dX8_commonDivisor_39 : decode cX8_commonDivisor 39 = .ok (.iinc 8 1, 3) := by decide +kernel
theorem dX8_commonDivisor_42 : decode cX8_commonDivisor 42 = .ok (.goto (-33), 3) := by decide +kernel
theorem dX8_commonDivisor_45 : decode cX8_commonDivisor 45 = .ok (.lload 4, 2) := by decide +kernel
theorem dX8_commonDivisor_47 : decode cX8_commonDivisor 47 = .ok (.lreturn, 1) := by decide +kernel
set_option maxRecDepth 20000 in
theorem ggX8_storm_X8_within : GoodIn wsX8_storm wsX8_within := goodIn_r _ [8] (by decide +kernel) (by decide +kernel)
set_option maxRecDepth 20000 in
theorem gX8_storm_X8_within : GoodIn wsX8_storm (va_wsS RX8 62 yX8_within wsX8_within) := goodIn_app (goodIn_of _ (by decide +kernel)) ggX8_storm_X8_within
set_option maxRecDepth 20000 in
theorem ggX8_storm_X3_startFrom : GoodIn wsX8_storm wsX3_startFrom := goodIn_r _ [13, 14, 15, 16, 17, 18, 19, 20, 21, 22, 23, 24, 25, 26, 27, 28, 29, 30, 31, 32, 33, 34, 35, 36, 37, 38, 39, 40, 149, 150, 151, 152, 153, 154, 155, 156, 157, 158, 159, 160, 161, 162, 163, 164, 165, 166, 167] (by decide +kernel) (by decide +kernel)
set_option maxRecDepth 20000 in
theorem gX8_storm_X3_startFrom : GoodIn wsX8_storm (wsV RX8 160 RX3 yX3_startFrom wsX3_startFrom) := goodIn_app (goodIn_of _ (by decide +kernel)) ggX8_storm_X3_startFrom
set_option maxRecDepth 20000 in
theorem ggX8_storm_X3_followDraws : GoodIn wsX8_storm wsX3_followDraws := goodIn_r _ [44, 45, 46, 47, 48, 49, 50, 51, 52, 53, 54, 55, 56, 57, 58, 59, 60, 61, 12, 62, 14, 15, 63, 64, 65, 66, 67, 7, 68, 5, 6, 8, 69, 70, 71, 72, 73, 74, 75, 24, 76, 77, 78, 79, 26, 35, 32, 40, 80, 81, 82, 83, 84, 85, 86, 87, 88, 89, 90, 91, 36, 38, 92, 93, 94, 95, 96, 97, 98, 99, 34, 100, 101, 102, 103, 104, 105, 106, 107, 33, 108, 109, 110, 111, 31, 37, 112, 113, 114, 115, 39, 116, 117, 118, 119, 120, 121, 122, 18, 19, 20, 123, 124, 125, 126, 127, 128, 129, 130, 131, 132, 133, 149, 150, 151, 152, 153, 154, 155, 156, 168, 169, 170, 157, 158, 159, 160, 161, 162, 163, 164, 165, 166, 167] (by decide +kernel) (by decide +kernel)
set_option maxRecDepth 20000 in
theorem gX8_storm_X3_followDraws : GoodIn wsX8_storm (wsV RX8 237 RX3 yX3_followDraws wsX3_followDraws) := goodIn_app (goodIn_of _ (by decide +kernel)) ggX8_storm_X3_followDraws
set_option maxRecDepth 20000 in
theorem ggX8_storm_X5_lyingStones : GoodIn wsX8_storm wsX5_lyingStones := goodIn_r _ [137, 84, 85, 86, 24, 87, 32, 157, 158, 159, 160, 161, 162, 163, 164, 165, 166, 167] (by decide +kernel) (by decide +kernel)
set_option maxRecDepth 20000 in
theorem gX8_storm_X5_lyingStones : GoodIn wsX8_storm (wsV RX8 138 RX5 yX5_lyingStones wsX5_lyingStones) := goodIn_app (goodIn_of _ (by decide +kernel)) ggX8_storm_X5_lyingStones
set_option maxRecDepth 20000 in
theorem ggX8_storm_X5_notedAdded : GoodIn wsX8_storm wsX5_notedAdded := goodIn_r _ [141, 31, 157, 158, 159, 160, 161, 162, 163, 164, 165, 166, 167] (by decide +kernel) (by decide +kernel)
set_option maxRecDepth 20000 in
theorem gX8_storm_X5_notedAdded : GoodIn wsX8_storm (wsV RX8 241 RX5 yX5_notedAdded wsX5_notedAdded) := goodIn_app (goodIn_of _ (by decide +kernel)) ggX8_storm_X5_notedAdded
theorem dX8_storm_0 : decode cX8_storm 0 = .ok (.iload_n 1, 1) := by decide +kernel
theorem dX8_storm_1 : decode cX8_storm 1 = .ok (.iconst 0, 1) := by decide +kernel
theorem dX8_storm_2 : decode cX8_storm 2 = .ok (.sipush 9999, 3) := by decide +kernel
theorem dX8_storm_5 : decode cX8_storm 5 = .ok (.invokestatic 62, 3) := by decide +kernel
theorem dX8_storm_8 : decode cX8_storm 8 = .ok (.ifCond .eq 22, 3) := by decide +kernel
theorem dX8_storm_11 : decode cX8_storm 11 = .ok (.iload_n 2, 1) := by decide +kernel
theorem dX8_storm_12 : decode cX8_storm 12 = .ok (.iconst 1, 1) := by decide +kernel
