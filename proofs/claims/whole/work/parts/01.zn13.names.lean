theorem dX9_carry_31 : decode cX9_carry 31 = .ok (.aload_n 0, 1) := by decide +kernel
theorem dX9_carry_32 : decode cX9_carry 32 = .ok (.dup, 1) := by decide +kernel
theorem dX9_carry_33 : decode cX9_carry 33 = .ok (.getfield 189, 3) := by decide +kernel
theorem dX9_carry_36 : decode cX9_carry 36 = .ok (.iconst 1, 1) := by decide +kernel
theorem dX9_carry_37 : decode cX9_carry 37 = .ok (.iadd, 1) := by decide +kernel
theorem dX9_carry_38 : decode cX9_carry 38 = .ok (.putfield 189, 3) := by decide +kernel
theorem dX9_carry_41 : decode cX9_carry 41 = .ok (.iload_n 2, 1) := by decide +kernel
theorem dX9_carry_42 : decode cX9_carry 42 = .ok (.ireturn, 1) := by decide +kernel
set_option maxRecDepth 20000 in
theorem ggX9_carryRow_X9_carry : GoodIn wsX9_carryRow wsX9_carry := goodIn_r _ [5, 6, 7, 8, 9, 10, 11, 12, 13, 14, 15, 16, 17, 18, 19, 20, 21, 22, 23, 24, 25, 26, 27, 28, 29, 30, 31, 32, 33, 34, 35, 36, 37, 38, 39, 40, 41, 42, 43, 44, 45] (by decide +kernel) (by decide +kernel)
set_option maxRecDepth 20000 in
theorem gX9_carryRow_X9_carry : GoodIn wsX9_carryRow (wsV RX9 192 RX9 yX9_carry wsX9_carry) := goodIn_app (goodIn_of _ (by decide +kernel)) ggX9_carryRow_X9_carry
theorem dX9_carryRow_0 : decode cX9_carryRow 0 = .ok (.iconst 0, 1) := by decide +kernel
theorem dX9_carryRow_1 : decode cX9_carryRow 1 = .ok (.istore_n 3, 1) := by decide +kernel
theorem dX9_carryRow_2 : decode cX9_carryRow 2 = .ok (.iload_n 3, 1) := by decide +kernel
theorem dX9_carryRow_3 : decode cX9_carryRow 3 = .ok (.iload_n 2, 1) := by decide +kernel
theorem dX9_carryRow_4 : decode cX9_carryRow 4 = .ok (.if_icmp .ge 19, 3) := by decide +kernel
theorem dX9_carryRow_7 : decode cX9_carryRow 7 = .ok (.aload_n 1, 1) := by decide +kernel
theorem dX9_carryRow_8 : decode cX9_carryRow 8 = .ok (.iload_n 3, 1) := by decide +kernel
theorem dX9_carryRow_9 : decode cX9_carryRow 9 = .ok (.aload_n 0, 1) := by decide +kernel
theorem dX9_carryRow_10 : decode cX9_carryRow 10 = .ok (.aload_n 1, 1) := by decide +kernel
theorem dX9_carryRow_11 : decode cX9_carryRow 11 = .ok (.iload_n 3, 1) := by decide +kernel
theorem dX9_carryRow_12 : decode cX9_carryRow 12 = .ok (.iaload, 1) := by decide +kernel
theorem dX9_carryRow_13 : decode cX9_carryRow 13 = .ok (.invokevirtual 192, 3) := by decide +kernel
theorem dX9_carryRow_16 : decode cX9_carryRow 16 = .ok (.iastore, 1) := by decide +kernel
theorem dX9_carryRow_17 : decode cX9_carryRow 17 = .ok (.iinc 3 1, 3) := by decide +kernel
theorem dX9_carryRow_20 : decode cX9_carryRow 20 = .ok (.goto (-18), 3) := by decide +kernel
theorem dX9_carryRow_23 : decode cX9_carryRow 23 = .ok (.return_, 1) := by decide +kernel
set_option maxRecDepth 20000 in
theorem ggX9_carryAll_X9_carry : GoodIn wsX9_carryAll wsX9_carry := goodIn_r _ [17, 2, 18, 1, 23, 24, 25, 26, 27, 28, 29, 30, 31, 32, 33, 34, 35, 36, 37, 38, 39, 40, 41, 42, 43, 44, 45, 46, 47, 48, 49, 50, 51, 52, 53, 54, 55, 56, 57, 58, 59] (by decide +kernel) (by decide +kernel)
set_option maxRecDepth 20000 in
theorem gX9_carryAll_X9_carry : GoodIn wsX9_carryAll (wsV RX9 192 RX9 yX9_carry wsX9_carry) := goodIn_app (goodIn_of _ (by decide +kernel)) ggX9_carryAll_X9_carry
set_option maxRecDepth 20000 in
theorem ggX9_carryAll_X9_carryRow : GoodIn wsX9_carryAll wsX9_carryRow := goodIn_r _ [22, 13, 14, 15, 16, 17, 2, 18, 1, 23, 24, 25, 26, 27, 28, 29, 30, 31, 32, 33, 34, 35, 36, 37, 38, 39, 40, 41, 42, 43, 44, 45, 46, 47, 48, 49, 50, 51, 52, 53, 54, 55, 56, 57, 58, 59] (by decide +kernel) (by decide +kernel)
set_option maxRecDepth 20000 in
theorem gX9_carryAll_X9_carryRow : GoodIn wsX9_carryAll (wsV RX9 195 RX9 yX9_carryRow wsX9_carryRow) := goodIn_app (goodIn_of _ (by decide +kernel)) ggX9_carryAll_X9_carryRow
theorem dX9_carryAll_0 : decode cX9_carryAll 0 = .ok (.aload_n 0, 1) := by decide +kernel
theorem dX9_carryAll_1 : decode cX9_carryAll 1 = .ok (.iconst 0, 1) := by decide +kernel
theorem dX9_carryAll_2 : decode cX9_carryAll 2 = .ok (.putfield 189, 3) := by decide +kernel
theorem dX9_carryAll_5 : decode cX9_carryAll 5 = .ok (.aload_n 0, 1) := by decide +kernel
theorem dX9_carryAll_6 : decode cX9_carryAll 6 = .ok (.iload_n 1, 1) := by decide +kernel
theorem dX9_carryAll_7 : decode cX9_carryAll 7 = .ok (.putfield 185, 3) := by decide +kernel
theorem dX9_carryAll_10 : decode cX9_carryAll 10 = .ok (.aload_n 0, 1) := by decide +kernel
theorem dX9_carryAll_11 : decode cX9_carryAll 11 = .ok (.aload_n 0, 1) := by decide +kernel
theorem dX9_carryAll_12 : decode cX9_carryAll 12 = .ok (.aload_n 0, 1) := by decide +kernel
theorem dX9_carryAll_13 : decode cX9_carryAll 13 = .ok (.getfield 156, 3) := by decide +kernel
theorem dX9_carryAll_16 : decode cX9_carryAll 16 = .ok (.invokevirtual 192, 3) := by decide +kernel
theorem dX9_carryAll_19 : decode cX9_carryAll 19 = .ok (.putfield 156, 3) := by decide +kernel
theorem dX9_carryAll_22 : decode cX9_carryAll 22 = .ok (.aload_n 0, 1) := by decide +kernel
theorem dX9_carryAll_23 : decode cX9_carryAll 23 = .ok (.aload_n 0, 1) := by decide +kernel
theorem dX9_carryAll_24 : decode cX9_carryAll 24 = .ok (.getfield 7, 3) := by decide +kernel
theorem dX9_carryAll_27 : decode cX9_carryAll 27 = .ok (.bipush 8, 2) := by decide +kernel
theorem dX9_carryAll_29 : decode cX9_carryAll 29 = .ok (.invokevirtual 195, 3) := by decide +kernel
theorem dX9_carryAll_32 : decode cX9_carryAll 32 = .ok (.aload_n 0, 1) := by decide +kernel
theorem dX9_carryAll_33 : decode cX9_carryAll 33 = .ok (.aload_n 0, 1) := by decide +kernel
theorem dX9_carryAll_34 : decode cX9_carryAll 34 = .ok (.getfield 13, 3) := by decide +kernel
theorem dX9_carryAll_37 : decode cX9_carryAll 37 = .ok (.bipush 8, 2) := by decide +kernel
theorem dX9_carryAll_39 : decode cX9_carryAll 39 = .ok (.invokevirtual 195, 3) := by decide +kernel
theorem dX9_carryAll_42 : decode cX9_carryAll 42 = .ok (.aload_n 0, 1) := by decide +kernel
theorem dX9_carryAll_43 : decode cX9_carryAll 43 = .ok (.aload_n 0, 1) := by decide +kernel
theorem dX9_carryAll_44 : decode cX9_carryAll 44 = .ok (.getfield 16, 3) := by decide +kernel
theorem dX9_carryAll_47 : decode cX9_carryAll 47 = .ok (.bipush 8, 2) := by decide +kernel
theorem dX9_carryAll_49 : decode cX9_carryAll 49 = .ok (.invokevirtual 195, 3) := by decide +kernel
theorem dX9_carryAll_52 : decode cX9_carryAll 52 = .ok (.aload_n 0, 1) := by decide +kernel
theorem dX9_carryAll_53 : decode cX9_carryAll 53 = .ok (.aload_n 0, 1) := by decide +kernel
theorem dX9_carryAll_54 : decode cX9_carryAll 54 = .ok (.getfield 19, 3) := by decide +kernel
theorem dX9_carryAll_57 : decode cX9_carryAll 57 = .ok (.bipush 8, 2) := by decide +kernel
theorem dX9_carryAll_59 : decode cX9_carryAll 59 = .ok (.invokevirtual 195, 3) := by decide +kernel
theorem dX9_carryAll_62 : decode cX9_carryAll 62 = .ok (.aload_n 0, 1) := by decide +kernel
theorem dX9_carryAll_63 : decode cX9_carryAll 63 = .ok (.aload_n 0, 1) := by decide +kernel
theorem dX9_carryAll_64 : decode cX9_carryAll 64 = .ok (.getfield 22, 3) := by decide +kernel
theorem dX9_carryAll_67 : decode cX9_carryAll 67 = .ok (.bipush 8, 2) := by decide +kernel
theorem dX9_carryAll_69 : decode cX9_carryAll 69 = .ok (.invokevirtual 195, 3) := by decide +kernel
theorem dX9_carryAll_72 : decode cX9_carryAll 72 = .ok (.aload_n 0, 1) := by decide +kernel
theorem dX9_carryAll_73 : decode cX9_carryAll 73 = .ok (.aload_n 0, 1) := by decide +kernel
theorem dX9_carryAll_74 : decode cX9_carryAll 74 = .ok (.getfield 25, 3) := by decide +kernel
theorem dX9_carryAll_77 : decode cX9_carryAll 77 = .ok (.iconst 4, 1) := by decide +kernel
theorem dX9_carryAll_78 : decode cX9_carryAll 78 = .ok (.invokevirtual 195, 3) := by decide +kernel
theorem dX9_carryAll_81 : decode cX9_carryAll 81 = .ok (.aload_n 0, 1) := by decide +kernel
theorem dX9_carryAll_82 : decode cX9_carryAll 82 = .ok (.aload_n 0, 1) := by decide +kernel
theorem dX9_carryAll_83 : decode cX9_carryAll 83 = .ok (.getfield 28, 3) := by decide +kernel
theorem dX9_carryAll_86 : decode cX9_carryAll 86 = .ok (.iconst 4, 1) := by decide +kernel
theorem dX9_carryAll_87 : decode cX9_carryAll 87 = .ok (.invokevirtual 195, 3) := by decide +kernel
theorem dX9_carryAll_90 : decode cX9_carryAll 90 = .ok (.aload_n 0, 1) := by decide +kernel
theorem dX9_carryAll_91 : decode cX9_carryAll 91 = .ok (.aload_n 0, 1) := by decide +kernel
theorem dX9_carryAll_92 : decode cX9_carryAll 92 = .ok (.getfield 31, 3) := by decide +kernel
theorem dX9_carryAll_95 : decode cX9_carryAll 95 = .ok (.iconst 4, 1) := by decide +kernel
theorem dX9_carryAll_96 : decode cX9_carryAll 96 = .ok (.invokevirtual 195, 3) := by decide +kernel
theorem dX9_carryAll_99 : decode cX9_carryAll 99 = .ok (.aload_n 0, 1) := by decide +kernel
theorem dX9_carryAll_100 : decode cX9_carryAll 100 = .ok (.aload_n 0, 1) := by decide +kernel
theorem dX9_carryAll_101 : decode cX9_carryAll 101 = .ok (.getfield 34, 3) := by decide +kernel
theorem dX9_carryAll_104 : decode cX9_carryAll 104 = .ok (.iconst 4, 1) := by decide +kernel
theorem dX9_carryAll_105 : decode cX9_carryAll 105 = .ok (.invokevirtual 195, 3) := by decide +kernel
theorem dX9_carryAll_108 : decode cX9_carryAll 108 = .ok (.return_, 1) := by decide +kernel
set_option maxRecDepth 20000 in
theorem ggX9_back_X9_carryAll : GoodIn wsX9_back wsX9_carryAll := goodIn_r _ [5, 6, 7, 8, 9, 10, 11, 12, 13, 14, 15, 16, 17, 18, 19, 20, 4, 21, 22, 23, 24, 25, 26, 27, 28, 29, 30, 31, 32, 33, 34, 35, 36, 37, 38, 39, 40, 41, 42, 43, 44, 45, 46, 47, 48, 49, 50, 51, 52, 53, 54, 55, 56, 57, 58, 59, 60, 61, 62, 63] (by decide +kernel) (by decide +kernel)
set_option maxRecDepth 20000 in
theorem gX9_back_X9_carryAll : GoodIn wsX9_back (wsV RX9 199 RX9 yX9_carryAll wsX9_carryAll) := goodIn_app (goodIn_of _ (by decide +kernel)) ggX9_back_X9_carryAll
theorem dX9_back_0 : decode cX9_back 0 = .ok (.aload_n 0, 1) := by decide +kernel
theorem dX9_back_1 : decode cX9_back 1 = .ok (.iconst 1, 1) := by decide +kernel
theorem dX9_back_2 : decode cX9_back 2 = .ok (.invokevirtual 199, 3) := by decide +kernel
theorem dX9_back_5 : decode cX9_back 5 = .ok (.iload_n 1, 1) := by decide +kernel
theorem dX9_back_6 : decode cX9_back 6 = .ok (.ireturn, 1) := by decide +kernel
set_option maxRecDepth 20000 in
theorem ggX9_goOne_X9_happen : GoodIn wsX9_goOne wsX9_happen := goodIn_r _ [11, 4, 12, 13, 14, 15, 10, 16, 17, 18, 19, 20, 21, 22, 23, 24, 25, 26, 27, 28, 29, 30, 31, 32, 33, 34, 35, 36, 37, 38, 39, 40, 41, 42, 43, 44, 45, 46, 47, 48, 49, 50, 51, 52, 53, 54, 55, 56, 57, 58, 59, 60, 61, 62, 63, 64, 65, 66, 67, 68, 69, 70, 71, 72, 73, 74, 75, 76, 77, 78, 79, 80, 81, 82, 83, 84, 85, 86, 87] (by decide +kernel) (by decide +kernel)
set_option maxRecDepth 20000 in
theorem gX9_goOne_X9_happen : GoodIn wsX9_goOne (wsV RX9 203 RX9 yX9_happen wsX9_happen) := goodIn_app (goodIn_of _ (by decide +kernel)) ggX9_goOne_X9_happen
theorem dX9_goOne_0 : decode cX9_goOne 0 = .ok (.aload_n 0, 1) := by decide +kernel
theorem dX9_goOne_1 : decode cX9_goOne 1 = .ok (.aload_n 0, 1) := by decide +kernel
theorem dX9_goOne_2 : decode cX9_goOne 2 = .ok (.getfield 49, 3) := by decide +kernel
theorem dX9_goOne_5 : decode cX9_goOne 5 = .ok (.iload_n 1, 1) := by decide +kernel
theorem dX9_goOne_6 : decode cX9_goOne 6 = .ok (.iaload, 1) := by decide +kernel
theorem dX9_goOne_7 : decode cX9_goOne 7 = .ok (.aload_n 0, 1) := by decide +kernel
theorem dX9_goOne_8 : decode cX9_goOne 8 = .ok (.getfield 52, 3) := by decide +kernel
theorem dX9_goOne_11 : decode cX9_goOne 11 = .ok (.iload_n 1, 1) := by decide +kernel
theorem dX9_goOne_12 : decode cX9_goOne 12 = .ok (.iaload, 1) := by decide +kernel
theorem dX9_goOne_13 : decode cX9_goOne 13 = .ok (.aload_n 0, 1) := by decide +kernel
theorem dX9_goOne_14 : decode cX9_goOne 14 = .ok (.getfield 55, 3) := by decide +kernel
theorem dX9_goOne_17 : decode cX9_goOne 17 = .ok (.iload_n 1, 1) := by decide +kernel
theorem dX9_goOne_18 : decode cX9_goOne 18 = .ok (.iaload, 1) := by decide +kernel
theorem dX9_goOne_19 : decode cX9_goOne 19 = .ok (.invokevirtual 203, 3) := by decide +kernel
theorem dX9_goOne_22 : decode cX9_goOne 22 = .ok (.aload_n 0, 1) := by decide +kernel
theorem dX9_goOne_23 : decode cX9_goOne 23 = .ok (.getfield 165, 3) := by decide +kernel
theorem dX9_goOne_26 : decode cX9_goOne 26 = .ok (.ifCond .lt 23, 3) := by decide +kernel
theorem dX9_goOne_29 : decode cX9_goOne 29 = .ok (.aload_n 0, 1) := by decide +kernel
theorem dX9_goOne_30 : decode cX9_goOne 30 = .ok (.getfield 207, 3) := by decide +kernel
theorem dX9_goOne_33 : decode cX9_goOne 33 = .ok (.ifCond .ge 16, 3) := by decide +kernel
theorem dX9_goOne_36 : decode cX9_goOne 36 = .ok (.aload_n 0, 1) := by decide +kernel
theorem dX9_goOne_37 : decode cX9_goOne 37 = .ok (.iload_n 1, 1) := by decide +kernel
theorem dX9_goOne_38 : decode cX9_goOne 38 = .ok (.putfield 207, 3) := by decide +kernel
theorem dX9_goOne_41 : decode cX9_goOne 41 = .ok (.aload_n 0, 1) := by decide +kernel
theorem dX9_goOne_42 : decode cX9_goOne 42 = .ok (.aload_n 0, 1) := by decide +kernel
theorem dX9_goOne_43 : decode cX9_goOne 43 = .ok (.getfield 165, 3) := by decide +kernel
theorem dX9_goOne_46 : decode cX9_goOne 46 = .ok (.putfield 210, 3) := by decide +kernel
theorem dX9_goOne_49 : decode cX9_goOne 49 = .ok (.return_, 1) := by decide +kernel
set_option maxRecDepth 20000 in
theorem ggX9_goStorms_X9_whyNot : GoodIn wsX9_goStorms wsX9_whyNot := goodIn_r _ [14, 15, 16, 17, 18, 19, 20, 21, 13, 22, 23, 24, 25, 26, 27, 28, 29, 30, 31, 32, 33, 34, 35, 77, 78, 79, 80, 81, 82, 83, 84, 85, 86, 87, 88, 89, 90, 91, 92, 93, 94, 95, 96, 97, 98, 99, 100, 101, 102, 103, 104, 105, 106, 107, 108, 109, 110, 111, 112, 113] (by decide +kernel) (by decide +kernel)
set_option maxRecDepth 20000 in
theorem gX9_goStorms_X9_whyNot : GoodIn wsX9_goStorms (wsV RX9 219 RX9 yX9_whyNot wsX9_whyNot) := goodIn_app (goodIn_of _ (by decide +kernel)) ggX9_goStorms_X9_whyNot
set_option maxRecDepth 20000 in
theorem ggX9_goStorms_X9_goOne : GoodIn wsX9_goStorms wsX9_goOne := goodIn_r _ [39, 7, 8, 9, 40, 3, 4, 41, 42, 43, 13, 44, 15, 45, 46, 47, 48, 27, 17, 49, 50, 51, 52, 53, 16, 54, 55, 56, 57, 58, 59, 60, 61, 28, 62, 63, 64, 65, 66, 67, 68, 69, 70, 71, 18, 72, 73, 74, 75, 76, 5, 77, 78, 79, 80, 81, 82, 83, 84, 85, 86, 87, 88, 89, 90, 91, 92, 93, 94, 95, 96, 97, 98, 99, 100, 101, 102, 103, 104, 105, 106, 107, 108, 109, 110, 111, 112, 113] (by decide +kernel) (by decide +kernel)
set_option maxRecDepth 20000 in
theorem gX9_goStorms_X9_goOne : GoodIn wsX9_goStorms (wsV RX9 223 RX9 yX9_goOne wsX9_goOne) := goodIn_app (goodIn_of _ (by decide +kernel)) ggX9_goStorms_X9_goOne
theorem dX9_goStorms_0 : decode cX9_goStorms 0 = .ok (.aload_n 0, 1) := by decide +kernel
theorem dX9_goStorms_1 : decode cX9_goStorms 1 = .ok (.bipush (-6), 2) := by decide +kernel
theorem dX9_goStorms_3 : decode cX9_goStorms 3 = .ok (.putfield 213, 3) := by decide +kernel
theorem dX9_goStorms_6 : decode cX9_goStorms 6 = .ok (.aload_n 0, 1) := by decide +kernel
theorem dX9_goStorms_7 : decode cX9_goStorms 7 = .ok (.bipush (-6), 2) := by decide +kernel
theorem dX9_goStorms_9 : decode cX9_goStorms 9 = .ok (.putfield 216, 3) := by decide +kernel
theorem dX9_goStorms_12 : decode cX9_goStorms 12 = .ok (.aload_n 0, 1) := by decide +kernel
theorem dX9_goStorms_13 : decode cX9_goStorms 13 = .ok (.bipush (-6), 2) := by decide +kernel
theorem dX9_goStorms_15 : decode cX9_goStorms 15 = .ok (.putfield 207, 3) := by decide +kernel
theorem dX9_goStorms_18 : decode cX9_goStorms 18 = .ok (.aload_n 0, 1) := by decide +kernel
theorem dX9_goStorms_19 : decode cX9_goStorms 19 = .ok (.bipush (-6), 2) := by decide +kernel
theorem dX9_goStorms_21 : decode cX9_goStorms 21 = .ok (.putfield 210, 3) := by decide +kernel
theorem dX9_goStorms_24 : decode cX9_goStorms 24 = .ok (.aload_n 0, 1) := by decide +kernel
theorem dX9_goStorms_25 : decode cX9_goStorms 25 = .ok (.iconst 0, 1) := by decide +kernel
theorem dX9_goStorms_26 : decode cX9_goStorms 26 = .ok (.putfield 162, 3) := by decide +kernel
theorem dX9_goStorms_29 : decode cX9_goStorms 29 = .ok (.iconst 0, 1) := by decide +kernel
theorem dX9_goStorms_30 : decode cX9_goStorms 30 = .ok (.istore_n 1, 1) := by decide +kernel
theorem dX9_goStorms_31 : decode cX9_goStorms 31 = .ok (.iload_n 1, 1) := by decide +kernel
theorem dX9_goStorms_32 : decode cX9_goStorms 32 = .ok (.aload_n 0, 1) := by decide +kernel
theorem dX9_goStorms_33 : decode cX9_goStorms 33 = .ok (.getfield 118, 3) := by decide +kernel
theorem dX9_goStorms_36 : decode cX9_goStorms 36 = .ok (.if_icmp .ge 76, 3) := by decide +kernel
theorem dX9_goStorms_39 : decode cX9_goStorms 39 = .ok (.aload_n 0, 1) := by decide +kernel
theorem dX9_goStorms_40 : decode cX9_goStorms 40 = .ok (.getfield 213, 3) := by decide +kernel
theorem dX9_goStorms_43 : decode cX9_goStorms 43 = .ok (.ifCond .ge 69, 3) := by decide +kernel
theorem dX9_goStorms_46 : decode cX9_goStorms 46 = .ok (.aload_n 0, 1) := by decide +kernel
theorem dX9_goStorms_47 : decode cX9_goStorms 47 = .ok (.aload_n 0, 1) := by decide +kernel
theorem dX9_goStorms_48 : decode cX9_goStorms 48 = .ok (.getfield 49, 3) := by decide +kernel
theorem dX9_goStorms_51 : decode cX9_goStorms 51 = .ok (.iload_n 1, 1) := by decide +kernel
theorem dX9_goStorms_52 : decode cX9_goStorms 52 = .ok (.iaload, 1) := by decide +kernel
theorem dX9_goStorms_53 : decode cX9_goStorms 53 = .ok (.aload_n 0, 1) := by decide +kernel
theorem dX9_goStorms_54 : decode cX9_goStorms 54 = .ok (.getfield 52, 3) := by decide +kernel
theorem dX9_goStorms_57 : decode cX9_goStorms 57 = .ok (.iload_n 1, 1) := by decide +kernel
theorem dX9_goStorms_58 : decode cX9_goStorms 58 = .ok (.iaload, 1) := by decide +kernel
theorem dX9_goStorms_59 : decode cX9_goStorms 59 = .ok (.aload_n 0, 1) := by decide +kernel
theorem dX9_goStorms_60 : decode cX9_goStorms 60 = .ok (.getfield 55, 3) := by decide +kernel
theorem dX9_goStorms_63 : decode cX9_goStorms 63 = .ok (.iload_n 1, 1) := by decide +kernel
theorem dX9_goStorms_64 : decode cX9_goStorms 64 = .ok (.iaload, 1) := by decide +kernel
theorem dX9_goStorms_65 : decode cX9_goStorms 65 = .ok (.invokevirtual 219, 3) := by decide +kernel
theorem dX9_goStorms_68 : decode cX9_goStorms 68 = .ok (.istore_n 2, 1) := by decide +kernel
theorem dX9_goStorms_69 : decode cX9_goStorms 69 = .ok (.aload_n 0, 1) := by decide +kernel
theorem dX9_goStorms_70 : decode cX9_goStorms 70 = .ok (.iload_n 2, 1) := by decide +kernel
theorem dX9_goStorms_71 : decode cX9_goStorms 71 = .ok (.ifCond .le 7, 3) := by decide +kernel
theorem dX9_goStorms_74 : decode cX9_goStorms 74 = .ok (.iload_n 1, 1) := by decide +kernel
theorem dX9_goStorms_75 : decode cX9_goStorms 75 = .ok (.goto 5, 3) := by decide +kernel
theorem dX9_goStorms_78 : decode cX9_goStorms 78 = .ok (.bipush (-6), 2) := by decide +kernel
theorem dX9_goStorms_80 : decode cX9_goStorms 80 = .ok (.putfield 213, 3) := by decide +kernel
theorem dX9_goStorms_83 : decode cX9_goStorms 83 = .ok (.aload_n 0, 1) := by decide +kernel
theorem dX9_goStorms_84 : decode cX9_goStorms 84 = .ok (.iload_n 2, 1) := by decide +kernel
theorem dX9_goStorms_85 : decode cX9_goStorms 85 = .ok (.ifCond .le 7, 3) := by decide +kernel
theorem dX9_goStorms_88 : decode cX9_goStorms 88 = .ok (.iload_n 2, 1) := by decide +kernel
theorem dX9_goStorms_89 : decode cX9_goStorms 89 = .ok (.goto 5, 3) := by decide +kernel
theorem dX9_goStorms_92 : decode cX9_goStorms 92 = .ok (.bipush (-6), 2) := by decide +kernel
theorem dX9_goStorms_94 : decode cX9_goStorms 94 = .ok (.putfield 216, 3) := by decide +kernel
theorem dX9_goStorms_97 : decode cX9_goStorms 97 = .ok (.iload_n 2, 1) := by decide +kernel
theorem dX9_goStorms_98 : decode cX9_goStorms 98 = .ok (.ifCond .ne 8, 3) := by decide +kernel
theorem dX9_goStorms_101 : decode cX9_goStorms 101 = .ok (.aload_n 0, 1) := by decide +kernel
theorem dX9_goStorms_102 : decode cX9_goStorms 102 = .ok (.iload_n 1, 1) := by decide +kernel
theorem dX9_goStorms_103 : decode cX9_goStorms 103 = .ok (.invokevirtual 223, 3) := by decide +kernel
theorem dX9_goStorms_106 : decode cX9_goStorms 106 = .ok (.iinc 1 1, 3) := by decide +kernel
theorem dX9_goStorms_109 : decode cX9_goStorms 109 = .ok (.goto (-78), 3) := by decide +kernel
theorem dX9_goStorms_112 : decode cX9_goStorms 112 = .ok (.return_, 1) := by decide +kernel
set_option maxRecDepth 20000 in
theorem ggX9_refusal_X9_carryAll : GoodIn wsX9_refusal wsX9_carryAll := goodIn_r _ [6, 7, 8, 9, 10, 11, 12, 13, 14, 15, 16, 17, 18, 19, 20, 21, 5, 22, 23, 24, 25, 26, 27, 128, 129, 130, 131, 132, 133, 134, 135, 136, 137, 138, 139, 140, 141, 142, 143, 144, 145, 146, 147, 148, 149, 150, 151, 152, 153, 154, 155, 156, 157, 158, 159, 160, 161, 162, 163, 164] (by decide +kernel) (by decide +kernel)
set_option maxRecDepth 20000 in
theorem gX9_refusal_X9_carryAll : GoodIn wsX9_refusal (wsV RX9 199 RX9 yX9_carryAll wsX9_carryAll) := goodIn_app (goodIn_of _ (by decide +kernel)) ggX9_refusal_X9_carryAll
set_option maxRecDepth 20000 in
theorem ggX9_refusal_X9_fault : GoodIn wsX9_refusal wsX9_fault := goodIn_r _ [31, 32, 33, 34, 35, 36, 37, 5, 38, 39, 40, 41, 42, 43, 44, 45, 46, 47, 48, 49, 50, 51, 52, 53, 54, 55, 56, 57, 58, 59, 60, 61, 62, 63, 64, 65, 66, 128, 129, 130, 131, 132, 133, 134, 135, 136, 137, 138, 139, 140, 141, 142, 143, 144, 145, 146, 147, 148, 149, 150, 151, 152, 153, 154, 155, 156, 157, 158, 159, 160, 161, 162, 163, 164] (by decide +kernel) (by decide +kernel)
set_option maxRecDepth 20000 in
theorem gX9_refusal_X9_fault : GoodIn wsX9_refusal (wsV RX9 226 RX9 yX9_fault wsX9_fault) := goodIn_app (goodIn_of _ (by decide +kernel)) ggX9_refusal_X9_fault
set_option maxRecDepth 20000 in
theorem ggX9_refusal_X9_goStorms : GoodIn wsX9_refusal wsX9_goStorms := goodIn_r _ [70, 1, 71, 72, 73, 74, 32, 57, 49, 58, 75, 76, 77, 5, 78, 10, 12, 15, 9, 79, 80, 81, 82, 83, 84, 85, 86, 16, 18, 87, 88, 89, 90, 50, 51, 52, 91, 92, 93, 94, 95, 96, 97, 98, 99, 100, 101, 102, 103, 14, 104, 105, 106, 107, 13, 108, 109, 110, 111, 112, 113, 114, 115, 116, 117, 118, 11, 17, 119, 120, 121, 122, 123, 124, 125, 126, 127, 128, 129, 130, 131, 132, 133, 134, 135, 136, 137, 138, 139, 140, 141, 142, 143, 144, 145, 146, 147, 148, 149, 150, 151, 152, 153, 154, 155, 156, 157, 158, 159, 160, 161, 162, 163, 164] (by decide +kernel) (by decide +kernel)
set_option maxRecDepth 20000 in
theorem gX9_refusal_X9_goStorms : GoodIn wsX9_refusal (wsV RX9 230 RX9 yX9_goStorms wsX9_goStorms) := goodIn_app (goodIn_of _ (by decide +kernel)) ggX9_refusal_X9_goStorms
theorem dX9_refusal_0 : decode cX9_refusal 0 = .ok (.aload_n 0, 1) := by decide +kernel
theorem dX9_refusal_1 : decode cX9_refusal 1 = .ok (.iconst 0, 1) := by decide +kernel
theorem dX9_refusal_2 : decode cX9_refusal 2 = .ok (.invokevirtual 199, 3) := by decide +kernel
theorem dX9_refusal_5 : decode cX9_refusal 5 = .ok (.aload_n 0, 1) := by decide +kernel
theorem dX9_refusal_6 : decode cX9_refusal 6 = .ok (.invokevirtual 226, 3) := by decide +kernel
theorem dX9_refusal_9 : decode cX9_refusal 9 = .ok (.ifCond .lt 6, 3) := by decide +kernel
theorem dX9_refusal_12 : decode cX9_refusal 12 = .ok (.bipush (-5), 2) := by decide +kernel
theorem dX9_refusal_14 : decode cX9_refusal 14 = .ok (.ireturn, 1) := by decide +kernel
theorem dX9_refusal_15 : decode cX9_refusal 15 = .ok (.aload_n 0, 1) := by decide +kernel
theorem dX9_refusal_16 : decode cX9_refusal 16 = .ok (.invokevirtual 230, 3) := by decide +kernel
theorem dX9_refusal_19 : decode cX9_refusal 19 = .ok (.aload_n 0, 1) := by decide +kernel
theorem dX9_refusal_20 : decode cX9_refusal 20 = .ok (.getfield 213, 3) := by decide +kernel
theorem dX9_refusal_23 : decode cX9_refusal 23 = .ok (.ifCond .lt 8, 3) := by decide +kernel
theorem dX9_refusal_26 : decode cX9_refusal 26 = .ok (.bipush (-3), 2) := by decide +kernel
theorem dX9_refusal_28 : decode cX9_refusal 28 = .ok (.goto 5, 3) := by decide +kernel
theorem dX9_refusal_31 : decode cX9_refusal 31 = .ok (.bipush (-6), 2) := by decide +kernel
theorem dX9_refusal_33 : decode cX9_refusal 33 = .ok (.ireturn, 1) := by decide +kernel
set_option maxRecDepth 20000 in
theorem ggX9_judge_X9_in : GoodIn wsX9_judge wsX9_in := goodIn_r _ [8] (by decide +kernel) (by decide +kernel)
set_option maxRecDepth 20000 in
theorem gX9_judge_X9_in : GoodIn wsX9_judge (va_wsS RX9 83 yX9_in wsX9_in) := goodIn_app (goodIn_of _ (by decide +kernel)) ggX9_judge_X9_in
set_option maxRecDepth 20000 in
theorem ggX9_judge_X9_refusal : GoodIn wsX9_judge wsX9_refusal := goodIn_r _ [12, 2, 13, 14, 15, 7, 16, 17, 18, 19, 20, 21, 22, 23, 24, 25, 26, 27, 28, 29, 30, 31, 32, 33, 34, 35, 36, 37, 38, 39, 40, 41, 42, 43, 44, 45, 46, 47, 48, 49, 50, 51, 52, 53, 54, 55, 56, 57, 58, 59, 5, 6, 8, 60, 61, 62, 63, 64, 65, 66, 67, 68, 69, 70, 71, 72, 73, 74, 75, 76, 77, 3, 78, 79, 4, 80, 81, 82, 83, 84, 85, 86, 87, 88, 89, 90, 91, 92, 93, 94, 95, 96, 97, 98, 99, 100, 101, 102, 103, 104, 105, 106, 107, 108, 109, 110, 111, 112, 113, 114, 115, 116, 117, 118, 119, 120, 121, 122, 123, 124, 125, 126, 127, 128, 129, 130, 131, 132, 137, 138, 139, 140, 141, 142, 143, 144, 145, 146, 147, 148, 149, 150, 151, 152, 153, 154, 155, 156, 157, 158, 159, 160, 161, 162, 163, 164, 165, 166, 167, 168, 169, 170, 171, 172, 173] (by decide +kernel) (by decide +kernel)
set_option maxRecDepth 20000 in
theorem gX9_judge_X9_refusal : GoodIn wsX9_judge (wsV RX9 235 RX9 yX9_refusal wsX9_refusal) := goodIn_app (goodIn_of _ (by decide +kernel)) ggX9_judge_X9_refusal
set_option maxRecDepth 20000 in
theorem ggX9_judge_X9_back : GoodIn wsX9_judge wsX9_back := goodIn_r _ [136, 13, 14, 15, 7, 16, 17, 18, 19, 20, 21, 22, 23, 24, 25, 26, 27, 28, 29, 30, 31, 32, 33, 34, 35, 36, 37, 137, 138, 139, 140, 141, 142, 143, 144, 145, 146, 147, 148, 149, 150, 151, 152, 153, 154, 155, 156, 157, 158, 159, 160, 161, 162, 163, 164, 165, 166, 167, 168, 169, 170, 171, 172, 173] (by decide +kernel) (by decide +kernel)
set_option maxRecDepth 20000 in
theorem gX9_judge_X9_back : GoodIn wsX9_judge (wsV RX9 238 RX9 yX9_back wsX9_back) := goodIn_app (goodIn_of _ (by decide +kernel)) ggX9_judge_X9_back
theorem dX9_judge_0 : decode cX9_judge 0 = .ok (.iload_n 1, 1) := by decide +kernel
theorem dX9_judge_1 : decode cX9_judge 1 = .ok (.i2l, 1) := by decide +kernel
theorem dX9_judge_2 : decode cX9_judge 2 = .ok (.lconst 0, 1) := by decide +kernel
theorem dX9_judge_3 : decode cX9_judge 3 = .ok (.ldc2_w 233, 3) := by decide +kernel
theorem dX9_judge_6 : decode cX9_judge 6 = .ok (.invokestatic 83, 3) := by decide +kernel
theorem dX9_judge_9 : decode cX9_judge 9 = .ok (.ifCond .ne 6, 3) := by decide +kernel
theorem dX9_judge_12 : decode cX9_judge 12 = .ok (.bipush (-2), 2) := by decide +kernel
theorem dX9_judge_14 : decode cX9_judge 14 = .ok (.ireturn, 1) := by decide +kernel
theorem dX9_judge_15 : decode cX9_judge 15 = .ok (.aload_n 0, 1) := by decide +kernel
theorem dX9_judge_16 : decode cX9_judge 16 = .ok (.aload_n 0, 1) := by decide +kernel
theorem dX9_judge_17 : decode cX9_judge 17 = .ok (.invokevirtual 235, 3) := by decide +kernel
theorem dX9_judge_20 : decode cX9_judge 20 = .ok (.invokevirtual 238, 3) := by decide +kernel
theorem dX9_judge_23 : decode cX9_judge 23 = .ok (.istore_n 2, 1) := by decide +kernel
theorem dX9_judge_24 : decode cX9_judge 24 = .ok (.iload_n 2, 1) := by decide +kernel
theorem dX9_judge_25 : decode cX9_judge 25 = .ok (.bipush (-5), 2) := by decide +kernel
theorem dX9_judge_27 : decode cX9_judge 27 = .ok (.if_icmp .eq 14, 3) := by decide +kernel
theorem dX9_judge_30 : decode cX9_judge 30 = .ok (.iload_n 1, 1) := by decide +kernel
theorem dX9_judge_31 : decode cX9_judge 31 = .ok (.iconst 1, 1) := by decide +kernel
theorem dX9_judge_32 : decode cX9_judge 32 = .ok (.if_icmp .le 11, 3) := by decide +kernel
theorem dX9_judge_35 : decode cX9_judge 35 = .ok (.iload_n 2, 1) := by decide +kernel
theorem dX9_judge_36 : decode cX9_judge 36 = .ok (.bipush (-3), 2) := by decide +kernel
theorem dX9_judge_38 : decode cX9_judge 38 = .ok (.if_icmp .ne 5, 3) := by decide +kernel
theorem dX9_judge_41 : decode cX9_judge 41 = .ok (.iload_n 2, 1) := by decide +kernel
theorem dX9_judge_42 : decode cX9_judge 42 = .ok (.ireturn, 1) := by decide +kernel
theorem dX9_judge_43 : decode cX9_judge 43 = .ok (.iload_n 1, 1) := by decide +kernel
theorem dX9_judge_44 : decode cX9_judge 44 = .ok (.ifCond .ne 10, 3) := by decide +kernel
theorem dX9_judge_47 : decode cX9_judge 47 = .ok (.aload_n 0, 1) := by decide +kernel
theorem dX9_judge_48 : decode cX9_judge 48 = .ok (.getfield 213, 3) := by decide +kernel
theorem dX9_judge_51 : decode cX9_judge 51 = .ok (.goto 19, 3) := by decide +kernel
theorem dX9_judge_54 : decode cX9_judge 54 = .ok (.iload_n 1, 1) := by decide +kernel
theorem dX9_judge_55 : decode cX9_judge 55 = .ok (.iconst 1, 1) := by decide +kernel
theorem dX9_judge_56 : decode cX9_judge 56 = .ok (.if_icmp .ne 10, 3) := by decide +kernel
theorem dX9_judge_59 : decode cX9_judge 59 = .ok (.aload_n 0, 1) := by decide +kernel
theorem dX9_judge_60 : decode cX9_judge 60 = .ok (.getfield 216, 3) := by decide +kernel
theorem dX9_judge_63 : decode cX9_judge 63 = .ok (.goto 7, 3) := by decide +kernel
theorem dX9_judge_66 : decode cX9_judge 66 = .ok (.aload_n 0, 1) := by decide +kernel
theorem dX9_judge_67 : decode cX9_judge 67 = .ok (.getfield 162, 3) := by decide +kernel
theorem dX9_judge_70 : decode cX9_judge 70 = .ok (.ireturn, 1) := by decide +kernel
theorem dX9_ofPerson_0 : decode cX9_ofPerson 0 = .ok (.iload_n 2, 1) := by decide +kernel
theorem dX9_ofPerson_1 : decode cX9_ofPerson 1 = .ok (.tableswitch 59 0 3 #[31, 38, 45, 52], 31) := by decide +kernel
theorem dX9_ofPerson_32 : decode cX9_ofPerson 32 = .ok (.aload_n 0, 1) := by decide +kernel
theorem dX9_ofPerson_33 : decode cX9_ofPerson 33 = .ok (.getfield 7, 3) := by decide +kernel
theorem dX9_ofPerson_36 : decode cX9_ofPerson 36 = .ok (.iload_n 1, 1) := by decide +kernel
theorem dX9_ofPerson_37 : decode cX9_ofPerson 37 = .ok (.iaload, 1) := by decide +kernel
theorem dX9_ofPerson_38 : decode cX9_ofPerson 38 = .ok (.ireturn, 1) := by decide +kernel
theorem dX9_ofPerson_39 : decode cX9_ofPerson 39 = .ok (.aload_n 0, 1) := by decide +kernel
theorem dX9_ofPerson_40 : decode cX9_ofPerson 40 = .ok (.getfield 13, 3) := by decide +kernel
theorem dX9_ofPerson_43 : decode cX9_ofPerson 43 = .ok (.iload_n 1, 1) := by decide +kernel
theorem dX9_ofPerson_44 : decode cX9_ofPerson 44 = .ok (.iaload, 1) := by decide +kernel
theorem dX9_ofPerson_45 : decode cX9_ofPerson 45 = .ok (.ireturn, 1) := by decide +kernel
theorem dX9_ofPerson_46 : decode cX9_ofPerson 46 = .ok (.aload_n 0, 1) := by decide +kernel
theorem dX9_ofPerson_47 : decode cX9_ofPerson 47 = .ok (.getfield 16, 3) := by decide +kernel
theorem dX9_ofPerson_50 : decode cX9_ofPerson 50 = .ok (.iload_n 1, 1) := by decide +kernel
theorem dX9_ofPerson_51 : decode cX9_ofPerson 51 = .ok (.iaload, 1) := by decide +kernel
theorem dX9_ofPerson_52 : decode cX9_ofPerson 52 = .ok (.ireturn, 1) := by decide +kernel
theorem dX9_ofPerson_53 : decode cX9_ofPerson 53 = .ok (.aload_n 0, 1) := by decide +kernel
theorem dX9_ofPerson_54 : decode cX9_ofPerson 54 = .ok (.getfield 19, 3) := by decide +kernel
theorem dX9_ofPerson_57 : decode cX9_ofPerson 57 = .ok (.iload_n 1, 1) := by decide +kernel
theorem dX9_ofPerson_58 : decode cX9_ofPerson 58 = .ok (.iaload, 1) := by decide +kernel
theorem dX9_ofPerson_59 : decode cX9_ofPerson 59 = .ok (.ireturn, 1) := by decide +kernel
theorem dX9_ofPerson_60 : decode cX9_ofPerson 60 = .ok (.aload_n 0, 1) := by decide +kernel
theorem dX9_ofPerson_61 : decode cX9_ofPerson 61 = .ok (.getfield 22, 3) := by decide +kernel
theorem dX9_ofPerson_64 : decode cX9_ofPerson 64 = .ok (.iload_n 1, 1) := by decide +kernel
theorem dX9_ofPerson_65 : decode cX9_ofPerson 65 = .ok (.iaload, 1) := by decide +kernel
theorem dX9_ofPerson_66 : decode cX9_ofPerson 66 = .ok (.ireturn, 1) := by decide +kernel
set_option maxRecDepth 20000 in
theorem ggX9_behind_X9_isPerson : GoodIn wsX9_behind wsX9_isPerson := goodIn_r _ [5, 6, 7, 8, 4, 9] (by decide +kernel) (by decide +kernel)
set_option maxRecDepth 20000 in
theorem gX9_behind_X9_isPerson : GoodIn wsX9_behind (va_wsS RX9 91 yX9_isPerson wsX9_isPerson) := goodIn_app (goodIn_of _ (by decide +kernel)) ggX9_behind_X9_isPerson
set_option maxRecDepth 20000 in
theorem ggX9_behind_X9_in : GoodIn wsX9_behind wsX9_in := goodIn_r _ [9] (by decide +kernel) (by decide +kernel)
set_option maxRecDepth 20000 in
theorem gX9_behind_X9_in : GoodIn wsX9_behind (va_wsS RX9 83 yX9_in wsX9_in) := goodIn_app (goodIn_of _ (by decide +kernel)) ggX9_behind_X9_in
set_option maxRecDepth 20000 in
theorem ggX9_behind_X9_refusal : GoodIn wsX9_behind wsX9_refusal := goodIn_r _ [13, 14, 15, 16, 17, 4, 18, 19, 20, 21, 22, 23, 24, 25, 26, 27, 28, 29, 30, 31, 32, 33, 34, 35, 36, 37, 38, 39, 40, 41, 42, 43, 44, 45, 46, 47, 48, 49, 50, 51, 52, 53, 54, 55, 56, 57, 58, 59, 60, 61, 7, 8, 9, 62, 63, 64, 65, 66, 67, 68, 69, 70, 71, 72, 73, 74, 75, 76, 77, 78, 79, 80, 81, 82, 83, 84, 85, 86, 87, 88, 89, 90, 91, 92, 93, 94, 95, 96, 97, 98, 99, 100, 101, 102, 103, 104, 105, 106, 107, 108, 109, 110, 111, 112, 113, 114, 115, 116, 117, 118, 119, 120, 121, 122, 123, 124, 125, 126, 127, 128, 129, 130, 131, 132, 133, 134, 135, 136, 145, 146, 147, 148, 149, 150, 151, 152, 153, 154, 155, 156, 157, 158, 159, 160, 161, 162, 163, 164, 165, 166, 167, 168, 169, 170, 171, 172, 173, 174, 175, 176, 177, 178, 179, 180, 181] (by decide +kernel) (by decide +kernel)
set_option maxRecDepth 20000 in
theorem gX9_behind_X9_refusal : GoodIn wsX9_behind (wsV RX9 235 RX9 yX9_refusal wsX9_refusal) := goodIn_app (goodIn_of _ (by decide +kernel)) ggX9_behind_X9_refusal
set_option maxRecDepth 20000 in
theorem ggX9_behind_X9_ofPerson : GoodIn wsX9_behind wsX9_ofPerson := goodIn_r _ [140, 22, 23, 24, 25, 26, 145, 146, 147, 148, 149, 150, 151, 152, 153, 154, 155, 156, 157, 158, 159, 160, 161, 162, 163, 164, 165, 166, 167, 168, 169, 170, 171, 172, 173, 174, 175, 176, 177, 178, 179, 180, 181] (by decide +kernel) (by decide +kernel)
set_option maxRecDepth 20000 in
theorem gX9_behind_X9_ofPerson : GoodIn wsX9_behind (wsV RX9 243 RX9 yX9_ofPerson wsX9_ofPerson) := goodIn_app (goodIn_of _ (by decide +kernel)) ggX9_behind_X9_ofPerson
set_option maxRecDepth 20000 in
theorem ggX9_behind_X9_back : GoodIn wsX9_behind wsX9_back := goodIn_r _ [144, 15, 16, 17, 4, 18, 19, 20, 21, 22, 23, 24, 25, 26, 27, 28, 29, 30, 31, 32, 33, 34, 35, 36, 37, 38, 39, 145, 146, 147, 148, 149, 150, 151, 152, 153, 154, 155, 156, 157, 158, 159, 160, 161, 162, 163, 164, 165, 166, 167, 168, 169, 170, 171, 172, 173, 174, 175, 176, 177, 178, 179, 180, 181] (by decide +kernel) (by decide +kernel)
set_option maxRecDepth 20000 in
theorem gX9_behind_X9_back : GoodIn wsX9_behind (wsV RX9 238 RX9 yX9_back wsX9_back) := goodIn_app (goodIn_of _ (by decide +kernel)) ggX9_behind_X9_back
theorem dX9_behind_0 : decode cX9_behind 0 = .ok (.iload_n 1, 1) := by decide +kernel
theorem dX9_behind_1 : decode cX9_behind 1 = .ok (.invokestatic 91, 3) := by decide +kernel
theorem dX9_behind_4 : decode cX9_behind 4 = .ok (.ifCond .ne 5, 3) := by decide +kernel
theorem dX9_behind_7 : decode cX9_behind 7 = .ok (.iconst (-1), 1) := by decide +kernel
theorem dX9_behind_8 : decode cX9_behind 8 = .ok (.ireturn, 1) := by decide +kernel
theorem dX9_behind_9 : decode cX9_behind 9 = .ok (.iload_n 2, 1) := by decide +kernel
theorem dX9_behind_10 : decode cX9_behind 10 = .ok (.i2l, 1) := by decide +kernel
theorem dX9_behind_11 : decode cX9_behind 11 = .ok (.lconst 0, 1) := by decide +kernel
theorem dX9_behind_12 : decode cX9_behind 12 = .ok (.ldc2_w 241, 3) := by decide +kernel
theorem dX9_behind_15 : decode cX9_behind 15 = .ok (.invokestatic 83, 3) := by decide +kernel
theorem dX9_behind_18 : decode cX9_behind 18 = .ok (.ifCond .ne 6, 3) := by decide +kernel
theorem dX9_behind_21 : decode cX9_behind 21 = .ok (.bipush (-2), 2) := by decide +kernel
theorem dX9_behind_23 : decode cX9_behind 23 = .ok (.ireturn, 1) := by decide +kernel
theorem dX9_behind_24 : decode cX9_behind 24 = .ok (.aload_n 0, 1) := by decide +kernel
theorem dX9_behind_25 : decode cX9_behind 25 = .ok (.invokevirtual 235, 3) := by decide +kernel
theorem dX9_behind_28 : decode cX9_behind 28 = .ok (.istore_n 3, 1) := by decide +kernel
theorem dX9_behind_29 : decode cX9_behind 29 = .ok (.aload_n 0, 1) := by decide +kernel
theorem dX9_behind_30 : decode cX9_behind 30 = .ok (.iload_n 3, 1) := by decide +kernel
theorem dX9_behind_31 : decode cX9_behind 31 = .ok (.bipush (-6), 2) := by decide +kernel
theorem dX9_behind_33 : decode cX9_behind 33 = .ok (.if_icmp .eq 7, 3) := by decide +kernel
theorem dX9_behind_36 : decode cX9_behind 36 = .ok (.iload_n 3, 1) := by decide +kernel
theorem dX9_behind_37 : decode cX9_behind 37 = .ok (.goto 9, 3) := by decide +kernel
theorem dX9_behind_40 : decode cX9_behind 40 = .ok (.aload_n 0, 1) := by decide +kernel
theorem dX9_behind_41 : decode cX9_behind 41 = .ok (.iload_n 1, 1) := by decide +kernel
theorem dX9_behind_42 : decode cX9_behind 42 = .ok (.iload_n 2, 1) := by decide +kernel
theorem dX9_behind_43 : decode cX9_behind 43 = .ok (.invokevirtual 243, 3) := by decide +kernel
theorem dX9_behind_46 : decode cX9_behind 46 = .ok (.invokevirtual 238, 3) := by decide +kernel
theorem dX9_behind_49 : decode cX9_behind 49 = .ok (.ireturn, 1) := by decide +kernel
set_option maxRecDepth 20000 in
theorem ggX9_reads_X9_isReader : GoodIn wsX9_reads wsX9_isReader := goodIn_r _ [8, 1, 9, 10, 7, 11] (by decide +kernel) (by decide +kernel)
set_option maxRecDepth 20000 in
theorem gX9_reads_X9_isReader : GoodIn wsX9_reads (va_wsS RX9 103 yX9_isReader wsX9_isReader) := goodIn_app (goodIn_of _ (by decide +kernel)) ggX9_reads_X9_isReader
set_option maxRecDepth 20000 in
theorem ggX9_reads_X9_in : GoodIn wsX9_reads wsX9_in := goodIn_r _ [11] (by decide +kernel) (by decide +kernel)
set_option maxRecDepth 20000 in
theorem gX9_reads_X9_in : GoodIn wsX9_reads (va_wsS RX9 83 yX9_in wsX9_in) := goodIn_app (goodIn_of _ (by decide +kernel)) ggX9_reads_X9_in
set_option maxRecDepth 20000 in
theorem ggX9_reads_X9_refusal : GoodIn wsX9_reads wsX9_refusal := goodIn_r _ [15, 16, 17, 18, 19, 7, 20, 21, 22, 23, 24, 25, 26, 27, 28, 2, 3, 4, 29, 30, 31, 32, 33, 34, 35, 36, 37, 38, 39, 40, 41, 42, 43, 44, 45, 46, 47, 48, 49, 50, 51, 52, 53, 54, 55, 56, 57, 58, 59, 60, 9, 10, 11, 61, 62, 63, 64, 65, 66, 67, 68, 69, 70, 71, 72, 73, 74, 75, 76, 77, 78, 79, 80, 81, 82, 83, 84, 85, 86, 87, 88, 89, 90, 91, 92, 93, 94, 95, 96, 97, 98, 99, 100, 101, 102, 103, 104, 105, 106, 107, 108, 109, 110, 111, 112, 113, 114, 115, 116, 117, 118, 119, 120, 121, 122, 123, 124, 125, 126, 127, 128, 129, 130, 131, 132, 133, 134, 135, 140, 141, 142, 143, 144, 145, 146, 147, 148, 149, 150, 151, 152, 153, 154, 155, 156, 157, 158, 159, 160, 161, 162, 163, 164, 165, 166, 167, 168, 169, 170, 171, 172, 173, 174, 175, 176] (by decide +kernel) (by decide +kernel)
set_option maxRecDepth 20000 in
theorem gX9_reads_X9_refusal : GoodIn wsX9_reads (wsV RX9 235 RX9 yX9_refusal wsX9_refusal) := goodIn_app (goodIn_of _ (by decide +kernel)) ggX9_reads_X9_refusal
set_option maxRecDepth 20000 in
theorem ggX9_reads_X9_may : GoodIn wsX9_reads wsX9_may := goodIn_r _ [94, 3, 29, 140, 141, 142, 143, 144, 145, 146, 147, 148, 149, 150, 151, 152, 153, 154, 155, 156, 157, 158, 159, 160, 161, 162, 163, 164, 165, 166, 167, 168, 169, 170, 171, 172, 173, 174, 175, 176] (by decide +kernel) (by decide +kernel)
set_option maxRecDepth 20000 in
theorem gX9_reads_X9_may : GoodIn wsX9_reads (wsV RX9 150 RX9 yX9_may wsX9_may) := goodIn_app (goodIn_of _ (by decide +kernel)) ggX9_reads_X9_may
set_option maxRecDepth 20000 in
theorem ggX9_reads_X9_back : GoodIn wsX9_reads wsX9_back := goodIn_r _ [139, 17, 18, 19, 7, 20, 21, 22, 23, 24, 25, 26, 27, 28, 2, 3, 4, 29, 30, 31, 32, 33, 34, 35, 36, 37, 38, 140, 141, 142, 143, 144, 145, 146, 147, 148, 149, 150, 151, 152, 153, 154, 155, 156, 157, 158, 159, 160, 161, 162, 163, 164, 165, 166, 167, 168, 169, 170, 171, 172, 173, 174, 175, 176] (by decide +kernel) (by decide +kernel)
set_option maxRecDepth 20000 in
theorem gX9_reads_X9_back : GoodIn wsX9_reads (wsV RX9 238 RX9 yX9_back wsX9_back) := goodIn_app (goodIn_of _ (by decide +kernel)) ggX9_reads_X9_back
theorem dX9_reads_0 : decode cX9_reads 0 = .ok (.iload_n 1, 1) := by decide +kernel
theorem dX9_reads_1 : decode cX9_reads 1 = .ok (.invokestatic 103, 3) := by decide +kernel
theorem dX9_reads_4 : decode cX9_reads 4 = .ok (.ifCond .ne 5, 3) := by decide +kernel
theorem dX9_reads_7 : decode cX9_reads 7 = .ok (.iconst (-1), 1) := by decide +kernel
theorem dX9_reads_8 : decode cX9_reads 8 = .ok (.ireturn, 1) := by decide +kernel
theorem dX9_reads_9 : decode cX9_reads 9 = .ok (.iload_n 2, 1) := by decide +kernel
theorem dX9_reads_10 : decode cX9_reads 10 = .ok (.i2l, 1) := by decide +kernel
theorem dX9_reads_11 : decode cX9_reads 11 = .ok (.lconst 0, 1) := by decide +kernel
theorem dX9_reads_12 : decode cX9_reads 12 = .ok (.ldc2_w 87, 3) := by decide +kernel
theorem dX9_reads_15 : decode cX9_reads 15 = .ok (.invokestatic 83, 3) := by decide +kernel
theorem dX9_reads_18 : decode cX9_reads 18 = .ok (.ifCond .ne 6, 3) := by decide +kernel
theorem dX9_reads_21 : decode cX9_reads 21 = .ok (.bipush (-2), 2) := by decide +kernel
theorem dX9_reads_23 : decode cX9_reads 23 = .ok (.ireturn, 1) := by decide +kernel
theorem dX9_reads_24 : decode cX9_reads 24 = .ok (.aload_n 0, 1) := by decide +kernel
theorem dX9_reads_25 : decode cX9_reads 25 = .ok (.invokevirtual 235, 3) := by decide +kernel
theorem dX9_reads_28 : decode cX9_reads 28 = .ok (.istore_n 3, 1) := by decide +kernel
theorem dX9_reads_29 : decode cX9_reads 29 = .ok (.iload_n 2, 1) := by decide +kernel
theorem dX9_reads_30 : decode cX9_reads 30 = .ok (.ifCond .ne 12, 3) := by decide +kernel
theorem dX9_reads_33 : decode cX9_reads 33 = .ok (.aload_n 0, 1) := by decide +kernel
theorem dX9_reads_34 : decode cX9_reads 34 = .ok (.getfield 25, 3) := by decide +kernel
theorem dX9_reads_37 : decode cX9_reads 37 = .ok (.iload_n 1, 1) := by decide +kernel
theorem dX9_reads_38 : decode cX9_reads 38 = .ok (.iaload, 1) := by decide +kernel
theorem dX9_reads_39 : decode cX9_reads 39 = .ok (.goto 44, 3) := by decide +kernel
theorem dX9_reads_42 : decode cX9_reads 42 = .ok (.iload_n 2, 1) := by decide +kernel
theorem dX9_reads_43 : decode cX9_reads 43 = .ok (.iconst 1, 1) := by decide +kernel
theorem dX9_reads_44 : decode cX9_reads 44 = .ok (.if_icmp .ne 12, 3) := by decide +kernel
theorem dX9_reads_47 : decode cX9_reads 47 = .ok (.aload_n 0, 1) := by decide +kernel
theorem dX9_reads_48 : decode cX9_reads 48 = .ok (.getfield 28, 3) := by decide +kernel
theorem dX9_reads_51 : decode cX9_reads 51 = .ok (.iload_n 1, 1) := by decide +kernel
theorem dX9_reads_52 : decode cX9_reads 52 = .ok (.iaload, 1) := by decide +kernel
theorem dX9_reads_53 : decode cX9_reads 53 = .ok (.goto 30, 3) := by decide +kernel
theorem dX9_reads_56 : decode cX9_reads 56 = .ok (.iload_n 2, 1) := by decide +kernel
theorem dX9_reads_57 : decode cX9_reads 57 = .ok (.iconst 2, 1) := by decide +kernel
theorem dX9_reads_58 : decode cX9_reads 58 = .ok (.if_icmp .ne 12, 3) := by decide +kernel
theorem dX9_reads_61 : decode cX9_reads 61 = .ok (.aload_n 0, 1) := by decide +kernel
theorem dX9_reads_62 : decode cX9_reads 62 = .ok (.getfield 31, 3) := by decide +kernel
theorem dX9_reads_65 : decode cX9_reads 65 = .ok (.iload_n 1, 1) := by decide +kernel
theorem dX9_reads_66 : decode cX9_reads 66 = .ok (.iaload, 1) := by decide +kernel
theorem dX9_reads_67 : decode cX9_reads 67 = .ok (.goto 16, 3) := by decide +kernel
theorem dX9_reads_70 : decode cX9_reads 70 = .ok (.aload_n 0, 1) := by decide +kernel
theorem dX9_reads_71 : decode cX9_reads 71 = .ok (.iload_n 1, 1) := by decide +kernel
theorem dX9_reads_72 : decode cX9_reads 72 = .ok (.invokevirtual 150, 3) := by decide +kernel
theorem dX9_reads_75 : decode cX9_reads 75 = .ok (.ifCond .eq 7, 3) := by decide +kernel
theorem dX9_reads_78 : decode cX9_reads 78 = .ok (.iconst 1, 1) := by decide +kernel
theorem dX9_reads_79 : decode cX9_reads 79 = .ok (.goto 4, 3) := by decide +kernel
theorem dX9_reads_82 : decode cX9_reads 82 = .ok (.iconst 0, 1) := by decide +kernel
theorem dX9_reads_83 : decode cX9_reads 83 = .ok (.istore 4, 2) := by decide +kernel
theorem dX9_reads_85 : decode cX9_reads 85 = .ok (.aload_n 0, 1) := by decide +kernel
theorem dX9_reads_86 : decode cX9_reads 86 = .ok (.iload_n 3, 1) := by decide +kernel
theorem dX9_reads_87 : decode cX9_reads 87 = .ok (.bipush (-6), 2) := by decide +kernel
theorem dX9_reads_89 : decode cX9_reads 89 = .ok (.if_icmp .eq 7, 3) := by decide +kernel
theorem dX9_reads_92 : decode cX9_reads 92 = .ok (.iload_n 3, 1) := by decide +kernel
theorem dX9_reads_93 : decode cX9_reads 93 = .ok (.goto 5, 3) := by decide +kernel
theorem dX9_reads_96 : decode cX9_reads 96 = .ok (.iload 4, 2) := by decide +kernel
theorem dX9_reads_98 : decode cX9_reads 98 = .ok (.invokevirtual 238, 3) := by decide +kernel
theorem dX9_reads_101 : decode cX9_reads 101 = .ok (.ireturn, 1) := by decide +kernel
theorem dX9_lying_0 : decode cX9_lying 0 = .ok (.iconst 0, 1) := by decide +kernel
theorem dX9_lying_1 : decode cX9_lying 1 = .ok (.istore_n 1, 1) := by decide +kernel
theorem dX9_lying_2 : decode cX9_lying 2 = .ok (.iconst 0, 1) := by decide +kernel
theorem dX9_lying_3 : decode cX9_lying 3 = .ok (.istore_n 2, 1) := by decide +kernel
theorem dX9_lying_4 : decode cX9_lying 4 = .ok (.iload_n 2, 1) := by decide +kernel
theorem dX9_lying_5 : decode cX9_lying 5 = .ok (.bipush 8, 2) := by decide +kernel
theorem dX9_lying_7 : decode cX9_lying 7 = .ok (.if_icmp .ge 28, 3) := by decide +kernel
theorem dX9_lying_10 : decode cX9_lying 10 = .ok (.iload_n 1, 1) := by decide +kernel
theorem dX9_lying_11 : decode cX9_lying 11 = .ok (.aload_n 0, 1) := by decide +kernel
theorem dX9_lying_12 : decode cX9_lying 12 = .ok (.getfield 16, 3) := by decide +kernel
theorem dX9_lying_15 : decode cX9_lying 15 = .ok (.iload_n 2, 1) := by decide +kernel
theorem dX9_lying_16 : decode cX9_lying 16 = .ok (.iaload, 1) := by decide +kernel
theorem dX9_lying_17 : decode cX9_lying 17 = .ok (.ifCond .lt 9, 3) := by decide +kernel
theorem dX9_lying_20 : decode cX9_lying 20 = .ok (.iconst 1, 1) := by decide +kernel
theorem dX9_lying_21 : decode cX9_lying 21 = .ok (.iload_n 2, 1) := by decide +kernel
theorem dX9_lying_22 : decode cX9_lying 22 = .ok (.ishl, 1) := by decide +kernel
