theorem dX9_apart_11 : decode cX9_apart 11 = .ok (.iload_n 0, 1) := by decide +kernel
theorem dX9_apart_12 : decode cX9_apart 12 = .ok (.iload_n 1, 1) := by decide +kernel
theorem dX9_apart_13 : decode cX9_apart 13 = .ok (.isub, 1) := by decide +kernel
theorem dX9_apart_14 : decode cX9_apart 14 = .ok (.ireturn, 1) := by decide +kernel
theorem dX9_ones_0 : decode cX9_ones 0 = .ok (.iconst 0, 1) := by decide +kernel
theorem dX9_ones_1 : decode cX9_ones 1 = .ok (.istore_n 1, 1) := by decide +kernel
theorem dX9_ones_2 : decode cX9_ones 2 = .ok (.iload_n 0, 1) := by decide +kernel
theorem dX9_ones_3 : decode cX9_ones 3 = .ok (.istore_n 2, 1) := by decide +kernel
theorem dX9_ones_4 : decode cX9_ones 4 = .ok (.iload_n 2, 1) := by decide +kernel
theorem dX9_ones_5 : decode cX9_ones 5 = .ok (.ifCond .eq 15, 3) := by decide +kernel
theorem dX9_ones_8 : decode cX9_ones 8 = .ok (.iinc 1 1, 3) := by decide +kernel
theorem dX9_ones_11 : decode cX9_ones 11 = .ok (.iload_n 2, 1) := by decide +kernel
theorem dX9_ones_12 : decode cX9_ones 12 = .ok (.iload_n 2, 1) := by decide +kernel
theorem dX9_ones_13 : decode cX9_ones 13 = .ok (.iconst 1, 1) := by decide +kernel
theorem dX9_ones_14 : decode cX9_ones 14 = .ok (.isub, 1) := by decide +kernel
theorem dX9_ones_15 : decode cX9_ones 15 = .ok (.iand, 1) := by decide +kernel
theorem dX9_ones_16 : decode cX9_ones 16 = .ok (.istore_n 2, 1) := by decide +kernel
theorem dX9_ones_17 : decode cX9_ones 17 = .ok (.goto (-13), 3) := by decide +kernel
theorem dX9_ones_20 : decode cX9_ones 20 = .ok (.iload_n 1, 1) := by decide +kernel
theorem dX9_ones_21 : decode cX9_ones 21 = .ok (.ireturn, 1) := by decide +kernel
theorem dX9_has_0 : decode cX9_has 0 = .ok (.iload_n 0, 1) := by decide +kernel
theorem dX9_has_1 : decode cX9_has 1 = .ok (.iload_n 1, 1) := by decide +kernel
theorem dX9_has_2 : decode cX9_has 2 = .ok (.ishr, 1) := by decide +kernel
theorem dX9_has_3 : decode cX9_has 3 = .ok (.iconst 1, 1) := by decide +kernel
theorem dX9_has_4 : decode cX9_has 4 = .ok (.iand, 1) := by decide +kernel
theorem dX9_has_5 : decode cX9_has 5 = .ok (.iconst 1, 1) := by decide +kernel
theorem dX9_has_6 : decode cX9_has 6 = .ok (.if_icmp .ne 7, 3) := by decide +kernel
theorem dX9_has_9 : decode cX9_has 9 = .ok (.iconst 1, 1) := by decide +kernel
theorem dX9_has_10 : decode cX9_has 10 = .ok (.goto 4, 3) := by decide +kernel
theorem dX9_has_13 : decode cX9_has 13 = .ok (.iconst 0, 1) := by decide +kernel
theorem dX9_has_14 : decode cX9_has 14 = .ok (.ireturn, 1) := by decide +kernel
set_option maxRecDepth 20000 in
theorem ggX9_person_X9_isPerson : GoodIn wsX9_person wsX9_isPerson := goodIn_r _ [7, 8, 9, 10, 6, 11] (by decide +kernel) (by decide +kernel)
set_option maxRecDepth 20000 in
theorem gX9_person_X9_isPerson : GoodIn wsX9_person (va_wsS RX9 91 yX9_isPerson wsX9_isPerson) := goodIn_app (goodIn_of _ (by decide +kernel)) ggX9_person_X9_isPerson
set_option maxRecDepth 20000 in
theorem ggX9_person_X9_in : GoodIn wsX9_person wsX9_in := goodIn_r _ [11] (by decide +kernel) (by decide +kernel)
set_option maxRecDepth 20000 in
theorem gX9_person_X9_in : GoodIn wsX9_person (va_wsS RX9 83 yX9_in wsX9_in) := goodIn_app (goodIn_of _ (by decide +kernel)) ggX9_person_X9_in
theorem dX9_person_0 : decode cX9_person 0 = .ok (.iload_n 1, 1) := by decide +kernel
theorem dX9_person_1 : decode cX9_person 1 = .ok (.invokestatic 91, 3) := by decide +kernel
theorem dX9_person_4 : decode cX9_person 4 = .ok (.ifCond .ne 5, 3) := by decide +kernel
theorem dX9_person_7 : decode cX9_person 7 = .ok (.iconst (-1), 1) := by decide +kernel
theorem dX9_person_8 : decode cX9_person 8 = .ok (.ireturn, 1) := by decide +kernel
theorem dX9_person_9 : decode cX9_person 9 = .ok (.iload_n 2, 1) := by decide +kernel
theorem dX9_person_10 : decode cX9_person 10 = .ok (.i2l, 1) := by decide +kernel
theorem dX9_person_11 : decode cX9_person 11 = .ok (.lconst 0, 1) := by decide +kernel
theorem dX9_person_12 : decode cX9_person 12 = .ok (.ldc2_w 95, 3) := by decide +kernel
theorem dX9_person_15 : decode cX9_person 15 = .ok (.invokestatic 83, 3) := by decide +kernel
theorem dX9_person_18 : decode cX9_person 18 = .ok (.ifCond .eq 15, 3) := by decide +kernel
theorem dX9_person_21 : decode cX9_person 21 = .ok (.iload_n 3, 1) := by decide +kernel
theorem dX9_person_22 : decode cX9_person 22 = .ok (.i2l, 1) := by decide +kernel
theorem dX9_person_23 : decode cX9_person 23 = .ok (.lconst 0, 1) := by decide +kernel
theorem dX9_person_24 : decode cX9_person 24 = .ok (.ldc2_w 95, 3) := by decide +kernel
theorem dX9_person_27 : decode cX9_person 27 = .ok (.invokestatic 83, 3) := by decide +kernel
theorem dX9_person_30 : decode cX9_person 30 = .ok (.ifCond .ne 6, 3) := by decide +kernel
theorem dX9_person_33 : decode cX9_person 33 = .ok (.bipush (-2), 2) := by decide +kernel
theorem dX9_person_35 : decode cX9_person 35 = .ok (.ireturn, 1) := by decide +kernel
theorem dX9_person_36 : decode cX9_person 36 = .ok (.bipush 100, 2) := by decide +kernel
theorem dX9_person_38 : decode cX9_person 38 = .ok (.aload_n 0, 1) := by decide +kernel
theorem dX9_person_39 : decode cX9_person 39 = .ok (.getfield 7, 3) := by decide +kernel
theorem dX9_person_42 : decode cX9_person 42 = .ok (.iload_n 1, 1) := by decide +kernel
theorem dX9_person_43 : decode cX9_person 43 = .ok (.iaload, 1) := by decide +kernel
theorem dX9_person_44 : decode cX9_person 44 = .ok (.imul, 1) := by decide +kernel
theorem dX9_person_45 : decode cX9_person 45 = .ok (.aload_n 0, 1) := by decide +kernel
theorem dX9_person_46 : decode cX9_person 46 = .ok (.getfield 13, 3) := by decide +kernel
theorem dX9_person_49 : decode cX9_person 49 = .ok (.iload_n 1, 1) := by decide +kernel
theorem dX9_person_50 : decode cX9_person 50 = .ok (.iaload, 1) := by decide +kernel
theorem dX9_person_51 : decode cX9_person 51 = .ok (.iadd, 1) := by decide +kernel
theorem dX9_person_52 : decode cX9_person 52 = .ok (.istore 4, 2) := by decide +kernel
theorem dX9_person_54 : decode cX9_person 54 = .ok (.aload_n 0, 1) := by decide +kernel
theorem dX9_person_55 : decode cX9_person 55 = .ok (.getfield 7, 3) := by decide +kernel
theorem dX9_person_58 : decode cX9_person 58 = .ok (.iload_n 1, 1) := by decide +kernel
theorem dX9_person_59 : decode cX9_person 59 = .ok (.iload_n 2, 1) := by decide +kernel
theorem dX9_person_60 : decode cX9_person 60 = .ok (.iastore, 1) := by decide +kernel
theorem dX9_person_61 : decode cX9_person 61 = .ok (.aload_n 0, 1) := by decide +kernel
theorem dX9_person_62 : decode cX9_person 62 = .ok (.getfield 13, 3) := by decide +kernel
theorem dX9_person_65 : decode cX9_person 65 = .ok (.iload_n 1, 1) := by decide +kernel
theorem dX9_person_66 : decode cX9_person 66 = .ok (.iload_n 3, 1) := by decide +kernel
theorem dX9_person_67 : decode cX9_person 67 = .ok (.iastore, 1) := by decide +kernel
theorem dX9_person_68 : decode cX9_person 68 = .ok (.iload 4, 2) := by decide +kernel
theorem dX9_person_70 : decode cX9_person 70 = .ok (.ireturn, 1) := by decide +kernel
theorem dX9_layStone_0 : decode cX9_layStone 0 = .ok (.aload_n 0, 1) := by decide +kernel
theorem dX9_layStone_1 : decode cX9_layStone 1 = .ok (.getfield 16, 3) := by decide +kernel
theorem dX9_layStone_4 : decode cX9_layStone 4 = .ok (.iload_n 1, 1) := by decide +kernel
theorem dX9_layStone_5 : decode cX9_layStone 5 = .ok (.iload_n 2, 1) := by decide +kernel
theorem dX9_layStone_6 : decode cX9_layStone 6 = .ok (.iastore, 1) := by decide +kernel
theorem dX9_layStone_7 : decode cX9_layStone 7 = .ok (.aload_n 0, 1) := by decide +kernel
theorem dX9_layStone_8 : decode cX9_layStone 8 = .ok (.getfield 19, 3) := by decide +kernel
theorem dX9_layStone_11 : decode cX9_layStone 11 = .ok (.iload_n 1, 1) := by decide +kernel
theorem dX9_layStone_12 : decode cX9_layStone 12 = .ok (.iload_n 3, 1) := by decide +kernel
theorem dX9_layStone_13 : decode cX9_layStone 13 = .ok (.iastore, 1) := by decide +kernel
theorem dX9_layStone_14 : decode cX9_layStone 14 = .ok (.aload_n 0, 1) := by decide +kernel
theorem dX9_layStone_15 : decode cX9_layStone 15 = .ok (.getfield 22, 3) := by decide +kernel
theorem dX9_layStone_18 : decode cX9_layStone 18 = .ok (.iload_n 1, 1) := by decide +kernel
theorem dX9_layStone_19 : decode cX9_layStone 19 = .ok (.iload 4, 2) := by decide +kernel
theorem dX9_layStone_21 : decode cX9_layStone 21 = .ok (.iastore, 1) := by decide +kernel
theorem dX9_layStone_22 : decode cX9_layStone 22 = .ok (.return_, 1) := by decide +kernel
set_option maxRecDepth 20000 in
theorem ggX9_stone_X9_isPerson : GoodIn wsX9_stone wsX9_isPerson := goodIn_r _ [7, 8, 9, 10, 6, 11] (by decide +kernel) (by decide +kernel)
set_option maxRecDepth 20000 in
theorem gX9_stone_X9_isPerson : GoodIn wsX9_stone (va_wsS RX9 91 yX9_isPerson wsX9_isPerson) := goodIn_app (goodIn_of _ (by decide +kernel)) ggX9_stone_X9_isPerson
set_option maxRecDepth 20000 in
theorem ggX9_stone_X9_in : GoodIn wsX9_stone wsX9_in := goodIn_r _ [11] (by decide +kernel) (by decide +kernel)
set_option maxRecDepth 20000 in
theorem gX9_stone_X9_in : GoodIn wsX9_stone (va_wsS RX9 83 yX9_in wsX9_in) := goodIn_app (goodIn_of _ (by decide +kernel)) ggX9_stone_X9_in
set_option maxRecDepth 20000 in
theorem ggX9_stone_X9_layStone : GoodIn wsX9_stone wsX9_layStone := goodIn_r _ [15, 3, 16, 17, 18, 19, 20, 21, 22, 23, 24, 25, 26, 27, 28, 29, 30, 31, 32, 33, 34, 35, 36, 37, 38, 39, 40, 41, 42, 43, 44, 45, 46, 47, 48, 49, 50, 51, 52, 53, 54] (by decide +kernel) (by decide +kernel)
set_option maxRecDepth 20000 in
theorem gX9_stone_X9_layStone : GoodIn wsX9_stone (wsV RX9 99 RX9 yX9_layStone wsX9_layStone) := goodIn_app (goodIn_of _ (by decide +kernel)) ggX9_stone_X9_layStone
theorem dX9_stone_0 : decode cX9_stone 0 = .ok (.iload_n 1, 1) := by decide +kernel
theorem dX9_stone_1 : decode cX9_stone 1 = .ok (.invokestatic 91, 3) := by decide +kernel
theorem dX9_stone_4 : decode cX9_stone 4 = .ok (.ifCond .ne 5, 3) := by decide +kernel
theorem dX9_stone_7 : decode cX9_stone 7 = .ok (.iconst (-1), 1) := by decide +kernel
theorem dX9_stone_8 : decode cX9_stone 8 = .ok (.ireturn, 1) := by decide +kernel
theorem dX9_stone_9 : decode cX9_stone 9 = .ok (.iload_n 2, 1) := by decide +kernel
theorem dX9_stone_10 : decode cX9_stone 10 = .ok (.ifCond .ge 7, 3) := by decide +kernel
theorem dX9_stone_13 : decode cX9_stone 13 = .ok (.iconst 0, 1) := by decide +kernel
theorem dX9_stone_14 : decode cX9_stone 14 = .ok (.goto 4, 3) := by decide +kernel
theorem dX9_stone_17 : decode cX9_stone 17 = .ok (.iconst 1, 1) := by decide +kernel
theorem dX9_stone_18 : decode cX9_stone 18 = .ok (.istore 5, 2) := by decide +kernel
theorem dX9_stone_20 : decode cX9_stone 20 = .ok (.iload_n 2, 1) := by decide +kernel
theorem dX9_stone_21 : decode cX9_stone 21 = .ok (.ifCond .ge 7, 3) := by decide +kernel
theorem dX9_stone_24 : decode cX9_stone 24 = .ok (.iconst 0, 1) := by decide +kernel
theorem dX9_stone_25 : decode cX9_stone 25 = .ok (.goto 5, 3) := by decide +kernel
theorem dX9_stone_28 : decode cX9_stone 28 = .ok (.bipush 99, 2) := by decide +kernel
theorem dX9_stone_30 : decode cX9_stone 30 = .ok (.istore 6, 2) := by decide +kernel
theorem dX9_stone_32 : decode cX9_stone 32 = .ok (.iload_n 2, 1) := by decide +kernel
theorem dX9_stone_33 : decode cX9_stone 33 = .ok (.i2l, 1) := by decide +kernel
theorem dX9_stone_34 : decode cX9_stone 34 = .ok (.ldc2_w 97, 3) := by decide +kernel
theorem dX9_stone_37 : decode cX9_stone 37 = .ok (.ldc2_w 89, 3) := by decide +kernel
theorem dX9_stone_40 : decode cX9_stone 40 = .ok (.invokestatic 83, 3) := by decide +kernel
theorem dX9_stone_43 : decode cX9_stone 43 = .ok (.ifCond .eq 32, 3) := by decide +kernel
theorem dX9_stone_46 : decode cX9_stone 46 = .ok (.iload_n 3, 1) := by decide +kernel
theorem dX9_stone_47 : decode cX9_stone 47 = .ok (.i2l, 1) := by decide +kernel
theorem dX9_stone_48 : decode cX9_stone 48 = .ok (.iload 5, 2) := by decide +kernel
theorem dX9_stone_50 : decode cX9_stone 50 = .ok (.i2l, 1) := by decide +kernel
theorem dX9_stone_51 : decode cX9_stone 51 = .ok (.iload 6, 2) := by decide +kernel
theorem dX9_stone_53 : decode cX9_stone 53 = .ok (.i2l, 1) := by decide +kernel
theorem dX9_stone_54 : decode cX9_stone 54 = .ok (.invokestatic 83, 3) := by decide +kernel
theorem dX9_stone_57 : decode cX9_stone 57 = .ok (.ifCond .eq 18, 3) := by decide +kernel
theorem dX9_stone_60 : decode cX9_stone 60 = .ok (.iload 4, 2) := by decide +kernel
theorem dX9_stone_62 : decode cX9_stone 62 = .ok (.i2l, 1) := by decide +kernel
theorem dX9_stone_63 : decode cX9_stone 63 = .ok (.iload 5, 2) := by decide +kernel
theorem dX9_stone_65 : decode cX9_stone 65 = .ok (.i2l, 1) := by decide +kernel
theorem dX9_stone_66 : decode cX9_stone 66 = .ok (.iload 6, 2) := by decide +kernel
theorem dX9_stone_68 : decode cX9_stone 68 = .ok (.i2l, 1) := by decide +kernel
theorem dX9_stone_69 : decode cX9_stone 69 = .ok (.invokestatic 83, 3) := by decide +kernel
theorem dX9_stone_72 : decode cX9_stone 72 = .ok (.ifCond .ne 6, 3) := by decide +kernel
theorem dX9_stone_75 : decode cX9_stone 75 = .ok (.bipush (-2), 2) := by decide +kernel
theorem dX9_stone_77 : decode cX9_stone 77 = .ok (.ireturn, 1) := by decide +kernel
theorem dX9_stone_78 : decode cX9_stone 78 = .ok (.aload_n 0, 1) := by decide +kernel
theorem dX9_stone_79 : decode cX9_stone 79 = .ok (.getfield 16, 3) := by decide +kernel
theorem dX9_stone_82 : decode cX9_stone 82 = .ok (.iload_n 1, 1) := by decide +kernel
theorem dX9_stone_83 : decode cX9_stone 83 = .ok (.iaload, 1) := by decide +kernel
theorem dX9_stone_84 : decode cX9_stone 84 = .ok (.istore 7, 2) := by decide +kernel
theorem dX9_stone_86 : decode cX9_stone 86 = .ok (.aload_n 0, 1) := by decide +kernel
theorem dX9_stone_87 : decode cX9_stone 87 = .ok (.iload_n 1, 1) := by decide +kernel
theorem dX9_stone_88 : decode cX9_stone 88 = .ok (.iload_n 2, 1) := by decide +kernel
theorem dX9_stone_89 : decode cX9_stone 89 = .ok (.ifCond .ge 8, 3) := by decide +kernel
theorem dX9_stone_92 : decode cX9_stone 92 = .ok (.bipush (-6), 2) := by decide +kernel
theorem dX9_stone_94 : decode cX9_stone 94 = .ok (.goto 4, 3) := by decide +kernel
theorem dX9_stone_97 : decode cX9_stone 97 = .ok (.iload_n 2, 1) := by decide +kernel
theorem dX9_stone_98 : decode cX9_stone 98 = .ok (.iload_n 3, 1) := by decide +kernel
theorem dX9_stone_99 : decode cX9_stone 99 = .ok (.iload 4, 2) := by decide +kernel
theorem dX9_stone_101 : decode cX9_stone 101 = .ok (.invokevirtual 99, 3) := by decide +kernel
theorem dX9_stone_104 : decode cX9_stone 104 = .ok (.iload 7, 2) := by decide +kernel
theorem dX9_stone_106 : decode cX9_stone 106 = .ok (.ireturn, 1) := by decide +kernel
set_option maxRecDepth 20000 in
theorem ggX9_reader_X9_isReader : GoodIn wsX9_reader wsX9_isReader := goodIn_r _ [8, 9, 10, 11, 7, 12] (by decide +kernel) (by decide +kernel)
set_option maxRecDepth 20000 in
theorem gX9_reader_X9_isReader : GoodIn wsX9_reader (va_wsS RX9 103 yX9_isReader wsX9_isReader) := goodIn_app (goodIn_of _ (by decide +kernel)) ggX9_reader_X9_isReader
set_option maxRecDepth 20000 in
theorem ggX9_reader_X9_isCell : GoodIn wsX9_reader wsX9_isCell := goodIn_r _ [15, 16, 10, 11, 7, 12] (by decide +kernel) (by decide +kernel)
set_option maxRecDepth 20000 in
theorem gX9_reader_X9_isCell : GoodIn wsX9_reader (va_wsS RX9 106 yX9_isCell wsX9_isCell) := goodIn_app (goodIn_of _ (by decide +kernel)) ggX9_reader_X9_isCell
set_option maxRecDepth 20000 in
theorem ggX9_reader_X9_in : GoodIn wsX9_reader wsX9_in := goodIn_r _ [12] (by decide +kernel) (by decide +kernel)
set_option maxRecDepth 20000 in
theorem gX9_reader_X9_in : GoodIn wsX9_reader (va_wsS RX9 83 yX9_in wsX9_in) := goodIn_app (goodIn_of _ (by decide +kernel)) ggX9_reader_X9_in
theorem dX9_reader_0 : decode cX9_reader 0 = .ok (.iload_n 1, 1) := by decide +kernel
theorem dX9_reader_1 : decode cX9_reader 1 = .ok (.invokestatic 103, 3) := by decide +kernel
theorem dX9_reader_4 : decode cX9_reader 4 = .ok (.ifCond .ne 5, 3) := by decide +kernel
theorem dX9_reader_7 : decode cX9_reader 7 = .ok (.iconst (-1), 1) := by decide +kernel
theorem dX9_reader_8 : decode cX9_reader 8 = .ok (.ireturn, 1) := by decide +kernel
theorem dX9_reader_9 : decode cX9_reader 9 = .ok (.iload_n 2, 1) := by decide +kernel
theorem dX9_reader_10 : decode cX9_reader 10 = .ok (.invokestatic 106, 3) := by decide +kernel
theorem dX9_reader_13 : decode cX9_reader 13 = .ok (.ifCond .eq 15, 3) := by decide +kernel
theorem dX9_reader_16 : decode cX9_reader 16 = .ok (.iload_n 3, 1) := by decide +kernel
theorem dX9_reader_17 : decode cX9_reader 17 = .ok (.i2l, 1) := by decide +kernel
theorem dX9_reader_18 : decode cX9_reader 18 = .ok (.lconst 0, 1) := by decide +kernel
theorem dX9_reader_19 : decode cX9_reader 19 = .ok (.ldc2_w 109, 3) := by decide +kernel
theorem dX9_reader_22 : decode cX9_reader 22 = .ok (.invokestatic 83, 3) := by decide +kernel
theorem dX9_reader_25 : decode cX9_reader 25 = .ok (.ifCond .ne 6, 3) := by decide +kernel
theorem dX9_reader_28 : decode cX9_reader 28 = .ok (.bipush (-2), 2) := by decide +kernel
theorem dX9_reader_30 : decode cX9_reader 30 = .ok (.ireturn, 1) := by decide +kernel
theorem dX9_reader_31 : decode cX9_reader 31 = .ok (.aload_n 0, 1) := by decide +kernel
theorem dX9_reader_32 : decode cX9_reader 32 = .ok (.getfield 25, 3) := by decide +kernel
theorem dX9_reader_35 : decode cX9_reader 35 = .ok (.iload_n 1, 1) := by decide +kernel
theorem dX9_reader_36 : decode cX9_reader 36 = .ok (.iaload, 1) := by decide +kernel
theorem dX9_reader_37 : decode cX9_reader 37 = .ok (.istore 4, 2) := by decide +kernel
theorem dX9_reader_39 : decode cX9_reader 39 = .ok (.aload_n 0, 1) := by decide +kernel
theorem dX9_reader_40 : decode cX9_reader 40 = .ok (.getfield 25, 3) := by decide +kernel
theorem dX9_reader_43 : decode cX9_reader 43 = .ok (.iload_n 1, 1) := by decide +kernel
theorem dX9_reader_44 : decode cX9_reader 44 = .ok (.iload_n 2, 1) := by decide +kernel
theorem dX9_reader_45 : decode cX9_reader 45 = .ok (.iastore, 1) := by decide +kernel
theorem dX9_reader_46 : decode cX9_reader 46 = .ok (.aload_n 0, 1) := by decide +kernel
theorem dX9_reader_47 : decode cX9_reader 47 = .ok (.getfield 28, 3) := by decide +kernel
theorem dX9_reader_50 : decode cX9_reader 50 = .ok (.iload_n 1, 1) := by decide +kernel
theorem dX9_reader_51 : decode cX9_reader 51 = .ok (.iload_n 3, 1) := by decide +kernel
theorem dX9_reader_52 : decode cX9_reader 52 = .ok (.iastore, 1) := by decide +kernel
theorem dX9_reader_53 : decode cX9_reader 53 = .ok (.aload_n 0, 1) := by decide +kernel
theorem dX9_reader_54 : decode cX9_reader 54 = .ok (.getfield 34, 3) := by decide +kernel
theorem dX9_reader_57 : decode cX9_reader 57 = .ok (.iload_n 1, 1) := by decide +kernel
theorem dX9_reader_58 : decode cX9_reader 58 = .ok (.iconst 0, 1) := by decide +kernel
theorem dX9_reader_59 : decode cX9_reader 59 = .ok (.iastore, 1) := by decide +kernel
theorem dX9_reader_60 : decode cX9_reader 60 = .ok (.iload 4, 2) := by decide +kernel
theorem dX9_reader_62 : decode cX9_reader 62 = .ok (.ireturn, 1) := by decide +kernel
set_option maxRecDepth 20000 in
theorem ggX9_melt_X9_in : GoodIn wsX9_melt wsX9_in := goodIn_r _ [6] (by decide +kernel) (by decide +kernel)
set_option maxRecDepth 20000 in
theorem gX9_melt_X9_in : GoodIn wsX9_melt (va_wsS RX9 83 yX9_in wsX9_in) := goodIn_app (goodIn_of _ (by decide +kernel)) ggX9_melt_X9_in
theorem dX9_melt_0 : decode cX9_melt 0 = .ok (.iload_n 1, 1) := by decide +kernel
theorem dX9_melt_1 : decode cX9_melt 1 = .ok (.i2l, 1) := by decide +kernel
theorem dX9_melt_2 : decode cX9_melt 2 = .ok (.lconst 1, 1) := by decide +kernel
theorem dX9_melt_3 : decode cX9_melt 3 = .ok (.ldc2_w 109, 3) := by decide +kernel
theorem dX9_melt_6 : decode cX9_melt 6 = .ok (.invokestatic 83, 3) := by decide +kernel
theorem dX9_melt_9 : decode cX9_melt 9 = .ok (.ifCond .ne 6, 3) := by decide +kernel
theorem dX9_melt_12 : decode cX9_melt 12 = .ok (.bipush (-2), 2) := by decide +kernel
theorem dX9_melt_14 : decode cX9_melt 14 = .ok (.ireturn, 1) := by decide +kernel
theorem dX9_melt_15 : decode cX9_melt 15 = .ok (.aload_n 0, 1) := by decide +kernel
theorem dX9_melt_16 : decode cX9_melt 16 = .ok (.getfield 77, 3) := by decide +kernel
theorem dX9_melt_19 : decode cX9_melt 19 = .ok (.istore_n 2, 1) := by decide +kernel
theorem dX9_melt_20 : decode cX9_melt 20 = .ok (.aload_n 0, 1) := by decide +kernel
theorem dX9_melt_21 : decode cX9_melt 21 = .ok (.iload_n 1, 1) := by decide +kernel
theorem dX9_melt_22 : decode cX9_melt 22 = .ok (.putfield 77, 3) := by decide +kernel
theorem dX9_melt_25 : decode cX9_melt 25 = .ok (.iload_n 2, 1) := by decide +kernel
theorem dX9_melt_26 : decode cX9_melt 26 = .ok (.ireturn, 1) := by decide +kernel
set_option maxRecDepth 20000 in
theorem ggX9_say_X9_in : GoodIn wsX9_say wsX9_in := goodIn_r _ [8] (by decide +kernel) (by decide +kernel)
set_option maxRecDepth 20000 in
theorem gX9_say_X9_in : GoodIn wsX9_say (va_wsS RX9 83 yX9_in wsX9_in) := goodIn_app (goodIn_of _ (by decide +kernel)) ggX9_say_X9_in
theorem dX9_say_0 : decode cX9_say 0 = .ok (.iload_n 1, 1) := by decide +kernel
theorem dX9_say_1 : decode cX9_say 1 = .ok (.i2l, 1) := by decide +kernel
theorem dX9_say_2 : decode cX9_say 2 = .ok (.ldc2_w 111, 3) := by decide +kernel
theorem dX9_say_5 : decode cX9_say 5 = .ok (.ldc2_w 113, 3) := by decide +kernel
theorem dX9_say_8 : decode cX9_say 8 = .ok (.invokestatic 83, 3) := by decide +kernel
theorem dX9_say_11 : decode cX9_say 11 = .ok (.ifCond .ne 6, 3) := by decide +kernel
theorem dX9_say_14 : decode cX9_say 14 = .ok (.bipush (-2), 2) := by decide +kernel
theorem dX9_say_16 : decode cX9_say 16 = .ok (.ireturn, 1) := by decide +kernel
theorem dX9_say_17 : decode cX9_say 17 = .ok (.aload_n 0, 1) := by decide +kernel
theorem dX9_say_18 : decode cX9_say 18 = .ok (.getfield 115, 3) := by decide +kernel
theorem dX9_say_21 : decode cX9_say 21 = .ok (.bipush 60, 2) := by decide +kernel
theorem dX9_say_23 : decode cX9_say 23 = .ok (.if_icmp .ne 6, 3) := by decide +kernel
theorem dX9_say_26 : decode cX9_say 26 = .ok (.bipush (-4), 2) := by decide +kernel
theorem dX9_say_28 : decode cX9_say 28 = .ok (.ireturn, 1) := by decide +kernel
theorem dX9_say_29 : decode cX9_say 29 = .ok (.aload_n 0, 1) := by decide +kernel
theorem dX9_say_30 : decode cX9_say 30 = .ok (.getfield 46, 3) := by decide +kernel
theorem dX9_say_33 : decode cX9_say 33 = .ok (.aload_n 0, 1) := by decide +kernel
theorem dX9_say_34 : decode cX9_say 34 = .ok (.getfield 115, 3) := by decide +kernel
theorem dX9_say_37 : decode cX9_say 37 = .ok (.iload_n 1, 1) := by decide +kernel
theorem dX9_say_38 : decode cX9_say 38 = .ok (.iastore, 1) := by decide +kernel
theorem dX9_say_39 : decode cX9_say 39 = .ok (.aload_n 0, 1) := by decide +kernel
theorem dX9_say_40 : decode cX9_say 40 = .ok (.dup, 1) := by decide +kernel
theorem dX9_say_41 : decode cX9_say 41 = .ok (.getfield 115, 3) := by decide +kernel
theorem dX9_say_44 : decode cX9_say 44 = .ok (.iconst 1, 1) := by decide +kernel
theorem dX9_say_45 : decode cX9_say 45 = .ok (.iadd, 1) := by decide +kernel
theorem dX9_say_46 : decode cX9_say 46 = .ok (.putfield 115, 3) := by decide +kernel
theorem dX9_say_49 : decode cX9_say 49 = .ok (.aload_n 0, 1) := by decide +kernel
theorem dX9_say_50 : decode cX9_say 50 = .ok (.getfield 115, 3) := by decide +kernel
theorem dX9_say_53 : decode cX9_say 53 = .ok (.ireturn, 1) := by decide +kernel
theorem dX9_wipe_0 : decode cX9_wipe 0 = .ok (.aload_n 0, 1) := by decide +kernel
theorem dX9_wipe_1 : decode cX9_wipe 1 = .ok (.getfield 115, 3) := by decide +kernel
theorem dX9_wipe_4 : decode cX9_wipe 4 = .ok (.istore_n 1, 1) := by decide +kernel
theorem dX9_wipe_5 : decode cX9_wipe 5 = .ok (.aload_n 0, 1) := by decide +kernel
theorem dX9_wipe_6 : decode cX9_wipe 6 = .ok (.iconst 0, 1) := by decide +kernel
theorem dX9_wipe_7 : decode cX9_wipe 7 = .ok (.putfield 115, 3) := by decide +kernel
theorem dX9_wipe_10 : decode cX9_wipe 10 = .ok (.iload_n 1, 1) := by decide +kernel
theorem dX9_wipe_11 : decode cX9_wipe 11 = .ok (.ireturn, 1) := by decide +kernel
theorem dX9_close_0 : decode cX9_close 0 = .ok (.aload_n 0, 1) := by decide +kernel
theorem dX9_close_1 : decode cX9_close 1 = .ok (.getfield 49, 3) := by decide +kernel
theorem dX9_close_4 : decode cX9_close 4 = .ok (.aload_n 0, 1) := by decide +kernel
theorem dX9_close_5 : decode cX9_close 5 = .ok (.getfield 118, 3) := by decide +kernel
theorem dX9_close_8 : decode cX9_close 8 = .ok (.iload_n 1, 1) := by decide +kernel
theorem dX9_close_9 : decode cX9_close 9 = .ok (.iastore, 1) := by decide +kernel
theorem dX9_close_10 : decode cX9_close 10 = .ok (.aload_n 0, 1) := by decide +kernel
theorem dX9_close_11 : decode cX9_close 11 = .ok (.getfield 55, 3) := by decide +kernel
theorem dX9_close_14 : decode cX9_close 14 = .ok (.aload_n 0, 1) := by decide +kernel
theorem dX9_close_15 : decode cX9_close 15 = .ok (.getfield 118, 3) := by decide +kernel
theorem dX9_close_18 : decode cX9_close 18 = .ok (.iload_n 2, 1) := by decide +kernel
theorem dX9_close_19 : decode cX9_close 19 = .ok (.iastore, 1) := by decide +kernel
theorem dX9_close_20 : decode cX9_close 20 = .ok (.aload_n 0, 1) := by decide +kernel
theorem dX9_close_21 : decode cX9_close 21 = .ok (.dup, 1) := by decide +kernel
theorem dX9_close_22 : decode cX9_close 22 = .ok (.getfield 118, 3) := by decide +kernel
theorem dX9_close_25 : decode cX9_close 25 = .ok (.iconst 1, 1) := by decide +kernel
theorem dX9_close_26 : decode cX9_close 26 = .ok (.iadd, 1) := by decide +kernel
theorem dX9_close_27 : decode cX9_close 27 = .ok (.putfield 118, 3) := by decide +kernel
theorem dX9_close_30 : decode cX9_close 30 = .ok (.iconst 0, 1) := by decide +kernel
theorem dX9_close_31 : decode cX9_close 31 = .ok (.ireturn, 1) := by decide +kernel
set_option maxRecDepth 20000 in
theorem ggX9_begin_X9_in : GoodIn wsX9_begin wsX9_in := goodIn_r _ [10] (by decide +kernel) (by decide +kernel)
set_option maxRecDepth 20000 in
theorem gX9_begin_X9_in : GoodIn wsX9_begin (va_wsS RX9 83 yX9_in wsX9_in) := goodIn_app (goodIn_of _ (by decide +kernel)) ggX9_begin_X9_in
set_option maxRecDepth 20000 in
theorem ggX9_begin_X9_close : GoodIn wsX9_begin wsX9_close := goodIn_r _ [14, 15, 6, 16, 17, 18, 19, 20, 21, 22, 23, 24, 25, 26, 27, 28, 29, 30, 31, 32, 33, 34, 35, 36, 37, 38, 39, 40, 41, 42, 43, 44, 45, 46, 47, 48, 49, 50, 51, 52, 53] (by decide +kernel) (by decide +kernel)
set_option maxRecDepth 20000 in
theorem gX9_begin_X9_close : GoodIn wsX9_begin (wsV RX9 129 RX9 yX9_close wsX9_close) := goodIn_app (goodIn_of _ (by decide +kernel)) ggX9_begin_X9_close
theorem dX9_begin_0 : decode cX9_begin 0 = .ok (.iload_n 1, 1) := by decide +kernel
theorem dX9_begin_1 : decode cX9_begin 1 = .ok (.i2l, 1) := by decide +kernel
theorem dX9_begin_2 : decode cX9_begin 2 = .ok (.ldc2_w 121, 3) := by decide +kernel
theorem dX9_begin_5 : decode cX9_begin 5 = .ok (.ldc2_w 123, 3) := by decide +kernel
theorem dX9_begin_8 : decode cX9_begin 8 = .ok (.invokestatic 83, 3) := by decide +kernel
theorem dX9_begin_11 : decode cX9_begin 11 = .ok (.istore_n 2, 1) := by decide +kernel
theorem dX9_begin_12 : decode cX9_begin 12 = .ok (.iload_n 1, 1) := by decide +kernel
theorem dX9_begin_13 : decode cX9_begin 13 = .ok (.i2l, 1) := by decide +kernel
theorem dX9_begin_14 : decode cX9_begin 14 = .ok (.ldc2_w 125, 3) := by decide +kernel
theorem dX9_begin_17 : decode cX9_begin 17 = .ok (.ldc2_w 127, 3) := by decide +kernel
theorem dX9_begin_20 : decode cX9_begin 20 = .ok (.invokestatic 83, 3) := by decide +kernel
theorem dX9_begin_23 : decode cX9_begin 23 = .ok (.istore_n 3, 1) := by decide +kernel
theorem dX9_begin_24 : decode cX9_begin 24 = .ok (.aload_n 0, 1) := by decide +kernel
theorem dX9_begin_25 : decode cX9_begin 25 = .ok (.getfield 52, 3) := by decide +kernel
theorem dX9_begin_28 : decode cX9_begin 28 = .ok (.aload_n 0, 1) := by decide +kernel
theorem dX9_begin_29 : decode cX9_begin 29 = .ok (.getfield 118, 3) := by decide +kernel
theorem dX9_begin_32 : decode cX9_begin 32 = .ok (.iload_n 2, 1) := by decide +kernel
theorem dX9_begin_33 : decode cX9_begin 33 = .ok (.ifCond .eq 10, 3) := by decide +kernel
theorem dX9_begin_36 : decode cX9_begin 36 = .ok (.iload_n 1, 1) := by decide +kernel
theorem dX9_begin_37 : decode cX9_begin 37 = .ok (.bipush 65, 2) := by decide +kernel
theorem dX9_begin_39 : decode cX9_begin 39 = .ok (.isub, 1) := by decide +kernel
theorem dX9_begin_40 : decode cX9_begin 40 = .ok (.goto 15, 3) := by decide +kernel
theorem dX9_begin_43 : decode cX9_begin 43 = .ok (.iload_n 3, 1) := by decide +kernel
theorem dX9_begin_44 : decode cX9_begin 44 = .ok (.ifCond .eq 10, 3) := by decide +kernel
theorem dX9_begin_47 : decode cX9_begin 47 = .ok (.iload_n 1, 1) := by decide +kernel
theorem dX9_begin_48 : decode cX9_begin 48 = .ok (.bipush 48, 2) := by decide +kernel
theorem dX9_begin_50 : decode cX9_begin 50 = .ok (.isub, 1) := by decide +kernel
theorem dX9_begin_51 : decode cX9_begin 51 = .ok (.goto 4, 3) := by decide +kernel
theorem dX9_begin_54 : decode cX9_begin 54 = .ok (.iconst 0, 1) := by decide +kernel
theorem dX9_begin_55 : decode cX9_begin 55 = .ok (.iastore, 1) := by decide +kernel
theorem dX9_begin_56 : decode cX9_begin 56 = .ok (.iload_n 2, 1) := by decide +kernel
theorem dX9_begin_57 : decode cX9_begin 57 = .ok (.ifCond .eq 7, 3) := by decide +kernel
theorem dX9_begin_60 : decode cX9_begin 60 = .ok (.iconst 1, 1) := by decide +kernel
theorem dX9_begin_61 : decode cX9_begin 61 = .ok (.goto 28, 3) := by decide +kernel
theorem dX9_begin_64 : decode cX9_begin 64 = .ok (.iload_n 3, 1) := by decide +kernel
theorem dX9_begin_65 : decode cX9_begin 65 = .ok (.ifCond .eq 7, 3) := by decide +kernel
theorem dX9_begin_68 : decode cX9_begin 68 = .ok (.iconst 2, 1) := by decide +kernel
theorem dX9_begin_69 : decode cX9_begin 69 = .ok (.goto 20, 3) := by decide +kernel
theorem dX9_begin_72 : decode cX9_begin 72 = .ok (.iload_n 1, 1) := by decide +kernel
theorem dX9_begin_73 : decode cX9_begin 73 = .ok (.bipush 46, 2) := by decide +kernel
theorem dX9_begin_75 : decode cX9_begin 75 = .ok (.if_icmp .ne 12, 3) := by decide +kernel
theorem dX9_begin_78 : decode cX9_begin 78 = .ok (.aload_n 0, 1) := by decide +kernel
theorem dX9_begin_79 : decode cX9_begin 79 = .ok (.iconst 5, 1) := by decide +kernel
theorem dX9_begin_80 : decode cX9_begin 80 = .ok (.iconst 0, 1) := by decide +kernel
theorem dX9_begin_81 : decode cX9_begin 81 = .ok (.invokevirtual 129, 3) := by decide +kernel
theorem dX9_begin_84 : decode cX9_begin 84 = .ok (.goto 5, 3) := by decide +kernel
theorem dX9_begin_87 : decode cX9_begin 87 = .ok (.bipush (-6), 2) := by decide +kernel
theorem dX9_begin_89 : decode cX9_begin 89 = .ok (.ireturn, 1) := by decide +kernel
theorem dX9_deed_0 : decode cX9_deed 0 = .ok (.iload_n 1, 1) := by decide +kernel
theorem dX9_deed_1 : decode cX9_deed 1 = .ok (.bipush 62, 2) := by decide +kernel
theorem dX9_deed_3 : decode cX9_deed 3 = .ok (.if_icmp .ne 7, 3) := by decide +kernel
theorem dX9_deed_6 : decode cX9_deed 6 = .ok (.iconst 3, 1) := by decide +kernel
theorem dX9_deed_7 : decode cX9_deed 7 = .ok (.goto 15, 3) := by decide +kernel
theorem dX9_deed_10 : decode cX9_deed 10 = .ok (.iload_n 1, 1) := by decide +kernel
theorem dX9_deed_11 : decode cX9_deed 11 = .ok (.bipush 64, 2) := by decide +kernel
theorem dX9_deed_13 : decode cX9_deed 13 = .ok (.if_icmp .ne 7, 3) := by decide +kernel
theorem dX9_deed_16 : decode cX9_deed 16 = .ok (.iconst 4, 1) := by decide +kernel
theorem dX9_deed_17 : decode cX9_deed 17 = .ok (.goto 5, 3) := by decide +kernel
theorem dX9_deed_20 : decode cX9_deed 20 = .ok (.bipush (-6), 2) := by decide +kernel
theorem dX9_deed_22 : decode cX9_deed 22 = .ok (.ireturn, 1) := by decide +kernel
set_option maxRecDepth 20000 in
theorem ggX9_step_X9_close : GoodIn wsX9_step wsX9_close := goodIn_r _ [5, 6, 7, 8, 9, 10, 11, 12, 13, 14, 15, 16, 17, 18, 19, 20, 21, 22, 23, 24, 25, 26, 27, 28, 29, 30, 31, 32, 33, 34, 35, 36, 37, 38, 39, 40, 41, 42, 43, 44, 45] (by decide +kernel) (by decide +kernel)
set_option maxRecDepth 20000 in
theorem gX9_step_X9_close : GoodIn wsX9_step (wsV RX9 129 RX9 yX9_close wsX9_close) := goodIn_app (goodIn_of _ (by decide +kernel)) ggX9_step_X9_close
theorem dX9_step_0 : decode cX9_step 0 = .ok (.iload_n 1, 1) := by decide +kernel
theorem dX9_step_1 : decode cX9_step 1 = .ok (.bipush 62, 2) := by decide +kernel
theorem dX9_step_3 : decode cX9_step 3 = .ok (.if_icmp .ne 12, 3) := by decide +kernel
theorem dX9_step_6 : decode cX9_step 6 = .ok (.aload_n 0, 1) := by decide +kernel
theorem dX9_step_7 : decode cX9_step 7 = .ok (.iconst 2, 1) := by decide +kernel
theorem dX9_step_8 : decode cX9_step 8 = .ok (.iconst 0, 1) := by decide +kernel
theorem dX9_step_9 : decode cX9_step 9 = .ok (.invokevirtual 129, 3) := by decide +kernel
theorem dX9_step_12 : decode cX9_step 12 = .ok (.goto 30, 3) := by decide +kernel
theorem dX9_step_15 : decode cX9_step 15 = .ok (.iload_n 1, 1) := by decide +kernel
theorem dX9_step_16 : decode cX9_step 16 = .ok (.bipush 60, 2) := by decide +kernel
theorem dX9_step_18 : decode cX9_step 18 = .ok (.if_icmp .ne 12, 3) := by decide +kernel
theorem dX9_step_21 : decode cX9_step 21 = .ok (.aload_n 0, 1) := by decide +kernel
theorem dX9_step_22 : decode cX9_step 22 = .ok (.iconst 3, 1) := by decide +kernel
theorem dX9_step_23 : decode cX9_step 23 = .ok (.iconst 0, 1) := by decide +kernel
theorem dX9_step_24 : decode cX9_step 24 = .ok (.invokevirtual 129, 3) := by decide +kernel
theorem dX9_step_27 : decode cX9_step 27 = .ok (.goto 15, 3) := by decide +kernel
theorem dX9_step_30 : decode cX9_step 30 = .ok (.iload_n 1, 1) := by decide +kernel
theorem dX9_step_31 : decode cX9_step 31 = .ok (.bipush 63, 2) := by decide +kernel
theorem dX9_step_33 : decode cX9_step 33 = .ok (.if_icmp .ne 7, 3) := by decide +kernel
theorem dX9_step_36 : decode cX9_step 36 = .ok (.iconst 5, 1) := by decide +kernel
theorem dX9_step_37 : decode cX9_step 37 = .ok (.goto 5, 3) := by decide +kernel
theorem dX9_step_40 : decode cX9_step 40 = .ok (.bipush (-6), 2) := by decide +kernel
theorem dX9_step_42 : decode cX9_step 42 = .ok (.ireturn, 1) := by decide +kernel
set_option maxRecDepth 20000 in
theorem ggX9_readOn_X9_begin : GoodIn wsX9_readOn wsX9_begin := goodIn_r _ [9, 3, 4, 10, 11, 12, 13, 14, 15, 8, 16, 17, 18, 19, 20, 21, 22, 31, 32, 33, 34, 35, 36, 37, 38, 39, 40, 41, 42, 43, 44, 45, 46, 47, 48, 49, 50, 51, 52, 53, 54, 55, 56, 57, 58, 59, 60, 61, 62, 63, 64, 65, 66, 67] (by decide +kernel) (by decide +kernel)
set_option maxRecDepth 20000 in
theorem gX9_readOn_X9_begin : GoodIn wsX9_readOn (wsV RX9 133 RX9 yX9_begin wsX9_begin) := goodIn_app (goodIn_of _ (by decide +kernel)) ggX9_readOn_X9_begin
set_option maxRecDepth 20000 in
theorem ggX9_readOn_X9_deed : GoodIn wsX9_readOn wsX9_deed := goodIn_r _ [26] (by decide +kernel) (by decide +kernel)
set_option maxRecDepth 20000 in
theorem gX9_readOn_X9_deed : GoodIn wsX9_readOn (wsV RX9 137 RX9 yX9_deed wsX9_deed) := goodIn_app (goodIn_of _ (by decide +kernel)) ggX9_readOn_X9_deed
set_option maxRecDepth 20000 in
theorem ggX9_readOn_X9_step : GoodIn wsX9_readOn wsX9_step := goodIn_r _ [30, 17, 18, 19, 8, 20, 21, 13, 22, 31, 32, 33, 34, 35, 36, 37, 38, 39, 40, 41, 42, 43, 44, 45, 46, 47, 48, 49, 50, 51, 52, 53, 54, 55, 56, 57, 58, 59, 60, 61, 62, 63, 64, 65, 66, 67] (by decide +kernel) (by decide +kernel)
set_option maxRecDepth 20000 in
theorem gX9_readOn_X9_step : GoodIn wsX9_readOn (wsV RX9 140 RX9 yX9_step wsX9_step) := goodIn_app (goodIn_of _ (by decide +kernel)) ggX9_readOn_X9_step
set_option maxRecDepth 20000 in
theorem ggX9_readOn_X9_in : GoodIn wsX9_readOn wsX9_in := goodIn_r _ [16] (by decide +kernel) (by decide +kernel)
set_option maxRecDepth 20000 in
theorem gX9_readOn_X9_in : GoodIn wsX9_readOn (va_wsS RX9 83 yX9_in wsX9_in) := goodIn_app (goodIn_of _ (by decide +kernel)) ggX9_readOn_X9_in
set_option maxRecDepth 20000 in
theorem ggX9_readOn_X9_close : GoodIn wsX9_readOn wsX9_close := goodIn_r _ [20, 21, 13, 22, 31, 32, 33, 34, 35, 36, 37, 38, 39, 40, 41, 42, 43, 44, 45, 46, 47, 48, 49, 50, 51, 52, 53, 54, 55, 56, 57, 58, 59, 60, 61, 62, 63, 64, 65, 66, 67] (by decide +kernel) (by decide +kernel)
set_option maxRecDepth 20000 in
theorem gX9_readOn_X9_close : GoodIn wsX9_readOn (wsV RX9 129 RX9 yX9_close wsX9_close) := goodIn_app (goodIn_of _ (by decide +kernel)) ggX9_readOn_X9_close
theorem dX9_readOn_0 : decode cX9_readOn 0 = .ok (.iload_n 1, 1) := by decide +kernel
theorem dX9_readOn_1 : decode cX9_readOn 1 = .ok (.tableswitch 82 0 4 #[35, 41, 47, 82, 53], 35) := by decide +kernel
theorem dX9_readOn_36 : decode cX9_readOn 36 = .ok (.aload_n 0, 1) := by decide +kernel
theorem dX9_readOn_37 : decode cX9_readOn 37 = .ok (.iload_n 2, 1) := by decide +kernel
theorem dX9_readOn_38 : decode cX9_readOn 38 = .ok (.invokevirtual 133, 3) := by decide +kernel
theorem dX9_readOn_41 : decode cX9_readOn 41 = .ok (.ireturn, 1) := by decide +kernel
theorem dX9_readOn_42 : decode cX9_readOn 42 = .ok (.aload_n 0, 1) := by decide +kernel
theorem dX9_readOn_43 : decode cX9_readOn 43 = .ok (.iload_n 2, 1) := by decide +kernel
theorem dX9_readOn_44 : decode cX9_readOn 44 = .ok (.invokevirtual 137, 3) := by decide +kernel
theorem dX9_readOn_47 : decode cX9_readOn 47 = .ok (.ireturn, 1) := by decide +kernel
theorem dX9_readOn_48 : decode cX9_readOn 48 = .ok (.aload_n 0, 1) := by decide +kernel
theorem dX9_readOn_49 : decode cX9_readOn 49 = .ok (.iload_n 2, 1) := by decide +kernel
theorem dX9_readOn_50 : decode cX9_readOn 50 = .ok (.invokevirtual 140, 3) := by decide +kernel
theorem dX9_readOn_53 : decode cX9_readOn 53 = .ok (.ireturn, 1) := by decide +kernel
theorem dX9_readOn_54 : decode cX9_readOn 54 = .ok (.iload_n 2, 1) := by decide +kernel
theorem dX9_readOn_55 : decode cX9_readOn 55 = .ok (.i2l, 1) := by decide +kernel
theorem dX9_readOn_56 : decode cX9_readOn 56 = .ok (.ldc2_w 143, 3) := by decide +kernel
theorem dX9_readOn_59 : decode cX9_readOn 59 = .ok (.ldc2_w 145, 3) := by decide +kernel
theorem dX9_readOn_62 : decode cX9_readOn 62 = .ok (.invokestatic 83, 3) := by decide +kernel
theorem dX9_readOn_65 : decode cX9_readOn 65 = .ok (.ifCond .eq 15, 3) := by decide +kernel
theorem dX9_readOn_68 : decode cX9_readOn 68 = .ok (.aload_n 0, 1) := by decide +kernel
theorem dX9_readOn_69 : decode cX9_readOn 69 = .ok (.iconst 1, 1) := by decide +kernel
theorem dX9_readOn_70 : decode cX9_readOn 70 = .ok (.iload_n 2, 1) := by decide +kernel
theorem dX9_readOn_71 : decode cX9_readOn 71 = .ok (.bipush 97, 2) := by decide +kernel
theorem dX9_readOn_73 : decode cX9_readOn 73 = .ok (.isub, 1) := by decide +kernel
theorem dX9_readOn_74 : decode cX9_readOn 74 = .ok (.invokevirtual 129, 3) := by decide +kernel
theorem dX9_readOn_77 : decode cX9_readOn 77 = .ok (.goto 5, 3) := by decide +kernel
theorem dX9_readOn_80 : decode cX9_readOn 80 = .ok (.bipush (-6), 2) := by decide +kernel
theorem dX9_readOn_82 : decode cX9_readOn 82 = .ok (.ireturn, 1) := by decide +kernel
theorem dX9_readOn_83 : decode cX9_readOn 83 = .ok (.iload_n 2, 1) := by decide +kernel
theorem dX9_readOn_84 : decode cX9_readOn 84 = .ok (.i2l, 1) := by decide +kernel
theorem dX9_readOn_85 : decode cX9_readOn 85 = .ok (.ldc2_w 121, 3) := by decide +kernel
theorem dX9_readOn_88 : decode cX9_readOn 88 = .ok (.ldc2_w 123, 3) := by decide +kernel
theorem dX9_readOn_91 : decode cX9_readOn 91 = .ok (.invokestatic 83, 3) := by decide +kernel
theorem dX9_readOn_94 : decode cX9_readOn 94 = .ok (.ifCond .eq 24, 3) := by decide +kernel
theorem dX9_readOn_97 : decode cX9_readOn 97 = .ok (.aload_n 0, 1) := by decide +kernel
