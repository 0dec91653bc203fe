theorem dX8_storm_13 : decode cX8_storm 13 = .ok (.bipush 99, 2) := by decide +kernel
theorem dX8_storm_15 : decode cX8_storm 15 = .ok (.invokestatic 62, 3) := by decide +kernel
theorem dX8_storm_18 : decode cX8_storm 18 = .ok (.ifCond .eq 12, 3) := by decide +kernel
theorem dX8_storm_21 : decode cX8_storm 21 = .ok (.iload_n 3, 1) := by decide +kernel
theorem dX8_storm_22 : decode cX8_storm 22 = .ok (.iconst 0, 1) := by decide +kernel
theorem dX8_storm_23 : decode cX8_storm 23 = .ok (.iconst 2, 1) := by decide +kernel
theorem dX8_storm_24 : decode cX8_storm 24 = .ok (.invokestatic 62, 3) := by decide +kernel
theorem dX8_storm_27 : decode cX8_storm 27 = .ok (.ifCond .ne 6, 3) := by decide +kernel
theorem dX8_storm_30 : decode cX8_storm 30 = .ok (.bipush (-2), 2) := by decide +kernel
theorem dX8_storm_32 : decode cX8_storm 32 = .ok (.ireturn, 1) := by decide +kernel
theorem dX8_storm_33 : decode cX8_storm 33 = .ok (.aload_n 0, 1) := by decide +kernel
theorem dX8_storm_34 : decode cX8_storm 34 = .ok (.getfield 26, 3) := by decide +kernel
theorem dX8_storm_37 : decode cX8_storm 37 = .ok (.aload_n 0, 1) := by decide +kernel
theorem dX8_storm_38 : decode cX8_storm 38 = .ok (.getfield 10, 3) := by decide +kernel
theorem dX8_storm_41 : decode cX8_storm 41 = .ok (.invokevirtual 160, 3) := by decide +kernel
theorem dX8_storm_44 : decode cX8_storm 44 = .ok (.aload_n 0, 1) := by decide +kernel
theorem dX8_storm_45 : decode cX8_storm 45 = .ok (.getfield 26, 3) := by decide +kernel
theorem dX8_storm_48 : decode cX8_storm 48 = .ok (.iload_n 1, 1) := by decide +kernel
theorem dX8_storm_49 : decode cX8_storm 49 = .ok (.iload_n 2, 1) := by decide +kernel
theorem dX8_storm_50 : decode cX8_storm 50 = .ok (.invokevirtual 237, 3) := by decide +kernel
theorem dX8_storm_53 : decode cX8_storm 53 = .ok (.iload_n 3, 1) := by decide +kernel
theorem dX8_storm_54 : decode cX8_storm 54 = .ok (.ifCond .ne 14, 3) := by decide +kernel
theorem dX8_storm_57 : decode cX8_storm 57 = .ok (.aload_n 0, 1) := by decide +kernel
theorem dX8_storm_58 : decode cX8_storm 58 = .ok (.getfield 26, 3) := by decide +kernel
theorem dX8_storm_61 : decode cX8_storm 61 = .ok (.getfield 125, 3) := by decide +kernel
theorem dX8_storm_64 : decode cX8_storm 64 = .ok (.invokevirtual 138, 3) := by decide +kernel
theorem dX8_storm_67 : decode cX8_storm 67 = .ok (.ireturn, 1) := by decide +kernel
theorem dX8_storm_68 : decode cX8_storm 68 = .ok (.iload_n 3, 1) := by decide +kernel
theorem dX8_storm_69 : decode cX8_storm 69 = .ok (.iconst 1, 1) := by decide +kernel
theorem dX8_storm_70 : decode cX8_storm 70 = .ok (.if_icmp .ne 13, 3) := by decide +kernel
theorem dX8_storm_73 : decode cX8_storm 73 = .ok (.aload_n 0, 1) := by decide +kernel
theorem dX8_storm_74 : decode cX8_storm 74 = .ok (.getfield 26, 3) := by decide +kernel
theorem dX8_storm_77 : decode cX8_storm 77 = .ok (.getfield 122, 3) := by decide +kernel
theorem dX8_storm_80 : decode cX8_storm 80 = .ok (.goto 13, 3) := by decide +kernel
theorem dX8_storm_83 : decode cX8_storm 83 = .ok (.aload_n 0, 1) := by decide +kernel
theorem dX8_storm_84 : decode cX8_storm 84 = .ok (.getfield 26, 3) := by decide +kernel
theorem dX8_storm_87 : decode cX8_storm 87 = .ok (.getfield 125, 3) := by decide +kernel
theorem dX8_storm_90 : decode cX8_storm 90 = .ok (.invokevirtual 241, 3) := by decide +kernel
theorem dX8_storm_93 : decode cX8_storm 93 = .ok (.ireturn, 1) := by decide +kernel
set_option maxRecDepth 20000 in
theorem ggX8_image_X8_within : GoodIn wsX8_image wsX8_within := goodIn_r _ [10] (by decide +kernel) (by decide +kernel)
set_option maxRecDepth 20000 in
theorem gX8_image_X8_within : GoodIn wsX8_image (va_wsS RX8 62 yX8_within wsX8_within) := goodIn_app (goodIn_of _ (by decide +kernel)) ggX8_image_X8_within
set_option maxRecDepth 20000 in
theorem ggX8_image_X5_copyFrom : GoodIn wsX8_image wsX5_copyFrom := goodIn_r _ [15, 16, 17, 18, 19, 20, 21, 22, 23, 24, 25, 26, 27, 28, 29, 30, 51, 52, 53, 54, 55, 56, 57, 58, 59, 60, 61] (by decide +kernel) (by decide +kernel)
set_option maxRecDepth 20000 in
theorem gX8_image_X5_copyFrom : GoodIn wsX8_image (wsV RX8 153 RX5 yX5_copyFrom wsX5_copyFrom) := goodIn_app (goodIn_of _ (by decide +kernel)) ggX8_image_X5_copyFrom
set_option maxRecDepth 20000 in
theorem ggX8_image_X7_copyFrom : GoodIn wsX8_image wsX7_copyFrom := goodIn_r _ [35, 36, 37, 18, 19, 20, 38, 39, 40, 62, 63, 64, 65] (by decide +kernel) (by decide +kernel)
set_option maxRecDepth 20000 in
theorem gX8_image_X7_copyFrom : GoodIn wsX8_image (wsV RX8 248 RX7 yX7_copyFrom wsX7_copyFrom) := goodIn_app (goodIn_of _ (by decide +kernel)) ggX8_image_X7_copyFrom
theorem dX8_image_0 : decode cX8_image 0 = .ok (.iload_n 1, 1) := by decide +kernel
theorem dX8_image_1 : decode cX8_image 1 = .ok (.iconst 0, 1) := by decide +kernel
theorem dX8_image_2 : decode cX8_image 2 = .ok (.iconst 1, 1) := by decide +kernel
theorem dX8_image_3 : decode cX8_image 3 = .ok (.invokestatic 62, 3) := by decide +kernel
theorem dX8_image_6 : decode cX8_image 6 = .ok (.ifCond .ne 6, 3) := by decide +kernel
theorem dX8_image_9 : decode cX8_image 9 = .ok (.bipush (-2), 2) := by decide +kernel
theorem dX8_image_11 : decode cX8_image 11 = .ok (.ireturn, 1) := by decide +kernel
theorem dX8_image_12 : decode cX8_image 12 = .ok (.aload_n 0, 1) := by decide +kernel
theorem dX8_image_13 : decode cX8_image 13 = .ok (.getfield 53, 3) := by decide +kernel
theorem dX8_image_16 : decode cX8_image 16 = .ok (.iload_n 1, 1) := by decide +kernel
theorem dX8_image_17 : decode cX8_image 17 = .ok (.aaload, 1) := by decide +kernel
theorem dX8_image_18 : decode cX8_image 18 = .ok (.getfield 244, 3) := by decide +kernel
theorem dX8_image_21 : decode cX8_image 21 = .ok (.aload_n 0, 1) := by decide +kernel
theorem dX8_image_22 : decode cX8_image 22 = .ok (.getfield 10, 3) := by decide +kernel
theorem dX8_image_25 : decode cX8_image 25 = .ok (.invokevirtual 153, 3) := by decide +kernel
theorem dX8_image_28 : decode cX8_image 28 = .ok (.aload_n 0, 1) := by decide +kernel
theorem dX8_image_29 : decode cX8_image 29 = .ok (.getfield 53, 3) := by decide +kernel
theorem dX8_image_32 : decode cX8_image 32 = .ok (.iload_n 1, 1) := by decide +kernel
theorem dX8_image_33 : decode cX8_image 33 = .ok (.aaload, 1) := by decide +kernel
theorem dX8_image_34 : decode cX8_image 34 = .ok (.getfield 247, 3) := by decide +kernel
theorem dX8_image_37 : decode cX8_image 37 = .ok (.aload_n 0, 1) := by decide +kernel
theorem dX8_image_38 : decode cX8_image 38 = .ok (.getfield 40, 3) := by decide +kernel
theorem dX8_image_41 : decode cX8_image 41 = .ok (.invokevirtual 248, 3) := by decide +kernel
theorem dX8_image_44 : decode cX8_image 44 = .ok (.aload_n 0, 1) := by decide +kernel
theorem dX8_image_45 : decode cX8_image 45 = .ok (.getfield 53, 3) := by decide +kernel
theorem dX8_image_48 : decode cX8_image 48 = .ok (.iload_n 1, 1) := by decide +kernel
theorem dX8_image_49 : decode cX8_image 49 = .ok (.aaload, 1) := by decide +kernel
theorem dX8_image_50 : decode cX8_image 50 = .ok (.iconst 1, 1) := by decide +kernel
theorem dX8_image_51 : decode cX8_image 51 = .ok (.putfield 250, 3) := by decide +kernel
theorem dX8_image_54 : decode cX8_image 54 = .ok (.iconst 1, 1) := by decide +kernel
theorem dX8_image_55 : decode cX8_image 55 = .ok (.ireturn, 1) := by decide +kernel
set_option maxRecDepth 20000 in
theorem ggX8_restore_X8_within : GoodIn wsX8_restore wsX8_within := goodIn_r _ [10] (by decide +kernel) (by decide +kernel)
set_option maxRecDepth 20000 in
theorem gX8_restore_X8_within : GoodIn wsX8_restore (va_wsS RX8 62 yX8_within wsX8_within) := goodIn_app (goodIn_of _ (by decide +kernel)) ggX8_restore_X8_within
set_option maxRecDepth 20000 in
theorem ggX8_restore_X5_copyFrom : GoodIn wsX8_restore wsX5_copyFrom := goodIn_r _ [15, 16, 17, 18, 19, 20, 21, 22, 23, 24, 25, 26, 27, 28, 29, 30, 51, 52, 53, 54, 55, 56, 57, 58, 59, 60, 61] (by decide +kernel) (by decide +kernel)
set_option maxRecDepth 20000 in
theorem gX8_restore_X5_copyFrom : GoodIn wsX8_restore (wsV RX8 153 RX5 yX5_copyFrom wsX5_copyFrom) := goodIn_app (goodIn_of _ (by decide +kernel)) ggX8_restore_X5_copyFrom
set_option maxRecDepth 20000 in
theorem ggX8_restore_X7_copyFrom : GoodIn wsX8_restore wsX7_copyFrom := goodIn_r _ [35, 36, 37, 18, 19, 20, 38, 39, 40, 62, 63, 64, 65] (by decide +kernel) (by decide +kernel)
set_option maxRecDepth 20000 in
theorem gX8_restore_X7_copyFrom : GoodIn wsX8_restore (wsV RX8 248 RX7 yX7_copyFrom wsX7_copyFrom) := goodIn_app (goodIn_of _ (by decide +kernel)) ggX8_restore_X7_copyFrom
theorem dX8_restore_0 : decode cX8_restore 0 = .ok (.iload_n 1, 1) := by decide +kernel
theorem dX8_restore_1 : decode cX8_restore 1 = .ok (.iconst 0, 1) := by decide +kernel
theorem dX8_restore_2 : decode cX8_restore 2 = .ok (.iconst 1, 1) := by decide +kernel
theorem dX8_restore_3 : decode cX8_restore 3 = .ok (.invokestatic 62, 3) := by decide +kernel
theorem dX8_restore_6 : decode cX8_restore 6 = .ok (.ifCond .ne 6, 3) := by decide +kernel
theorem dX8_restore_9 : decode cX8_restore 9 = .ok (.bipush (-2), 2) := by decide +kernel
theorem dX8_restore_11 : decode cX8_restore 11 = .ok (.ireturn, 1) := by decide +kernel
theorem dX8_restore_12 : decode cX8_restore 12 = .ok (.aload_n 0, 1) := by decide +kernel
theorem dX8_restore_13 : decode cX8_restore 13 = .ok (.getfield 53, 3) := by decide +kernel
theorem dX8_restore_16 : decode cX8_restore 16 = .ok (.iload_n 1, 1) := by decide +kernel
theorem dX8_restore_17 : decode cX8_restore 17 = .ok (.aaload, 1) := by decide +kernel
theorem dX8_restore_18 : decode cX8_restore 18 = .ok (.getfield 250, 3) := by decide +kernel
theorem dX8_restore_21 : decode cX8_restore 21 = .ok (.ifCond .ne 6, 3) := by decide +kernel
theorem dX8_restore_24 : decode cX8_restore 24 = .ok (.bipush (-3), 2) := by decide +kernel
theorem dX8_restore_26 : decode cX8_restore 26 = .ok (.ireturn, 1) := by decide +kernel
theorem dX8_restore_27 : decode cX8_restore 27 = .ok (.aload_n 0, 1) := by decide +kernel
theorem dX8_restore_28 : decode cX8_restore 28 = .ok (.getfield 10, 3) := by decide +kernel
theorem dX8_restore_31 : decode cX8_restore 31 = .ok (.aload_n 0, 1) := by decide +kernel
theorem dX8_restore_32 : decode cX8_restore 32 = .ok (.getfield 53, 3) := by decide +kernel
theorem dX8_restore_35 : decode cX8_restore 35 = .ok (.iload_n 1, 1) := by decide +kernel
theorem dX8_restore_36 : decode cX8_restore 36 = .ok (.aaload, 1) := by decide +kernel
theorem dX8_restore_37 : decode cX8_restore 37 = .ok (.getfield 244, 3) := by decide +kernel
theorem dX8_restore_40 : decode cX8_restore 40 = .ok (.invokevirtual 153, 3) := by decide +kernel
theorem dX8_restore_43 : decode cX8_restore 43 = .ok (.aload_n 0, 1) := by decide +kernel
theorem dX8_restore_44 : decode cX8_restore 44 = .ok (.getfield 40, 3) := by decide +kernel
theorem dX8_restore_47 : decode cX8_restore 47 = .ok (.aload_n 0, 1) := by decide +kernel
theorem dX8_restore_48 : decode cX8_restore 48 = .ok (.getfield 53, 3) := by decide +kernel
theorem dX8_restore_51 : decode cX8_restore 51 = .ok (.iload_n 1, 1) := by decide +kernel
theorem dX8_restore_52 : decode cX8_restore 52 = .ok (.aaload, 1) := by decide +kernel
theorem dX8_restore_53 : decode cX8_restore 53 = .ok (.getfield 247, 3) := by decide +kernel
theorem dX8_restore_56 : decode cX8_restore 56 = .ok (.invokevirtual 248, 3) := by decide +kernel
theorem dX8_restore_59 : decode cX8_restore 59 = .ok (.iconst 1, 1) := by decide +kernel
theorem dX8_restore_60 : decode cX8_restore 60 = .ok (.ireturn, 1) := by decide +kernel
set_option maxRecDepth 20000 in
theorem ggX8_told_X8_within : GoodIn wsX8_told wsX8_within := goodIn_r _ [5] (by decide +kernel) (by decide +kernel)
set_option maxRecDepth 20000 in
theorem gX8_told_X8_within : GoodIn wsX8_told (va_wsS RX8 62 yX8_within wsX8_within) := goodIn_app (goodIn_of _ (by decide +kernel)) ggX8_told_X8_within
set_option maxRecDepth 20000 in
theorem ggX8_told_X8_toldOfAll : GoodIn wsX8_told wsX8_toldOfAll := goodIn_r _ [9, 10, 11, 1, 12, 13, 14, 15, 16, 17, 18, 19, 20, 21, 22, 23, 24, 25, 26, 27, 28, 29, 30, 31, 32, 33, 34, 35, 56, 57, 58, 59, 60, 61, 62, 63, 64, 65, 66, 67, 68, 69, 70, 71, 72, 73, 74, 75, 76, 77, 78, 79] (by decide +kernel) (by decide +kernel)
set_option maxRecDepth 20000 in
theorem gX8_told_X8_toldOfAll : GoodIn wsX8_told (wsV RX8 254 RX8 yX8_toldOfAll wsX8_toldOfAll) := goodIn_app (goodIn_of _ (by decide +kernel)) ggX8_told_X8_toldOfAll
set_option maxRecDepth 20000 in
theorem ggX8_told_X8_isPerson : GoodIn wsX8_told wsX8_isPerson := goodIn_r _ [38, 2, 3, 4, 5] (by decide +kernel) (by decide +kernel)
set_option maxRecDepth 20000 in
theorem gX8_told_X8_isPerson : GoodIn wsX8_told (va_wsS RX8 58 yX8_isPerson wsX8_isPerson) := goodIn_app (goodIn_of _ (by decide +kernel)) ggX8_told_X8_isPerson
set_option maxRecDepth 20000 in
theorem ggX8_told_X5_ofPerson : GoodIn wsX8_told wsX5_ofPerson := goodIn_r _ [42, 43, 44, 25, 45, 46, 65, 66, 67, 68, 69, 70, 71, 72, 73, 74, 75] (by decide +kernel) (by decide +kernel)
set_option maxRecDepth 20000 in
theorem gX8_told_X5_ofPerson : GoodIn wsX8_told (wsV RX8 128 RX5 yX5_ofPerson wsX5_ofPerson) := goodIn_app (goodIn_of _ (by decide +kernel)) ggX8_told_X5_ofPerson
set_option maxRecDepth 20000 in
theorem ggX8_told_X8_isReader : GoodIn wsX8_told wsX8_isReader := goodIn_r _ [49, 2, 3, 4, 5] (by decide +kernel) (by decide +kernel)
set_option maxRecDepth 20000 in
theorem gX8_told_X8_isReader : GoodIn wsX8_told (va_wsS RX8 83 yX8_isReader wsX8_isReader) := goodIn_app (goodIn_of _ (by decide +kernel)) ggX8_told_X8_isReader
set_option maxRecDepth 20000 in
theorem ggX8_told_X5_ofReader : GoodIn wsX8_told wsX5_ofReader := goodIn_r _ [53, 54, 34, 55, 30, 31, 32, 19, 33, 35, 65, 66, 67, 68, 69, 70, 71, 72, 73, 74, 75] (by decide +kernel) (by decide +kernel)
set_option maxRecDepth 20000 in
theorem gX8_told_X5_ofReader : GoodIn wsX8_told (wsV RX8 132 RX5 yX5_ofReader wsX5_ofReader) := goodIn_app (goodIn_of _ (by decide +kernel)) ggX8_told_X5_ofReader
theorem dX8_told_0 : decode cX8_told 0 = .ok (.iload_n 1, 1) := by decide +kernel
theorem dX8_told_1 : decode cX8_told 1 = .ok (.iconst 0, 1) := by decide +kernel
theorem dX8_told_2 : decode cX8_told 2 = .ok (.bipush 89, 2) := by decide +kernel
theorem dX8_told_4 : decode cX8_told 4 = .ok (.invokestatic 62, 3) := by decide +kernel
theorem dX8_told_7 : decode cX8_told 7 = .ok (.ifCond .ne 6, 3) := by decide +kernel
theorem dX8_told_10 : decode cX8_told 10 = .ok (.bipush (-2), 2) := by decide +kernel
theorem dX8_told_12 : decode cX8_told 12 = .ok (.ireturn, 1) := by decide +kernel
theorem dX8_told_13 : decode cX8_told 13 = .ok (.iload_n 1, 1) := by decide +kernel
theorem dX8_told_14 : decode cX8_told 14 = .ok (.bipush 10, 2) := by decide +kernel
theorem dX8_told_16 : decode cX8_told 16 = .ok (.idiv, 1) := by decide +kernel
theorem dX8_told_17 : decode cX8_told 17 = .ok (.istore_n 2, 1) := by decide +kernel
theorem dX8_told_18 : decode cX8_told 18 = .ok (.iload_n 1, 1) := by decide +kernel
theorem dX8_told_19 : decode cX8_told 19 = .ok (.bipush 10, 2) := by decide +kernel
theorem dX8_told_21 : decode cX8_told 21 = .ok (.irem, 1) := by decide +kernel
theorem dX8_told_22 : decode cX8_told 22 = .ok (.istore_n 3, 1) := by decide +kernel
theorem dX8_told_23 : decode cX8_told 23 = .ok (.iload_n 2, 1) := by decide +kernel
theorem dX8_told_24 : decode cX8_told 24 = .ok (.ifCond .ne 9, 3) := by decide +kernel
theorem dX8_told_27 : decode cX8_told 27 = .ok (.aload_n 0, 1) := by decide +kernel
theorem dX8_told_28 : decode cX8_told 28 = .ok (.iload_n 3, 1) := by decide +kernel
theorem dX8_told_29 : decode cX8_told 29 = .ok (.invokevirtual 254, 3) := by decide +kernel
theorem dX8_told_32 : decode cX8_told 32 = .ok (.ireturn, 1) := by decide +kernel
theorem dX8_told_33 : decode cX8_told 33 = .ok (.iload_n 2, 1) := by decide +kernel
theorem dX8_told_34 : decode cX8_told 34 = .ok (.iconst 5, 1) := by decide +kernel
theorem dX8_told_35 : decode cX8_told 35 = .ok (.if_icmp .gt 27, 3) := by decide +kernel
theorem dX8_told_38 : decode cX8_told 38 = .ok (.iload_n 3, 1) := by decide +kernel
theorem dX8_told_39 : decode cX8_told 39 = .ok (.invokestatic 58, 3) := by decide +kernel
theorem dX8_told_42 : decode cX8_told 42 = .ok (.ifCond .eq 17, 3) := by decide +kernel
theorem dX8_told_45 : decode cX8_told 45 = .ok (.aload_n 0, 1) := by decide +kernel
theorem dX8_told_46 : decode cX8_told 46 = .ok (.getfield 10, 3) := by decide +kernel
theorem dX8_told_49 : decode cX8_told 49 = .ok (.iload_n 3, 1) := by decide +kernel
theorem dX8_told_50 : decode cX8_told 50 = .ok (.iload_n 2, 1) := by decide +kernel
theorem dX8_told_51 : decode cX8_told 51 = .ok (.iconst 1, 1) := by decide +kernel
theorem dX8_told_52 : decode cX8_told 52 = .ok (.isub, 1) := by decide +kernel
theorem dX8_told_53 : decode cX8_told 53 = .ok (.invokevirtual 128, 3) := by decide +kernel
theorem dX8_told_56 : decode cX8_told 56 = .ok (.goto 5, 3) := by decide +kernel
theorem dX8_told_59 : decode cX8_told 59 = .ok (.bipush (-2), 2) := by decide +kernel
theorem dX8_told_61 : decode cX8_told 61 = .ok (.ireturn, 1) := by decide +kernel
theorem dX8_told_62 : decode cX8_told 62 = .ok (.iload_n 3, 1) := by decide +kernel
theorem dX8_told_63 : decode cX8_told 63 = .ok (.invokestatic 83, 3) := by decide +kernel
theorem dX8_told_66 : decode cX8_told 66 = .ok (.ifCond .eq 18, 3) := by decide +kernel
theorem dX8_told_69 : decode cX8_told 69 = .ok (.aload_n 0, 1) := by decide +kernel
theorem dX8_told_70 : decode cX8_told 70 = .ok (.getfield 10, 3) := by decide +kernel
theorem dX8_told_73 : decode cX8_told 73 = .ok (.iload_n 3, 1) := by decide +kernel
theorem dX8_told_74 : decode cX8_told 74 = .ok (.iload_n 2, 1) := by decide +kernel
theorem dX8_told_75 : decode cX8_told 75 = .ok (.bipush 6, 2) := by decide +kernel
theorem dX8_told_77 : decode cX8_told 77 = .ok (.isub, 1) := by decide +kernel
theorem dX8_told_78 : decode cX8_told 78 = .ok (.invokevirtual 132, 3) := by decide +kernel
theorem dX8_told_81 : decode cX8_told 81 = .ok (.goto 5, 3) := by decide +kernel
theorem dX8_told_84 : decode cX8_told 84 = .ok (.bipush (-2), 2) := by decide +kernel
theorem dX8_told_86 : decode cX8_told 86 = .ok (.ireturn, 1) := by decide +kernel
set_option maxRecDepth 20000 in
theorem ggX8_toldOfAll_X5_lyingStones : GoodIn wsX8_toldOfAll wsX5_lyingStones := goodIn_r _ [12, 13, 14, 15, 11, 16, 17, 37, 38, 39, 40, 41, 42, 43, 44, 45, 46, 47] (by decide +kernel) (by decide +kernel)
set_option maxRecDepth 20000 in
theorem gX8_toldOfAll_X5_lyingStones : GoodIn wsX8_toldOfAll (wsV RX8 138 RX5 yX5_lyingStones wsX5_lyingStones) := goodIn_app (goodIn_of _ (by decide +kernel)) ggX8_toldOfAll_X5_lyingStones
set_option maxRecDepth 20000 in
theorem ggX8_toldOfAll_X5_freeReaders : GoodIn wsX8_toldOfAll wsX5_freeReaders := goodIn_r _ [21, 22, 23, 24, 11, 25, 26, 27, 37, 38, 39, 40, 41, 42, 43, 44, 45, 46, 47] (by decide +kernel) (by decide +kernel)
set_option maxRecDepth 20000 in
theorem gX8_toldOfAll_X5_freeReaders : GoodIn wsX8_toldOfAll (wsV RX8 257 RX5 yX5_freeReaders wsX5_freeReaders) := goodIn_app (goodIn_of _ (by decide +kernel)) ggX8_toldOfAll_X5_freeReaders
theorem dX8_toldOfAll_0 : decode cX8_toldOfAll 0 = .ok (.iload_n 1, 1) := by decide +kernel
theorem dX8_toldOfAll_1 : decode cX8_toldOfAll 1 = .ok (.tableswitch 87 0 5 #[39, 47, 55, 63, 71, 79], 39) := by decide +kernel
theorem dX8_toldOfAll_40 : decode cX8_toldOfAll 40 = .ok (.aload_n 0, 1) := by decide +kernel
theorem dX8_toldOfAll_41 : decode cX8_toldOfAll 41 = .ok (.getfield 19, 3) := by decide +kernel
theorem dX8_toldOfAll_44 : decode cX8_toldOfAll 44 = .ok (.getfield 103, 3) := by decide +kernel
theorem dX8_toldOfAll_47 : decode cX8_toldOfAll 47 = .ok (.ireturn, 1) := by decide +kernel
theorem dX8_toldOfAll_48 : decode cX8_toldOfAll 48 = .ok (.aload_n 0, 1) := by decide +kernel
theorem dX8_toldOfAll_49 : decode cX8_toldOfAll 49 = .ok (.getfield 10, 3) := by decide +kernel
theorem dX8_toldOfAll_52 : decode cX8_toldOfAll 52 = .ok (.getfield 135, 3) := by decide +kernel
theorem dX8_toldOfAll_55 : decode cX8_toldOfAll 55 = .ok (.ireturn, 1) := by decide +kernel
theorem dX8_toldOfAll_56 : decode cX8_toldOfAll 56 = .ok (.aload_n 0, 1) := by decide +kernel
theorem dX8_toldOfAll_57 : decode cX8_toldOfAll 57 = .ok (.getfield 10, 3) := by decide +kernel
theorem dX8_toldOfAll_60 : decode cX8_toldOfAll 60 = .ok (.getfield 96, 3) := by decide +kernel
theorem dX8_toldOfAll_63 : decode cX8_toldOfAll 63 = .ok (.ireturn, 1) := by decide +kernel
theorem dX8_toldOfAll_64 : decode cX8_toldOfAll 64 = .ok (.aload_n 0, 1) := by decide +kernel
theorem dX8_toldOfAll_65 : decode cX8_toldOfAll 65 = .ok (.getfield 10, 3) := by decide +kernel
theorem dX8_toldOfAll_68 : decode cX8_toldOfAll 68 = .ok (.invokevirtual 138, 3) := by decide +kernel
theorem dX8_toldOfAll_71 : decode cX8_toldOfAll 71 = .ok (.ireturn, 1) := by decide +kernel
theorem dX8_toldOfAll_72 : decode cX8_toldOfAll 72 = .ok (.aload_n 0, 1) := by decide +kernel
theorem dX8_toldOfAll_73 : decode cX8_toldOfAll 73 = .ok (.getfield 10, 3) := by decide +kernel
theorem dX8_toldOfAll_76 : decode cX8_toldOfAll 76 = .ok (.invokevirtual 257, 3) := by decide +kernel
theorem dX8_toldOfAll_79 : decode cX8_toldOfAll 79 = .ok (.ireturn, 1) := by decide +kernel
theorem dX8_toldOfAll_80 : decode cX8_toldOfAll 80 = .ok (.aload_n 0, 1) := by decide +kernel
theorem dX8_toldOfAll_81 : decode cX8_toldOfAll 81 = .ok (.getfield 40, 3) := by decide +kernel
theorem dX8_toldOfAll_84 : decode cX8_toldOfAll 84 = .ok (.getfield 189, 3) := by decide +kernel
theorem dX8_toldOfAll_87 : decode cX8_toldOfAll 87 = .ok (.ireturn, 1) := by decide +kernel
theorem dX8_toldOfAll_88 : decode cX8_toldOfAll 88 = .ok (.bipush (-2), 2) := by decide +kernel
theorem dX8_toldOfAll_90 : decode cX8_toldOfAll 90 = .ok (.ireturn, 1) := by decide +kernel
theorem dX8_within_0 : decode cX8_within 0 = .ok (.iload_n 1, 1) := by decide +kernel
theorem dX8_within_1 : decode cX8_within 1 = .ok (.iload_n 0, 1) := by decide +kernel
theorem dX8_within_2 : decode cX8_within 2 = .ok (.if_icmp .gt 12, 3) := by decide +kernel
theorem dX8_within_5 : decode cX8_within 5 = .ok (.iload_n 0, 1) := by decide +kernel
theorem dX8_within_6 : decode cX8_within 6 = .ok (.iload_n 2, 1) := by decide +kernel
theorem dX8_within_7 : decode cX8_within 7 = .ok (.if_icmp .gt 7, 3) := by decide +kernel
theorem dX8_within_10 : decode cX8_within 10 = .ok (.iconst 1, 1) := by decide +kernel
theorem dX8_within_11 : decode cX8_within 11 = .ok (.goto 4, 3) := by decide +kernel
theorem dX8_within_14 : decode cX8_within 14 = .ok (.iconst 0, 1) := by decide +kernel
theorem dX8_within_15 : decode cX8_within 15 = .ok (.ireturn, 1) := by decide +kernel
set_option maxRecDepth 20000 in
theorem ggX8_isPerson_X8_within : GoodIn wsX8_isPerson wsX8_within := goodIn_r _ [4] (by decide +kernel) (by decide +kernel)
set_option maxRecDepth 20000 in
theorem gX8_isPerson_X8_within : GoodIn wsX8_isPerson (va_wsS RX8 62 yX8_within wsX8_within) := goodIn_app (goodIn_of _ (by decide +kernel)) ggX8_isPerson_X8_within
theorem dX8_isPerson_0 : decode cX8_isPerson 0 = .ok (.iload_n 0, 1) := by decide +kernel
theorem dX8_isPerson_1 : decode cX8_isPerson 1 = .ok (.iconst 0, 1) := by decide +kernel
theorem dX8_isPerson_2 : decode cX8_isPerson 2 = .ok (.bipush 7, 2) := by decide +kernel
theorem dX8_isPerson_4 : decode cX8_isPerson 4 = .ok (.invokestatic 62, 3) := by decide +kernel
theorem dX8_isPerson_7 : decode cX8_isPerson 7 = .ok (.ireturn, 1) := by decide +kernel
set_option maxRecDepth 20000 in
theorem ggX8_isReader_X8_within : GoodIn wsX8_isReader wsX8_within := goodIn_r _ [4] (by decide +kernel) (by decide +kernel)
set_option maxRecDepth 20000 in
theorem gX8_isReader_X8_within : GoodIn wsX8_isReader (va_wsS RX8 62 yX8_within wsX8_within) := goodIn_app (goodIn_of _ (by decide +kernel)) ggX8_isReader_X8_within
theorem dX8_isReader_0 : decode cX8_isReader 0 = .ok (.iload_n 0, 1) := by decide +kernel
theorem dX8_isReader_1 : decode cX8_isReader 1 = .ok (.iconst 0, 1) := by decide +kernel
theorem dX8_isReader_2 : decode cX8_isReader 2 = .ok (.iconst 3, 1) := by decide +kernel
theorem dX8_isReader_3 : decode cX8_isReader 3 = .ok (.invokestatic 62, 3) := by decide +kernel
theorem dX8_isReader_6 : decode cX8_isReader 6 = .ok (.ireturn, 1) := by decide +kernel
set_option maxRecDepth 20000 in
theorem ggX8_isCell_X8_within : GoodIn wsX8_isCell wsX8_within := goodIn_r _ [4] (by decide +kernel) (by decide +kernel)
set_option maxRecDepth 20000 in
theorem gX8_isCell_X8_within : GoodIn wsX8_isCell (va_wsS RX8 62 yX8_within wsX8_within) := goodIn_app (goodIn_of _ (by decide +kernel)) ggX8_isCell_X8_within
theorem dX8_isCell_0 : decode cX8_isCell 0 = .ok (.iload_n 0, 1) := by decide +kernel
theorem dX8_isCell_1 : decode cX8_isCell 1 = .ok (.iconst 0, 1) := by decide +kernel
theorem dX8_isCell_2 : decode cX8_isCell 2 = .ok (.bipush 11, 2) := by decide +kernel
theorem dX8_isCell_4 : decode cX8_isCell 4 = .ok (.invokestatic 62, 3) := by decide +kernel
theorem dX8_isCell_7 : decode cX8_isCell 7 = .ok (.ireturn, 1) := by decide +kernel
theorem dX9_init_0 : decode cX9_init 0 = .ok (.aload_n 0, 1) := by decide +kernel
theorem dX9_init_1 : decode cX9_init 1 = .ok (.invokespecial 1, 3) := by decide +kernel
theorem dX9_init_4 : decode cX9_init 4 = .ok (.aload_n 0, 1) := by decide +kernel
theorem dX9_init_5 : decode cX9_init 5 = .ok (.bipush 8, 2) := by decide +kernel
theorem dX9_init_7 : decode cX9_init 7 = .ok (.newarray .int, 2) := by decide +kernel
theorem dX9_init_9 : decode cX9_init 9 = .ok (.putfield 7, 3) := by decide +kernel
theorem dX9_init_12 : decode cX9_init 12 = .ok (.aload_n 0, 1) := by decide +kernel
theorem dX9_init_13 : decode cX9_init 13 = .ok (.bipush 8, 2) := by decide +kernel
theorem dX9_init_15 : decode cX9_init 15 = .ok (.newarray .int, 2) := by decide +kernel
theorem dX9_init_17 : decode cX9_init 17 = .ok (.putfield 13, 3) := by decide +kernel
theorem dX9_init_20 : decode cX9_init 20 = .ok (.aload_n 0, 1) := by decide +kernel
theorem dX9_init_21 : decode cX9_init 21 = .ok (.bipush 8, 2) := by decide +kernel
theorem dX9_init_23 : decode cX9_init 23 = .ok (.newarray .int, 2) := by decide +kernel
theorem dX9_init_25 : decode cX9_init 25 = .ok (.putfield 16, 3) := by decide +kernel
theorem dX9_init_28 : decode cX9_init 28 = .ok (.aload_n 0, 1) := by decide +kernel
theorem dX9_init_29 : decode cX9_init 29 = .ok (.bipush 8, 2) := by decide +kernel
theorem dX9_init_31 : decode cX9_init 31 = .ok (.newarray .int, 2) := by decide +kernel
theorem dX9_init_33 : decode cX9_init 33 = .ok (.putfield 19, 3) := by decide +kernel
theorem dX9_init_36 : decode cX9_init 36 = .ok (.aload_n 0, 1) := by decide +kernel
theorem dX9_init_37 : decode cX9_init 37 = .ok (.bipush 8, 2) := by decide +kernel
theorem dX9_init_39 : decode cX9_init 39 = .ok (.newarray .int, 2) := by decide +kernel
theorem dX9_init_41 : decode cX9_init 41 = .ok (.putfield 22, 3) := by decide +kernel
theorem dX9_init_44 : decode cX9_init 44 = .ok (.aload_n 0, 1) := by decide +kernel
theorem dX9_init_45 : decode cX9_init 45 = .ok (.iconst 4, 1) := by decide +kernel
theorem dX9_init_46 : decode cX9_init 46 = .ok (.newarray .int, 2) := by decide +kernel
theorem dX9_init_48 : decode cX9_init 48 = .ok (.putfield 25, 3) := by decide +kernel
theorem dX9_init_51 : decode cX9_init 51 = .ok (.aload_n 0, 1) := by decide +kernel
theorem dX9_init_52 : decode cX9_init 52 = .ok (.iconst 4, 1) := by decide +kernel
theorem dX9_init_53 : decode cX9_init 53 = .ok (.newarray .int, 2) := by decide +kernel
theorem dX9_init_55 : decode cX9_init 55 = .ok (.putfield 28, 3) := by decide +kernel
theorem dX9_init_58 : decode cX9_init 58 = .ok (.aload_n 0, 1) := by decide +kernel
theorem dX9_init_59 : decode cX9_init 59 = .ok (.iconst 4, 1) := by decide +kernel
theorem dX9_init_60 : decode cX9_init 60 = .ok (.newarray .int, 2) := by decide +kernel
theorem dX9_init_62 : decode cX9_init 62 = .ok (.putfield 31, 3) := by decide +kernel
theorem dX9_init_65 : decode cX9_init 65 = .ok (.aload_n 0, 1) := by decide +kernel
theorem dX9_init_66 : decode cX9_init 66 = .ok (.iconst 4, 1) := by decide +kernel
theorem dX9_init_67 : decode cX9_init 67 = .ok (.newarray .int, 2) := by decide +kernel
theorem dX9_init_69 : decode cX9_init 69 = .ok (.putfield 34, 3) := by decide +kernel
theorem dX9_init_72 : decode cX9_init 72 = .ok (.aload_n 0, 1) := by decide +kernel
theorem dX9_init_73 : decode cX9_init 73 = .ok (.bipush 8, 2) := by decide +kernel
theorem dX9_init_75 : decode cX9_init 75 = .ok (.newarray .int, 2) := by decide +kernel
theorem dX9_init_77 : decode cX9_init 77 = .ok (.putfield 37, 3) := by decide +kernel
theorem dX9_init_80 : decode cX9_init 80 = .ok (.aload_n 0, 1) := by decide +kernel
theorem dX9_init_81 : decode cX9_init 81 = .ok (.bipush 8, 2) := by decide +kernel
theorem dX9_init_83 : decode cX9_init 83 = .ok (.newarray .int, 2) := by decide +kernel
theorem dX9_init_85 : decode cX9_init 85 = .ok (.putfield 40, 3) := by decide +kernel
theorem dX9_init_88 : decode cX9_init 88 = .ok (.aload_n 0, 1) := by decide +kernel
theorem dX9_init_89 : decode cX9_init 89 = .ok (.bipush 8, 2) := by decide +kernel
theorem dX9_init_91 : decode cX9_init 91 = .ok (.newarray .int, 2) := by decide +kernel
theorem dX9_init_93 : decode cX9_init 93 = .ok (.putfield 43, 3) := by decide +kernel
theorem dX9_init_96 : decode cX9_init 96 = .ok (.aload_n 0, 1) := by decide +kernel
theorem dX9_init_97 : decode cX9_init 97 = .ok (.bipush 60, 2) := by decide +kernel
theorem dX9_init_99 : decode cX9_init 99 = .ok (.newarray .int, 2) := by decide +kernel
theorem dX9_init_101 : decode cX9_init 101 = .ok (.putfield 46, 3) := by decide +kernel
theorem dX9_init_104 : decode cX9_init 104 = .ok (.aload_n 0, 1) := by decide +kernel
theorem dX9_init_105 : decode cX9_init 105 = .ok (.bipush 60, 2) := by decide +kernel
theorem dX9_init_107 : decode cX9_init 107 = .ok (.newarray .int, 2) := by decide +kernel
theorem dX9_init_109 : decode cX9_init 109 = .ok (.putfield 49, 3) := by decide +kernel
theorem dX9_init_112 : decode cX9_init 112 = .ok (.aload_n 0, 1) := by decide +kernel
theorem dX9_init_113 : decode cX9_init 113 = .ok (.bipush 60, 2) := by decide +kernel
theorem dX9_init_115 : decode cX9_init 115 = .ok (.newarray .int, 2) := by decide +kernel
theorem dX9_init_117 : decode cX9_init 117 = .ok (.putfield 52, 3) := by decide +kernel
theorem dX9_init_120 : decode cX9_init 120 = .ok (.aload_n 0, 1) := by decide +kernel
theorem dX9_init_121 : decode cX9_init 121 = .ok (.bipush 60, 2) := by decide +kernel
theorem dX9_init_123 : decode cX9_init 123 = .ok (.newarray .int, 2) := by decide +kernel
theorem dX9_init_125 : decode cX9_init 125 = .ok (.putfield 55, 3) := by decide +kernel
theorem dX9_init_128 : decode cX9_init 128 = .ok (.aload_n 0, 1) := by decide +kernel
theorem dX9_init_129 : decode cX9_init 129 = .ok (.bipush 58, 2) := by decide +kernel
theorem dX9_init_131 : decode cX9_init 131 = .ok (.newarray .int, 2) := by decide +kernel
theorem dX9_init_133 : decode cX9_init 133 = .ok (.putfield 58, 3) := by decide +kernel
theorem dX9_init_136 : decode cX9_init 136 = .ok (.aload_n 0, 1) := by decide +kernel
theorem dX9_init_137 : decode cX9_init 137 = .ok (.sipush 2048, 3) := by decide +kernel
theorem dX9_init_140 : decode cX9_init 140 = .ok (.newarray .int, 2) := by decide +kernel
theorem dX9_init_142 : decode cX9_init 142 = .ok (.putfield 61, 3) := by decide +kernel
theorem dX9_init_145 : decode cX9_init 145 = .ok (.aload_n 0, 1) := by decide +kernel
theorem dX9_init_146 : decode cX9_init 146 = .ok (.iconst 5, 1) := by decide +kernel
theorem dX9_init_147 : decode cX9_init 147 = .ok (.newarray .int, 2) := by decide +kernel
theorem dX9_init_149 : decode cX9_init 149 = .ok (.putfield 64, 3) := by decide +kernel
theorem dX9_init_152 : decode cX9_init 152 = .ok (.aload_n 0, 1) := by decide +kernel
theorem dX9_init_153 : decode cX9_init 153 = .ok (.sipush 1000, 3) := by decide +kernel
theorem dX9_init_156 : decode cX9_init 156 = .ok (.newarray .boolean, 2) := by decide +kernel
theorem dX9_init_158 : decode cX9_init 158 = .ok (.putfield 67, 3) := by decide +kernel
theorem dX9_init_161 : decode cX9_init 161 = .ok (.aload_n 0, 1) := by decide +kernel
theorem dX9_init_162 : decode cX9_init 162 = .ok (.sipush 180, 3) := by decide +kernel
theorem dX9_init_165 : decode cX9_init 165 = .ok (.newarray .int, 2) := by decide +kernel
theorem dX9_init_167 : decode cX9_init 167 = .ok (.putfield 71, 3) := by decide +kernel
theorem dX9_init_170 : decode cX9_init 170 = .ok (.aload_n 0, 1) := by decide +kernel
theorem dX9_init_171 : decode cX9_init 171 = .ok (.iconst 2, 1) := by decide +kernel
theorem dX9_init_172 : decode cX9_init 172 = .ok (.newarray .boolean, 2) := by decide +kernel
theorem dX9_init_174 : decode cX9_init 174 = .ok (.putfield 74, 3) := by decide +kernel
theorem dX9_init_177 : decode cX9_init 177 = .ok (.iconst 0, 1) := by decide +kernel
theorem dX9_init_178 : decode cX9_init 178 = .ok (.istore_n 1, 1) := by decide +kernel
theorem dX9_init_179 : decode cX9_init 179 = .ok (.iload_n 1, 1) := by decide +kernel
theorem dX9_init_180 : decode cX9_init 180 = .ok (.bipush 8, 2) := by decide +kernel
theorem dX9_init_182 : decode cX9_init 182 = .ok (.if_icmp .ge 17, 3) := by decide +kernel
theorem dX9_init_185 : decode cX9_init 185 = .ok (.aload_n 0, 1) := by decide +kernel
theorem dX9_init_186 : decode cX9_init 186 = .ok (.getfield 16, 3) := by decide +kernel
theorem dX9_init_189 : decode cX9_init 189 = .ok (.iload_n 1, 1) := by decide +kernel
theorem dX9_init_190 : decode cX9_init 190 = .ok (.bipush (-6), 2) := by decide +kernel
theorem dX9_init_192 : decode cX9_init 192 = .ok (.iastore, 1) := by decide +kernel
theorem dX9_init_193 : decode cX9_init 193 = .ok (.iinc 1 1, 3) := by decide +kernel
theorem dX9_init_196 : decode cX9_init 196 = .ok (.goto (-17), 3) := by decide +kernel
theorem dX9_init_199 : decode cX9_init 199 = .ok (.iconst 0, 1) := by decide +kernel
theorem dX9_init_200 : decode cX9_init 200 = .ok (.istore_n 1, 1) := by decide +kernel
theorem dX9_init_201 : decode cX9_init 201 = .ok (.iload_n 1, 1) := by decide +kernel
theorem dX9_init_202 : decode cX9_init 202 = .ok (.iconst 4, 1) := by decide +kernel
theorem dX9_init_203 : decode cX9_init 203 = .ok (.if_icmp .ge 18, 3) := by decide +kernel
theorem dX9_init_206 : decode cX9_init 206 = .ok (.aload_n 0, 1) := by decide +kernel
theorem dX9_init_207 : decode cX9_init 207 = .ok (.getfield 25, 3) := by decide +kernel
theorem dX9_init_210 : decode cX9_init 210 = .ok (.iload_n 1, 1) := by decide +kernel
theorem dX9_init_211 : decode cX9_init 211 = .ok (.iconst 3, 1) := by decide +kernel
theorem dX9_init_212 : decode cX9_init 212 = .ok (.iload_n 1, 1) := by decide +kernel
theorem dX9_init_213 : decode cX9_init 213 = .ok (.imul, 1) := by decide +kernel
theorem dX9_init_214 : decode cX9_init 214 = .ok (.iastore, 1) := by decide +kernel
theorem dX9_init_215 : decode cX9_init 215 = .ok (.iinc 1 1, 3) := by decide +kernel
theorem dX9_init_218 : decode cX9_init 218 = .ok (.goto (-17), 3) := by decide +kernel
theorem dX9_init_221 : decode cX9_init 221 = .ok (.aload_n 0, 1) := by decide +kernel
theorem dX9_init_222 : decode cX9_init 222 = .ok (.iconst 1, 1) := by decide +kernel
theorem dX9_init_223 : decode cX9_init 223 = .ok (.putfield 77, 3) := by decide +kernel
theorem dX9_init_226 : decode cX9_init 226 = .ok (.return_, 1) := by decide +kernel
theorem dX9_in_0 : decode cX9_in 0 = .ok (.lload_n 0, 1) := by decide +kernel
theorem dX9_in_1 : decode cX9_in 1 = .ok (.lload_n 2, 1) := by decide +kernel
theorem dX9_in_2 : decode cX9_in 2 = .ok (.lcmp, 1) := by decide +kernel
theorem dX9_in_3 : decode cX9_in 3 = .ok (.ifCond .lt 14, 3) := by decide +kernel
theorem dX9_in_6 : decode cX9_in 6 = .ok (.lload_n 0, 1) := by decide +kernel
theorem dX9_in_7 : decode cX9_in 7 = .ok (.lload 4, 2) := by decide +kernel
theorem dX9_in_9 : decode cX9_in 9 = .ok (.lcmp, 1) := by decide +kernel
theorem dX9_in_10 : decode cX9_in 10 = .ok (.ifCond .gt 7, 3) := by decide +kernel
theorem dX9_in_13 : decode cX9_in 13 = .ok (.iconst 1, 1) := by decide +kernel
theorem dX9_in_14 : decode cX9_in 14 = .ok (.goto 4, 3) := by decide +kernel
theorem dX9_in_17 : decode cX9_in 17 = .ok (.iconst 0, 1) := by decide +kernel
theorem dX9_in_18 : decode cX9_in 18 = .ok (.ireturn, 1) := by decide +kernel
set_option maxRecDepth 20000 in
theorem ggX9_isPerson_X9_in : GoodIn wsX9_isPerson wsX9_in := goodIn_r _ [5] (by decide +kernel) (by decide +kernel)
set_option maxRecDepth 20000 in
theorem gX9_isPerson_X9_in : GoodIn wsX9_isPerson (va_wsS RX9 83 yX9_in wsX9_in) := goodIn_app (goodIn_of _ (by decide +kernel)) ggX9_isPerson_X9_in
theorem dX9_isPerson_0 : decode cX9_isPerson 0 = .ok (.iload_n 0, 1) := by decide +kernel
theorem dX9_isPerson_1 : decode cX9_isPerson 1 = .ok (.i2l, 1) := by decide +kernel
theorem dX9_isPerson_2 : decode cX9_isPerson 2 = .ok (.lconst 0, 1) := by decide +kernel
theorem dX9_isPerson_3 : decode cX9_isPerson 3 = .ok (.ldc2_w 81, 3) := by decide +kernel
theorem dX9_isPerson_6 : decode cX9_isPerson 6 = .ok (.invokestatic 83, 3) := by decide +kernel
theorem dX9_isPerson_9 : decode cX9_isPerson 9 = .ok (.ireturn, 1) := by decide +kernel
set_option maxRecDepth 20000 in
theorem ggX9_isReader_X9_in : GoodIn wsX9_isReader wsX9_in := goodIn_r _ [5] (by decide +kernel) (by decide +kernel)
set_option maxRecDepth 20000 in
theorem gX9_isReader_X9_in : GoodIn wsX9_isReader (va_wsS RX9 83 yX9_in wsX9_in) := goodIn_app (goodIn_of _ (by decide +kernel)) ggX9_isReader_X9_in
theorem dX9_isReader_0 : decode cX9_isReader 0 = .ok (.iload_n 0, 1) := by decide +kernel
theorem dX9_isReader_1 : decode cX9_isReader 1 = .ok (.i2l, 1) := by decide +kernel
theorem dX9_isReader_2 : decode cX9_isReader 2 = .ok (.lconst 0, 1) := by decide +kernel
theorem dX9_isReader_3 : decode cX9_isReader 3 = .ok (.ldc2_w 87, 3) := by decide +kernel
theorem dX9_isReader_6 : decode cX9_isReader 6 = .ok (.invokestatic 83, 3) := by decide +kernel
theorem dX9_isReader_9 : decode cX9_isReader 9 = .ok (.ireturn, 1) := by decide +kernel
set_option maxRecDepth 20000 in
theorem ggX9_isCell_X9_in : GoodIn wsX9_isCell wsX9_in := goodIn_r _ [5] (by decide +kernel) (by decide +kernel)
set_option maxRecDepth 20000 in
theorem gX9_isCell_X9_in : GoodIn wsX9_isCell (va_wsS RX9 83 yX9_in wsX9_in) := goodIn_app (goodIn_of _ (by decide +kernel)) ggX9_isCell_X9_in
theorem dX9_isCell_0 : decode cX9_isCell 0 = .ok (.iload_n 0, 1) := by decide +kernel
theorem dX9_isCell_1 : decode cX9_isCell 1 = .ok (.i2l, 1) := by decide +kernel
theorem dX9_isCell_2 : decode cX9_isCell 2 = .ok (.lconst 0, 1) := by decide +kernel
theorem dX9_isCell_3 : decode cX9_isCell 3 = .ok (.ldc2_w 89, 3) := by decide +kernel
theorem dX9_isCell_6 : decode cX9_isCell 6 = .ok (.invokestatic 83, 3) := by decide +kernel
theorem dX9_isCell_9 : decode cX9_isCell 9 = .ok (.ireturn, 1) := by decide +kernel
theorem dX9_less_0 : decode cX9_less 0 = .ok (.iload_n 0, 1) := by decide +kernel
theorem dX9_less_1 : decode cX9_less 1 = .ok (.iload_n 1, 1) := by decide +kernel
theorem dX9_less_2 : decode cX9_less 2 = .ok (.if_icmp .ge 7, 3) := by decide +kernel
theorem dX9_less_5 : decode cX9_less 5 = .ok (.iload_n 0, 1) := by decide +kernel
theorem dX9_less_6 : decode cX9_less 6 = .ok (.goto 4, 3) := by decide +kernel
theorem dX9_less_9 : decode cX9_less 9 = .ok (.iload_n 1, 1) := by decide +kernel
theorem dX9_less_10 : decode cX9_less 10 = .ok (.ireturn, 1) := by decide +kernel
theorem dX9_apart_0 : decode cX9_apart 0 = .ok (.iload_n 0, 1) := by decide +kernel
theorem dX9_apart_1 : decode cX9_apart 1 = .ok (.iload_n 1, 1) := by decide +kernel
theorem dX9_apart_2 : decode cX9_apart 2 = .ok (.if_icmp .ge 9, 3) := by decide +kernel
theorem dX9_apart_5 : decode cX9_apart 5 = .ok (.iload_n 1, 1) := by decide +kernel
theorem dX9_apart_6 : decode cX9_apart 6 = .ok (.iload_n 0, 1) := by decide +kernel
theorem dX9_apart_7 : decode cX9_apart 7 = .ok (.isub, 1) := by decide +kernel
theorem dX9_apart_8 : decode cX9_apart 8 = .ok (.goto 6, 3) := by decide +kernel
