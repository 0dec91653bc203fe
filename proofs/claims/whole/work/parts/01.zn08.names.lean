theorem dX8_reader_23 : decode cX8_reader 23 = .ok (.ifCond .ne 6, 3) := by decide +kernel
theorem dX8_reader_26 : decode cX8_reader 26 = .ok (.bipush (-2), 2) := by decide +kernel
theorem dX8_reader_28 : decode cX8_reader 28 = .ok (.ireturn, 1) := by decide +kernel
theorem dX8_reader_29 : decode cX8_reader 29 = .ok (.aload_n 0, 1) := by decide +kernel
theorem dX8_reader_30 : decode cX8_reader 30 = .ok (.getfield 10, 3) := by decide +kernel
theorem dX8_reader_33 : decode cX8_reader 33 = .ok (.getfield 86, 3) := by decide +kernel
theorem dX8_reader_36 : decode cX8_reader 36 = .ok (.iload_n 1, 1) := by decide +kernel
theorem dX8_reader_37 : decode cX8_reader 37 = .ok (.iaload, 1) := by decide +kernel
theorem dX8_reader_38 : decode cX8_reader 38 = .ok (.istore 4, 2) := by decide +kernel
theorem dX8_reader_40 : decode cX8_reader 40 = .ok (.aload_n 0, 1) := by decide +kernel
theorem dX8_reader_41 : decode cX8_reader 41 = .ok (.getfield 10, 3) := by decide +kernel
theorem dX8_reader_44 : decode cX8_reader 44 = .ok (.getfield 86, 3) := by decide +kernel
theorem dX8_reader_47 : decode cX8_reader 47 = .ok (.iload_n 1, 1) := by decide +kernel
theorem dX8_reader_48 : decode cX8_reader 48 = .ok (.iload_n 2, 1) := by decide +kernel
theorem dX8_reader_49 : decode cX8_reader 49 = .ok (.iastore, 1) := by decide +kernel
theorem dX8_reader_50 : decode cX8_reader 50 = .ok (.aload_n 0, 1) := by decide +kernel
theorem dX8_reader_51 : decode cX8_reader 51 = .ok (.getfield 10, 3) := by decide +kernel
theorem dX8_reader_54 : decode cX8_reader 54 = .ok (.getfield 89, 3) := by decide +kernel
theorem dX8_reader_57 : decode cX8_reader 57 = .ok (.iload_n 1, 1) := by decide +kernel
theorem dX8_reader_58 : decode cX8_reader 58 = .ok (.iload_n 3, 1) := by decide +kernel
theorem dX8_reader_59 : decode cX8_reader 59 = .ok (.iastore, 1) := by decide +kernel
theorem dX8_reader_60 : decode cX8_reader 60 = .ok (.aload_n 0, 1) := by decide +kernel
theorem dX8_reader_61 : decode cX8_reader 61 = .ok (.getfield 10, 3) := by decide +kernel
theorem dX8_reader_64 : decode cX8_reader 64 = .ok (.getfield 92, 3) := by decide +kernel
theorem dX8_reader_67 : decode cX8_reader 67 = .ok (.iload_n 1, 1) := by decide +kernel
theorem dX8_reader_68 : decode cX8_reader 68 = .ok (.iconst 0, 1) := by decide +kernel
theorem dX8_reader_69 : decode cX8_reader 69 = .ok (.bastore, 1) := by decide +kernel
theorem dX8_reader_70 : decode cX8_reader 70 = .ok (.iload 4, 2) := by decide +kernel
theorem dX8_reader_72 : decode cX8_reader 72 = .ok (.ireturn, 1) := by decide +kernel
set_option maxRecDepth 20000 in
theorem ggX8_melt_X8_within : GoodIn wsX8_melt wsX8_within := goodIn_r _ [6] (by decide +kernel) (by decide +kernel)
set_option maxRecDepth 20000 in
theorem gX8_melt_X8_within : GoodIn wsX8_melt (va_wsS RX8 62 yX8_within wsX8_within) := goodIn_app (goodIn_of _ (by decide +kernel)) ggX8_melt_X8_within
theorem dX8_melt_0 : decode cX8_melt 0 = .ok (.iload_n 1, 1) := by decide +kernel
theorem dX8_melt_1 : decode cX8_melt 1 = .ok (.iconst 1, 1) := by decide +kernel
theorem dX8_melt_2 : decode cX8_melt 2 = .ok (.bipush 9, 2) := by decide +kernel
theorem dX8_melt_4 : decode cX8_melt 4 = .ok (.invokestatic 62, 3) := by decide +kernel
theorem dX8_melt_7 : decode cX8_melt 7 = .ok (.ifCond .ne 6, 3) := by decide +kernel
theorem dX8_melt_10 : decode cX8_melt 10 = .ok (.bipush (-2), 2) := by decide +kernel
theorem dX8_melt_12 : decode cX8_melt 12 = .ok (.ireturn, 1) := by decide +kernel
theorem dX8_melt_13 : decode cX8_melt 13 = .ok (.aload_n 0, 1) := by decide +kernel
theorem dX8_melt_14 : decode cX8_melt 14 = .ok (.getfield 10, 3) := by decide +kernel
theorem dX8_melt_17 : decode cX8_melt 17 = .ok (.getfield 96, 3) := by decide +kernel
theorem dX8_melt_20 : decode cX8_melt 20 = .ok (.istore_n 2, 1) := by decide +kernel
theorem dX8_melt_21 : decode cX8_melt 21 = .ok (.aload_n 0, 1) := by decide +kernel
theorem dX8_melt_22 : decode cX8_melt 22 = .ok (.getfield 10, 3) := by decide +kernel
theorem dX8_melt_25 : decode cX8_melt 25 = .ok (.iload_n 1, 1) := by decide +kernel
theorem dX8_melt_26 : decode cX8_melt 26 = .ok (.putfield 96, 3) := by decide +kernel
theorem dX8_melt_29 : decode cX8_melt 29 = .ok (.iload_n 2, 1) := by decide +kernel
theorem dX8_melt_30 : decode cX8_melt 30 = .ok (.ireturn, 1) := by decide +kernel
set_option maxRecDepth 20000 in
theorem ggX8_say_X8_within : GoodIn wsX8_say wsX8_within := goodIn_r _ [6] (by decide +kernel) (by decide +kernel)
set_option maxRecDepth 20000 in
theorem gX8_say_X8_within : GoodIn wsX8_say (va_wsS RX8 62 yX8_within wsX8_within) := goodIn_app (goodIn_of _ (by decide +kernel)) ggX8_say_X8_within
set_option maxRecDepth 20000 in
theorem ggX8_say_X4_append : GoodIn wsX8_say wsX4_append := goodIn_r _ [11, 12, 13, 21, 22] (by decide +kernel) (by decide +kernel)
set_option maxRecDepth 20000 in
theorem gX8_say_X4_append : GoodIn wsX8_say (wsV RX8 100 RX4 yX4_append wsX4_append) := goodIn_app (goodIn_of _ (by decide +kernel)) ggX8_say_X4_append
theorem dX8_say_0 : decode cX8_say 0 = .ok (.iload_n 1, 1) := by decide +kernel
theorem dX8_say_1 : decode cX8_say 1 = .ok (.bipush 33, 2) := by decide +kernel
theorem dX8_say_3 : decode cX8_say 3 = .ok (.bipush 126, 2) := by decide +kernel
theorem dX8_say_5 : decode cX8_say 5 = .ok (.invokestatic 62, 3) := by decide +kernel
theorem dX8_say_8 : decode cX8_say 8 = .ok (.ifCond .ne 6, 3) := by decide +kernel
theorem dX8_say_11 : decode cX8_say 11 = .ok (.bipush (-2), 2) := by decide +kernel
theorem dX8_say_13 : decode cX8_say 13 = .ok (.ireturn, 1) := by decide +kernel
theorem dX8_say_14 : decode cX8_say 14 = .ok (.aload_n 0, 1) := by decide +kernel
theorem dX8_say_15 : decode cX8_say 15 = .ok (.getfield 19, 3) := by decide +kernel
theorem dX8_say_18 : decode cX8_say 18 = .ok (.iload_n 1, 1) := by decide +kernel
theorem dX8_say_19 : decode cX8_say 19 = .ok (.invokevirtual 100, 3) := by decide +kernel
theorem dX8_say_22 : decode cX8_say 22 = .ok (.ifCond .eq 13, 3) := by decide +kernel
theorem dX8_say_25 : decode cX8_say 25 = .ok (.aload_n 0, 1) := by decide +kernel
theorem dX8_say_26 : decode cX8_say 26 = .ok (.getfield 19, 3) := by decide +kernel
theorem dX8_say_29 : decode cX8_say 29 = .ok (.getfield 103, 3) := by decide +kernel
theorem dX8_say_32 : decode cX8_say 32 = .ok (.goto 5, 3) := by decide +kernel
theorem dX8_say_35 : decode cX8_say 35 = .ok (.bipush (-4), 2) := by decide +kernel
theorem dX8_say_37 : decode cX8_say 37 = .ok (.ireturn, 1) := by decide +kernel
set_option maxRecDepth 20000 in
theorem ggX8_wipe_X4_clear : GoodIn wsX8_wipe wsX4_clear := goodIn_r _ [6, 7, 15, 16] (by decide +kernel) (by decide +kernel)
set_option maxRecDepth 20000 in
theorem gX8_wipe_X4_clear : GoodIn wsX8_wipe (wsV RX8 106 RX4 yX4_clear wsX4_clear) := goodIn_app (goodIn_of _ (by decide +kernel)) ggX8_wipe_X4_clear
theorem dX8_wipe_0 : decode cX8_wipe 0 = .ok (.aload_n 0, 1) := by decide +kernel
theorem dX8_wipe_1 : decode cX8_wipe 1 = .ok (.getfield 19, 3) := by decide +kernel
theorem dX8_wipe_4 : decode cX8_wipe 4 = .ok (.invokevirtual 106, 3) := by decide +kernel
theorem dX8_wipe_7 : decode cX8_wipe 7 = .ok (.ireturn, 1) := by decide +kernel
set_option maxRecDepth 20000 in
theorem ggX8_fault_X4_firstFault : GoodIn wsX8_fault wsX4_firstFault := goodIn_r _ [6, 7, 8, 9, 10, 5, 11, 12, 13, 14, 15, 16, 17, 18, 19, 20, 21, 22, 23, 24, 25, 26, 27, 28, 29, 30, 31, 32, 33, 34, 35, 36, 37, 38, 46, 47] (by decide +kernel) (by decide +kernel)
set_option maxRecDepth 20000 in
theorem gX8_fault_X4_firstFault : GoodIn wsX8_fault (wsV RX8 110 RX4 yX4_firstFault wsX4_firstFault) := goodIn_app (goodIn_of _ (by decide +kernel)) ggX8_fault_X4_firstFault
theorem dX8_fault_0 : decode cX8_fault 0 = .ok (.aload_n 0, 1) := by decide +kernel
theorem dX8_fault_1 : decode cX8_fault 1 = .ok (.getfield 19, 3) := by decide +kernel
theorem dX8_fault_4 : decode cX8_fault 4 = .ok (.invokevirtual 110, 3) := by decide +kernel
theorem dX8_fault_7 : decode cX8_fault 7 = .ok (.ireturn, 1) := by decide +kernel
set_option maxRecDepth 20000 in
theorem ggX8_judge_X8_within : GoodIn wsX8_judge wsX8_within := goodIn_r _ [8] (by decide +kernel) (by decide +kernel)
set_option maxRecDepth 20000 in
theorem gX8_judge_X8_within : GoodIn wsX8_judge (va_wsS RX8 62 yX8_within wsX8_within) := goodIn_app (goodIn_of _ (by decide +kernel)) ggX8_judge_X8_within
set_option maxRecDepth 20000 in
theorem ggX8_judge_X8_followText : GoodIn wsX8_judge wsX8_followText := goodIn_r _ [12, 13, 1, 14, 2, 15, 16, 17, 18, 19, 20, 21, 22, 23, 24, 25, 26, 27, 28, 29, 30, 7, 31, 5, 6, 8, 32, 33, 34, 35, 36, 37, 38, 39, 40, 41, 42, 43, 44, 45, 46, 47, 48, 49, 50, 51, 52, 53, 54, 55, 56, 57, 58, 59, 60, 61, 62, 63, 64, 65, 66, 67, 68, 69, 70, 71, 72, 73, 74, 75, 76, 77, 78, 79, 80, 81, 82, 83, 84, 85, 86, 87, 88, 89, 90, 91, 92, 93, 94, 95, 96, 97, 98, 99, 100, 101, 102, 103, 104, 105, 106, 107, 108, 109, 110, 111, 112, 113, 114, 115, 116, 117, 118, 119, 120, 121, 122, 123, 124, 125, 126, 127, 128, 129, 130, 131, 132, 133, 134, 135, 136, 137, 138, 139, 140, 141, 142, 143, 144, 145, 146, 147, 148, 149, 150, 151, 152, 153, 154, 155, 156, 157, 158, 159, 160, 161, 162, 163, 164, 165, 166, 167, 168, 169, 170, 171, 172, 173, 174, 175, 176, 177, 178, 179, 180, 181, 182, 183, 184, 185, 186, 187, 188, 189, 190, 191, 192, 193, 194, 195, 196, 197, 198] (by decide +kernel) (by decide +kernel)
set_option maxRecDepth 20000 in
theorem gX8_judge_X8_followText : GoodIn wsX8_judge (wsV RX8 113 RX8 yX8_followText wsX8_followText) := goodIn_app (goodIn_of _ (by decide +kernel)) ggX8_judge_X8_followText
theorem dX8_judge_0 : decode cX8_judge 0 = .ok (.iload_n 1, 1) := by decide +kernel
theorem dX8_judge_1 : decode cX8_judge 1 = .ok (.iconst 0, 1) := by decide +kernel
theorem dX8_judge_2 : decode cX8_judge 2 = .ok (.iconst 2, 1) := by decide +kernel
theorem dX8_judge_3 : decode cX8_judge 3 = .ok (.invokestatic 62, 3) := by decide +kernel
theorem dX8_judge_6 : decode cX8_judge 6 = .ok (.ifCond .ne 6, 3) := by decide +kernel
theorem dX8_judge_9 : decode cX8_judge 9 = .ok (.bipush (-2), 2) := by decide +kernel
theorem dX8_judge_11 : decode cX8_judge 11 = .ok (.ireturn, 1) := by decide +kernel
theorem dX8_judge_12 : decode cX8_judge 12 = .ok (.aload_n 0, 1) := by decide +kernel
theorem dX8_judge_13 : decode cX8_judge 13 = .ok (.invokevirtual 113, 3) := by decide +kernel
theorem dX8_judge_16 : decode cX8_judge 16 = .ok (.istore_n 2, 1) := by decide +kernel
theorem dX8_judge_17 : decode cX8_judge 17 = .ok (.iload_n 2, 1) := by decide +kernel
theorem dX8_judge_18 : decode cX8_judge 18 = .ok (.bipush (-5), 2) := by decide +kernel
theorem dX8_judge_20 : decode cX8_judge 20 = .ok (.if_icmp .ne 6, 3) := by decide +kernel
theorem dX8_judge_23 : decode cX8_judge 23 = .ok (.bipush (-5), 2) := by decide +kernel
theorem dX8_judge_25 : decode cX8_judge 25 = .ok (.ireturn, 1) := by decide +kernel
theorem dX8_judge_26 : decode cX8_judge 26 = .ok (.iload_n 1, 1) := by decide +kernel
theorem dX8_judge_27 : decode cX8_judge 27 = .ok (.ifCond .ne 11, 3) := by decide +kernel
theorem dX8_judge_30 : decode cX8_judge 30 = .ok (.aload_n 0, 1) := by decide +kernel
theorem dX8_judge_31 : decode cX8_judge 31 = .ok (.getfield 26, 3) := by decide +kernel
theorem dX8_judge_34 : decode cX8_judge 34 = .ok (.getfield 116, 3) := by decide +kernel
theorem dX8_judge_37 : decode cX8_judge 37 = .ok (.ireturn, 1) := by decide +kernel
theorem dX8_judge_38 : decode cX8_judge 38 = .ok (.iload_n 1, 1) := by decide +kernel
theorem dX8_judge_39 : decode cX8_judge 39 = .ok (.iconst 1, 1) := by decide +kernel
theorem dX8_judge_40 : decode cX8_judge 40 = .ok (.if_icmp .ne 11, 3) := by decide +kernel
theorem dX8_judge_43 : decode cX8_judge 43 = .ok (.aload_n 0, 1) := by decide +kernel
theorem dX8_judge_44 : decode cX8_judge 44 = .ok (.getfield 26, 3) := by decide +kernel
theorem dX8_judge_47 : decode cX8_judge 47 = .ok (.getfield 119, 3) := by decide +kernel
theorem dX8_judge_50 : decode cX8_judge 50 = .ok (.ireturn, 1) := by decide +kernel
theorem dX8_judge_51 : decode cX8_judge 51 = .ok (.iload_n 2, 1) := by decide +kernel
theorem dX8_judge_52 : decode cX8_judge 52 = .ok (.ifCond .ne 13, 3) := by decide +kernel
theorem dX8_judge_55 : decode cX8_judge 55 = .ok (.aload_n 0, 1) := by decide +kernel
theorem dX8_judge_56 : decode cX8_judge 56 = .ok (.getfield 26, 3) := by decide +kernel
theorem dX8_judge_59 : decode cX8_judge 59 = .ok (.getfield 122, 3) := by decide +kernel
theorem dX8_judge_62 : decode cX8_judge 62 = .ok (.goto 4, 3) := by decide +kernel
theorem dX8_judge_65 : decode cX8_judge 65 = .ok (.iload_n 2, 1) := by decide +kernel
theorem dX8_judge_66 : decode cX8_judge 66 = .ok (.ireturn, 1) := by decide +kernel
set_option maxRecDepth 20000 in
theorem ggX8_behind_X8_isPerson : GoodIn wsX8_behind wsX8_isPerson := goodIn_r _ [6, 7, 8, 5, 9] (by decide +kernel) (by decide +kernel)
set_option maxRecDepth 20000 in
theorem gX8_behind_X8_isPerson : GoodIn wsX8_behind (va_wsS RX8 58 yX8_isPerson wsX8_isPerson) := goodIn_app (goodIn_of _ (by decide +kernel)) ggX8_behind_X8_isPerson
set_option maxRecDepth 20000 in
theorem ggX8_behind_X8_within : GoodIn wsX8_behind wsX8_within := goodIn_r _ [9] (by decide +kernel) (by decide +kernel)
set_option maxRecDepth 20000 in
theorem gX8_behind_X8_within : GoodIn wsX8_behind (va_wsS RX8 62 yX8_within wsX8_within) := goodIn_app (goodIn_of _ (by decide +kernel)) ggX8_behind_X8_within
set_option maxRecDepth 20000 in
theorem ggX8_behind_X8_followText : GoodIn wsX8_behind wsX8_followText := goodIn_r _ [13, 14, 1, 15, 16, 17, 18, 19, 20, 21, 22, 23, 24, 25, 26, 27, 28, 29, 30, 31, 4, 5, 6, 7, 8, 9, 32, 33, 34, 35, 36, 37, 38, 39, 40, 41, 42, 43, 44, 45, 46, 47, 48, 49, 50, 51, 52, 53, 54, 55, 56, 57, 58, 59, 60, 61, 62, 63, 64, 65, 66, 67, 68, 69, 70, 71, 72, 73, 74, 75, 76, 77, 78, 79, 80, 81, 82, 83, 84, 85, 86, 87, 88, 89, 90, 91, 92, 93, 94, 95, 96, 97, 98, 99, 100, 101, 102, 103, 104, 105, 106, 107, 108, 109, 110, 111, 112, 113, 114, 115, 116, 117, 118, 119, 120, 121, 122, 123, 124, 125, 126, 127, 128, 129, 130, 131, 132, 133, 134, 135, 136, 137, 138, 139, 140, 141, 142, 143, 144, 145, 146, 147, 148, 149, 150, 151, 152, 153, 154, 155, 156, 157, 158, 159, 160, 161, 162, 163, 164, 165, 166, 167, 172, 173, 174, 175, 176, 177, 178, 179, 180, 181, 182, 183, 184, 185, 186, 187, 188, 189, 190, 191, 192, 193, 194, 195, 196, 197, 198, 199, 200, 201, 202] (by decide +kernel) (by decide +kernel)
set_option maxRecDepth 20000 in
theorem gX8_behind_X8_followText : GoodIn wsX8_behind (wsV RX8 113 RX8 yX8_followText wsX8_followText) := goodIn_app (goodIn_of _ (by decide +kernel)) ggX8_behind_X8_followText
set_option maxRecDepth 20000 in
theorem ggX8_behind_X5_ofPerson : GoodIn wsX8_behind wsX5_ofPerson := goodIn_r _ [171, 65, 70, 71, 72, 73, 189, 190, 191, 192, 193, 194, 195, 196, 197, 198, 199] (by decide +kernel) (by decide +kernel)
set_option maxRecDepth 20000 in
theorem gX8_behind_X5_ofPerson : GoodIn wsX8_behind (wsV RX8 128 RX5 yX5_ofPerson wsX5_ofPerson) := goodIn_app (goodIn_of _ (by decide +kernel)) ggX8_behind_X5_ofPerson
theorem dX8_behind_0 : decode cX8_behind 0 = .ok (.iload_n 1, 1) := by decide +kernel
theorem dX8_behind_1 : decode cX8_behind 1 = .ok (.invokestatic 58, 3) := by decide +kernel
theorem dX8_behind_4 : decode cX8_behind 4 = .ok (.ifCond .ne 5, 3) := by decide +kernel
theorem dX8_behind_7 : decode cX8_behind 7 = .ok (.iconst (-1), 1) := by decide +kernel
theorem dX8_behind_8 : decode cX8_behind 8 = .ok (.ireturn, 1) := by decide +kernel
theorem dX8_behind_9 : decode cX8_behind 9 = .ok (.iload_n 2, 1) := by decide +kernel
theorem dX8_behind_10 : decode cX8_behind 10 = .ok (.iconst 0, 1) := by decide +kernel
theorem dX8_behind_11 : decode cX8_behind 11 = .ok (.iconst 4, 1) := by decide +kernel
theorem dX8_behind_12 : decode cX8_behind 12 = .ok (.invokestatic 62, 3) := by decide +kernel
theorem dX8_behind_15 : decode cX8_behind 15 = .ok (.ifCond .ne 6, 3) := by decide +kernel
theorem dX8_behind_18 : decode cX8_behind 18 = .ok (.bipush (-2), 2) := by decide +kernel
theorem dX8_behind_20 : decode cX8_behind 20 = .ok (.ireturn, 1) := by decide +kernel
theorem dX8_behind_21 : decode cX8_behind 21 = .ok (.aload_n 0, 1) := by decide +kernel
theorem dX8_behind_22 : decode cX8_behind 22 = .ok (.invokevirtual 113, 3) := by decide +kernel
theorem dX8_behind_25 : decode cX8_behind 25 = .ok (.istore_n 3, 1) := by decide +kernel
theorem dX8_behind_26 : decode cX8_behind 26 = .ok (.iload_n 3, 1) := by decide +kernel
theorem dX8_behind_27 : decode cX8_behind 27 = .ok (.ifCond .ne 18, 3) := by decide +kernel
theorem dX8_behind_30 : decode cX8_behind 30 = .ok (.aload_n 0, 1) := by decide +kernel
theorem dX8_behind_31 : decode cX8_behind 31 = .ok (.getfield 26, 3) := by decide +kernel
theorem dX8_behind_34 : decode cX8_behind 34 = .ok (.getfield 125, 3) := by decide +kernel
theorem dX8_behind_37 : decode cX8_behind 37 = .ok (.iload_n 1, 1) := by decide +kernel
theorem dX8_behind_38 : decode cX8_behind 38 = .ok (.iload_n 2, 1) := by decide +kernel
theorem dX8_behind_39 : decode cX8_behind 39 = .ok (.invokevirtual 128, 3) := by decide +kernel
theorem dX8_behind_42 : decode cX8_behind 42 = .ok (.goto 4, 3) := by decide +kernel
theorem dX8_behind_45 : decode cX8_behind 45 = .ok (.iload_n 3, 1) := by decide +kernel
theorem dX8_behind_46 : decode cX8_behind 46 = .ok (.ireturn, 1) := by decide +kernel
set_option maxRecDepth 20000 in
theorem ggX8_reads_X8_isReader : GoodIn wsX8_reads wsX8_isReader := goodIn_r _ [6, 7, 8, 5, 9] (by decide +kernel) (by decide +kernel)
set_option maxRecDepth 20000 in
theorem gX8_reads_X8_isReader : GoodIn wsX8_reads (va_wsS RX8 83 yX8_isReader wsX8_isReader) := goodIn_app (goodIn_of _ (by decide +kernel)) ggX8_reads_X8_isReader
set_option maxRecDepth 20000 in
theorem ggX8_reads_X8_within : GoodIn wsX8_reads wsX8_within := goodIn_r _ [9] (by decide +kernel) (by decide +kernel)
set_option maxRecDepth 20000 in
theorem gX8_reads_X8_within : GoodIn wsX8_reads (va_wsS RX8 62 yX8_within wsX8_within) := goodIn_app (goodIn_of _ (by decide +kernel)) ggX8_reads_X8_within
set_option maxRecDepth 20000 in
theorem ggX8_reads_X8_followText : GoodIn wsX8_reads wsX8_followText := goodIn_r _ [13, 14, 1, 15, 16, 17, 18, 19, 20, 21, 22, 23, 24, 25, 26, 27, 28, 29, 30, 31, 32, 5, 33, 7, 8, 9, 34, 35, 36, 37, 38, 39, 4, 6, 40, 41, 42, 43, 44, 45, 46, 47, 48, 49, 50, 51, 52, 53, 54, 55, 56, 57, 58, 59, 60, 61, 62, 63, 64, 65, 66, 67, 68, 69, 70, 71, 72, 73, 74, 75, 76, 77, 78, 79, 80, 81, 82, 83, 84, 85, 86, 87, 88, 89, 90, 91, 92, 93, 94, 95, 96, 97, 98, 99, 100, 101, 102, 103, 104, 105, 106, 107, 108, 109, 110, 111, 112, 113, 114, 115, 116, 117, 118, 119, 120, 121, 122, 123, 124, 125, 126, 127, 128, 129, 130, 131, 132, 133, 134, 135, 136, 137, 138, 139, 140, 141, 142, 143, 144, 145, 146, 147, 148, 149, 150, 151, 152, 153, 154, 155, 156, 157, 158, 159, 160, 161, 162, 163, 164, 165, 166, 167, 172, 173, 174, 175, 176, 177, 178, 179, 180, 181, 182, 183, 184, 185, 186, 187, 188, 189, 190, 191, 192, 193, 194, 195, 196, 197, 198, 199, 200, 201, 202] (by decide +kernel) (by decide +kernel)
set_option maxRecDepth 20000 in
theorem gX8_reads_X8_followText : GoodIn wsX8_reads (wsV RX8 113 RX8 yX8_followText wsX8_followText) := goodIn_app (goodIn_of _ (by decide +kernel)) ggX8_reads_X8_followText
set_option maxRecDepth 20000 in
theorem ggX8_reads_X5_ofReader : GoodIn wsX8_reads wsX5_ofReader := goodIn_r _ [171, 74, 75, 76, 121, 122, 123, 63, 124, 77, 189, 190, 191, 192, 193, 194, 195, 196, 197, 198, 199] (by decide +kernel) (by decide +kernel)
set_option maxRecDepth 20000 in
theorem gX8_reads_X5_ofReader : GoodIn wsX8_reads (wsV RX8 132 RX5 yX5_ofReader wsX5_ofReader) := goodIn_app (goodIn_of _ (by decide +kernel)) ggX8_reads_X5_ofReader
theorem dX8_reads_0 : decode cX8_reads 0 = .ok (.iload_n 1, 1) := by decide +kernel
theorem dX8_reads_1 : decode cX8_reads 1 = .ok (.invokestatic 83, 3) := by decide +kernel
theorem dX8_reads_4 : decode cX8_reads 4 = .ok (.ifCond .ne 5, 3) := by decide +kernel
theorem dX8_reads_7 : decode cX8_reads 7 = .ok (.iconst (-1), 1) := by decide +kernel
theorem dX8_reads_8 : decode cX8_reads 8 = .ok (.ireturn, 1) := by decide +kernel
theorem dX8_reads_9 : decode cX8_reads 9 = .ok (.iload_n 2, 1) := by decide +kernel
theorem dX8_reads_10 : decode cX8_reads 10 = .ok (.iconst 0, 1) := by decide +kernel
theorem dX8_reads_11 : decode cX8_reads 11 = .ok (.iconst 3, 1) := by decide +kernel
theorem dX8_reads_12 : decode cX8_reads 12 = .ok (.invokestatic 62, 3) := by decide +kernel
theorem dX8_reads_15 : decode cX8_reads 15 = .ok (.ifCond .ne 6, 3) := by decide +kernel
theorem dX8_reads_18 : decode cX8_reads 18 = .ok (.bipush (-2), 2) := by decide +kernel
theorem dX8_reads_20 : decode cX8_reads 20 = .ok (.ireturn, 1) := by decide +kernel
theorem dX8_reads_21 : decode cX8_reads 21 = .ok (.aload_n 0, 1) := by decide +kernel
theorem dX8_reads_22 : decode cX8_reads 22 = .ok (.invokevirtual 113, 3) := by decide +kernel
theorem dX8_reads_25 : decode cX8_reads 25 = .ok (.istore_n 3, 1) := by decide +kernel
theorem dX8_reads_26 : decode cX8_reads 26 = .ok (.iload_n 3, 1) := by decide +kernel
theorem dX8_reads_27 : decode cX8_reads 27 = .ok (.ifCond .ne 18, 3) := by decide +kernel
theorem dX8_reads_30 : decode cX8_reads 30 = .ok (.aload_n 0, 1) := by decide +kernel
theorem dX8_reads_31 : decode cX8_reads 31 = .ok (.getfield 26, 3) := by decide +kernel
theorem dX8_reads_34 : decode cX8_reads 34 = .ok (.getfield 125, 3) := by decide +kernel
theorem dX8_reads_37 : decode cX8_reads 37 = .ok (.iload_n 1, 1) := by decide +kernel
theorem dX8_reads_38 : decode cX8_reads 38 = .ok (.iload_n 2, 1) := by decide +kernel
theorem dX8_reads_39 : decode cX8_reads 39 = .ok (.invokevirtual 132, 3) := by decide +kernel
theorem dX8_reads_42 : decode cX8_reads 42 = .ok (.goto 4, 3) := by decide +kernel
theorem dX8_reads_45 : decode cX8_reads 45 = .ok (.iload_n 3, 1) := by decide +kernel
theorem dX8_reads_46 : decode cX8_reads 46 = .ok (.ireturn, 1) := by decide +kernel
set_option maxRecDepth 20000 in
theorem ggX8_yard_X8_within : GoodIn wsX8_yard wsX8_within := goodIn_r _ [7] (by decide +kernel) (by decide +kernel)
set_option maxRecDepth 20000 in
theorem gX8_yard_X8_within : GoodIn wsX8_yard (va_wsS RX8 62 yX8_within wsX8_within) := goodIn_app (goodIn_of _ (by decide +kernel)) ggX8_yard_X8_within
set_option maxRecDepth 20000 in
theorem ggX8_yard_X8_followText : GoodIn wsX8_yard wsX8_followText := goodIn_r _ [11, 12, 1, 13, 14, 15, 16, 17, 18, 19, 20, 21, 22, 23, 24, 25, 26, 27, 28, 29, 30, 6, 31, 4, 5, 7, 32, 33, 34, 35, 36, 37, 38, 39, 40, 41, 42, 43, 44, 45, 46, 47, 48, 49, 50, 51, 52, 53, 54, 55, 56, 57, 58, 59, 60, 61, 62, 63, 64, 65, 66, 67, 68, 69, 70, 71, 72, 73, 74, 75, 76, 77, 78, 79, 80, 81, 82, 83, 84, 85, 86, 87, 88, 89, 90, 91, 92, 93, 94, 95, 96, 97, 98, 99, 100, 101, 102, 103, 104, 105, 106, 107, 108, 109, 110, 111, 112, 113, 114, 115, 116, 117, 118, 119, 120, 121, 122, 123, 124, 125, 126, 127, 128, 129, 130, 131, 132, 133, 134, 135, 136, 137, 138, 139, 140, 141, 142, 143, 144, 145, 146, 147, 148, 149, 150, 151, 152, 153, 154, 155, 156, 157, 158, 159, 160, 161, 162, 163, 164, 165, 166, 167, 185, 186, 187, 188, 189, 190, 191, 192, 193, 194, 195, 196, 197, 198, 199, 211, 212, 200, 201, 202, 203, 204, 205, 206, 207, 208, 209, 210, 213, 214, 215] (by decide +kernel) (by decide +kernel)
set_option maxRecDepth 20000 in
theorem gX8_yard_X8_followText : GoodIn wsX8_yard (wsV RX8 113 RX8 yX8_followText wsX8_followText) := goodIn_app (goodIn_of _ (by decide +kernel)) ggX8_yard_X8_followText
set_option maxRecDepth 20000 in
theorem ggX8_yard_X5_lyingStones : GoodIn wsX8_yard wsX5_lyingStones := goodIn_r _ [171, 117, 118, 119, 63, 120, 71, 200, 201, 202, 203, 204, 205, 206, 207, 208, 209, 210] (by decide +kernel) (by decide +kernel)
set_option maxRecDepth 20000 in
theorem gX8_yard_X5_lyingStones : GoodIn wsX8_yard (wsV RX8 138 RX5 yX5_lyingStones wsX5_lyingStones) := goodIn_app (goodIn_of _ (by decide +kernel)) ggX8_yard_X5_lyingStones
set_option maxRecDepth 20000 in
theorem ggX8_yard_X5_figuresAdded : GoodIn wsX8_yard wsX5_figuresAdded := goodIn_r _ [175, 176, 169, 170, 63, 171, 117, 118, 119, 120, 71, 177, 178, 179, 180, 73, 200, 201, 202, 203, 204, 205, 206, 207, 208, 209, 210] (by decide +kernel) (by decide +kernel)
set_option maxRecDepth 20000 in
theorem gX8_yard_X5_figuresAdded : GoodIn wsX8_yard (wsV RX8 141 RX5 yX5_figuresAdded wsX5_figuresAdded) := goodIn_app (goodIn_of _ (by decide +kernel)) ggX8_yard_X5_figuresAdded
set_option maxRecDepth 20000 in
theorem ggX8_yard_X5_mostNoted : GoodIn wsX8_yard wsX5_mostNoted := goodIn_r _ [184, 70, 200, 201, 202, 203, 204, 205, 206, 207, 208, 209, 210] (by decide +kernel) (by decide +kernel)
set_option maxRecDepth 20000 in
theorem gX8_yard_X5_mostNoted : GoodIn wsX8_yard (wsV RX8 144 RX5 yX5_mostNoted wsX5_mostNoted) := goodIn_app (goodIn_of _ (by decide +kernel)) ggX8_yard_X5_mostNoted
theorem dX8_yard_0 : decode cX8_yard 0 = .ok (.iload_n 1, 1) := by decide +kernel
theorem dX8_yard_1 : decode cX8_yard 1 = .ok (.iconst 0, 1) := by decide +kernel
theorem dX8_yard_2 : decode cX8_yard 2 = .ok (.iconst 3, 1) := by decide +kernel
theorem dX8_yard_3 : decode cX8_yard 3 = .ok (.invokestatic 62, 3) := by decide +kernel
theorem dX8_yard_6 : decode cX8_yard 6 = .ok (.ifCond .ne 6, 3) := by decide +kernel
theorem dX8_yard_9 : decode cX8_yard 9 = .ok (.bipush (-2), 2) := by decide +kernel
theorem dX8_yard_11 : decode cX8_yard 11 = .ok (.ireturn, 1) := by decide +kernel
theorem dX8_yard_12 : decode cX8_yard 12 = .ok (.aload_n 0, 1) := by decide +kernel
theorem dX8_yard_13 : decode cX8_yard 13 = .ok (.invokevirtual 113, 3) := by decide +kernel
theorem dX8_yard_16 : decode cX8_yard 16 = .ok (.istore_n 2, 1) := by decide +kernel
theorem dX8_yard_17 : decode cX8_yard 17 = .ok (.iload_n 2, 1) := by decide +kernel
theorem dX8_yard_18 : decode cX8_yard 18 = .ok (.ifCond .eq 5, 3) := by decide +kernel
theorem dX8_yard_21 : decode cX8_yard 21 = .ok (.iload_n 2, 1) := by decide +kernel
theorem dX8_yard_22 : decode cX8_yard 22 = .ok (.ireturn, 1) := by decide +kernel
theorem dX8_yard_23 : decode cX8_yard 23 = .ok (.iload_n 1, 1) := by decide +kernel
theorem dX8_yard_24 : decode cX8_yard 24 = .ok (.tableswitch 61 0 2 #[28, 39, 50], 28) := by decide +kernel
theorem dX8_yard_52 : decode cX8_yard 52 = .ok (.aload_n 0, 1) := by decide +kernel
theorem dX8_yard_53 : decode cX8_yard 53 = .ok (.getfield 26, 3) := by decide +kernel
theorem dX8_yard_56 : decode cX8_yard 56 = .ok (.getfield 125, 3) := by decide +kernel
theorem dX8_yard_59 : decode cX8_yard 59 = .ok (.getfield 135, 3) := by decide +kernel
theorem dX8_yard_62 : decode cX8_yard 62 = .ok (.ireturn, 1) := by decide +kernel
theorem dX8_yard_63 : decode cX8_yard 63 = .ok (.aload_n 0, 1) := by decide +kernel
theorem dX8_yard_64 : decode cX8_yard 64 = .ok (.getfield 26, 3) := by decide +kernel
theorem dX8_yard_67 : decode cX8_yard 67 = .ok (.getfield 125, 3) := by decide +kernel
theorem dX8_yard_70 : decode cX8_yard 70 = .ok (.invokevirtual 138, 3) := by decide +kernel
theorem dX8_yard_73 : decode cX8_yard 73 = .ok (.ireturn, 1) := by decide +kernel
theorem dX8_yard_74 : decode cX8_yard 74 = .ok (.aload_n 0, 1) := by decide +kernel
theorem dX8_yard_75 : decode cX8_yard 75 = .ok (.getfield 26, 3) := by decide +kernel
theorem dX8_yard_78 : decode cX8_yard 78 = .ok (.getfield 125, 3) := by decide +kernel
theorem dX8_yard_81 : decode cX8_yard 81 = .ok (.invokevirtual 141, 3) := by decide +kernel
theorem dX8_yard_84 : decode cX8_yard 84 = .ok (.ireturn, 1) := by decide +kernel
theorem dX8_yard_85 : decode cX8_yard 85 = .ok (.aload_n 0, 1) := by decide +kernel
theorem dX8_yard_86 : decode cX8_yard 86 = .ok (.getfield 26, 3) := by decide +kernel
theorem dX8_yard_89 : decode cX8_yard 89 = .ok (.getfield 125, 3) := by decide +kernel
theorem dX8_yard_92 : decode cX8_yard 92 = .ok (.invokevirtual 144, 3) := by decide +kernel
theorem dX8_yard_95 : decode cX8_yard 95 = .ok (.ireturn, 1) := by decide +kernel
set_option maxRecDepth 20000 in
theorem ggX8_lost_X8_within : GoodIn wsX8_lost wsX8_within := goodIn_r _ [7] (by decide +kernel) (by decide +kernel)
set_option maxRecDepth 20000 in
theorem gX8_lost_X8_within : GoodIn wsX8_lost (va_wsS RX8 62 yX8_within wsX8_within) := goodIn_app (goodIn_of _ (by decide +kernel)) ggX8_lost_X8_within
set_option maxRecDepth 20000 in
theorem ggX8_lost_X8_followText : GoodIn wsX8_lost wsX8_followText := goodIn_r _ [11, 12, 1, 13, 14, 15, 16, 17, 18, 19, 20, 21, 22, 23, 24, 25, 26, 27, 28, 29, 30, 6, 31, 4, 5, 7, 32, 33, 34, 35, 36, 37, 38, 39, 40, 41, 42, 43, 44, 45, 46, 47, 48, 49, 50, 51, 52, 53, 54, 55, 56, 57, 58, 59, 60, 61, 62, 63, 64, 65, 66, 67, 68, 69, 70, 71, 72, 73, 74, 75, 76, 77, 78, 79, 80, 81, 82, 83, 84, 85, 86, 87, 88, 89, 90, 91, 92, 93, 94, 95, 96, 97, 98, 99, 100, 101, 102, 103, 104, 105, 106, 107, 108, 109, 110, 111, 112, 113, 114, 115, 116, 117, 118, 119, 120, 121, 122, 123, 124, 125, 126, 127, 128, 129, 130, 131, 132, 133, 134, 135, 136, 137, 138, 139, 140, 141, 142, 143, 144, 145, 146, 147, 148, 149, 150, 151, 152, 153, 154, 155, 156, 157, 158, 159, 160, 161, 162, 163, 164, 165, 166, 167, 168, 169, 170, 171, 172, 173, 174, 175, 176, 177, 178, 179, 180, 181, 182, 183, 184, 185, 186, 187, 188, 189, 190, 191, 192, 193, 194, 195, 196, 197, 198] (by decide +kernel) (by decide +kernel)
set_option maxRecDepth 20000 in
theorem gX8_lost_X8_followText : GoodIn wsX8_lost (wsV RX8 113 RX8 yX8_followText wsX8_followText) := goodIn_app (goodIn_of _ (by decide +kernel)) ggX8_lost_X8_followText
theorem dX8_lost_0 : decode cX8_lost 0 = .ok (.iload_n 1, 1) := by decide +kernel
theorem dX8_lost_1 : decode cX8_lost 1 = .ok (.iconst 0, 1) := by decide +kernel
theorem dX8_lost_2 : decode cX8_lost 2 = .ok (.iconst 1, 1) := by decide +kernel
theorem dX8_lost_3 : decode cX8_lost 3 = .ok (.invokestatic 62, 3) := by decide +kernel
theorem dX8_lost_6 : decode cX8_lost 6 = .ok (.ifCond .ne 6, 3) := by decide +kernel
theorem dX8_lost_9 : decode cX8_lost 9 = .ok (.bipush (-2), 2) := by decide +kernel
theorem dX8_lost_11 : decode cX8_lost 11 = .ok (.ireturn, 1) := by decide +kernel
theorem dX8_lost_12 : decode cX8_lost 12 = .ok (.aload_n 0, 1) := by decide +kernel
theorem dX8_lost_13 : decode cX8_lost 13 = .ok (.invokevirtual 113, 3) := by decide +kernel
theorem dX8_lost_16 : decode cX8_lost 16 = .ok (.istore_n 2, 1) := by decide +kernel
theorem dX8_lost_17 : decode cX8_lost 17 = .ok (.iload_n 2, 1) := by decide +kernel
theorem dX8_lost_18 : decode cX8_lost 18 = .ok (.ifCond .eq 5, 3) := by decide +kernel
theorem dX8_lost_21 : decode cX8_lost 21 = .ok (.iload_n 2, 1) := by decide +kernel
theorem dX8_lost_22 : decode cX8_lost 22 = .ok (.ireturn, 1) := by decide +kernel
theorem dX8_lost_23 : decode cX8_lost 23 = .ok (.iload_n 1, 1) := by decide +kernel
theorem dX8_lost_24 : decode cX8_lost 24 = .ok (.ifCond .ne 13, 3) := by decide +kernel
theorem dX8_lost_27 : decode cX8_lost 27 = .ok (.aload_n 0, 1) := by decide +kernel
theorem dX8_lost_28 : decode cX8_lost 28 = .ok (.getfield 26, 3) := by decide +kernel
theorem dX8_lost_31 : decode cX8_lost 31 = .ok (.getfield 147, 3) := by decide +kernel
theorem dX8_lost_34 : decode cX8_lost 34 = .ok (.goto 10, 3) := by decide +kernel
theorem dX8_lost_37 : decode cX8_lost 37 = .ok (.aload_n 0, 1) := by decide +kernel
theorem dX8_lost_38 : decode cX8_lost 38 = .ok (.getfield 26, 3) := by decide +kernel
theorem dX8_lost_41 : decode cX8_lost 41 = .ok (.getfield 150, 3) := by decide +kernel
theorem dX8_lost_44 : decode cX8_lost 44 = .ok (.ireturn, 1) := by decide +kernel
set_option maxRecDepth 20000 in
theorem ggX8_done_X8_followText : GoodIn wsX8_done wsX8_followText := goodIn_r _ [10, 4, 2, 1, 11, 12, 13, 14, 15, 16, 17, 18, 19, 20, 21, 22, 23, 24, 25, 26, 27, 9, 28, 29, 30, 31, 32, 33, 34, 35, 36, 37, 38, 39, 40, 41, 42, 43, 44, 45, 46, 47, 48, 49, 50, 51, 52, 53, 54, 55, 56, 57, 58, 59, 60, 61, 62, 63, 64, 65, 66, 67, 68, 69, 70, 71, 72, 73, 74, 75, 76, 77, 78, 79, 80, 81, 82, 83, 84, 85, 86, 87, 88, 89, 90, 91, 92, 93, 94, 95, 96, 97, 98, 99, 100, 101, 102, 103, 104, 105, 106, 107, 108, 109, 110, 111, 112, 113, 114, 115, 116, 117, 118, 119, 120, 121, 122, 123, 124, 125, 126, 127, 128, 129, 130, 131, 132, 133, 134, 135, 136, 137, 138, 139, 140, 141, 142, 143, 144, 145, 146, 147, 148, 149, 150, 151, 152, 153, 154, 155, 156, 157, 158, 159, 160, 161, 162, 163, 164, 165, 166, 167, 173, 174, 175, 176, 177, 178, 179, 180, 181, 182, 183, 184, 185, 186, 187, 188, 189, 190, 191, 192, 193, 194, 195, 196, 197, 198, 199, 200, 201, 202, 203] (by decide +kernel) (by decide +kernel)
set_option maxRecDepth 20000 in
theorem gX8_done_X8_followText : GoodIn wsX8_done (wsV RX8 113 RX8 yX8_followText wsX8_followText) := goodIn_app (goodIn_of _ (by decide +kernel)) ggX8_done_X8_followText
set_option maxRecDepth 20000 in
theorem ggX8_done_X5_copyFrom : GoodIn wsX8_done wsX5_copyFrom := goodIn_r _ [64, 65, 66, 67, 68, 69, 70, 71, 72, 73, 74, 75, 76, 77, 78, 79, 190, 191, 192, 193, 194, 195, 196, 197, 198, 199, 200] (by decide +kernel) (by decide +kernel)
set_option maxRecDepth 20000 in
theorem gX8_done_X5_copyFrom : GoodIn wsX8_done (wsV RX8 153 RX5 yX5_copyFrom wsX5_copyFrom) := goodIn_app (goodIn_of _ (by decide +kernel)) ggX8_done_X5_copyFrom
set_option maxRecDepth 20000 in
theorem ggX8_done_X4_clear : GoodIn wsX8_done wsX4_clear := goodIn_r _ [172, 17, 188, 189] (by decide +kernel) (by decide +kernel)
set_option maxRecDepth 20000 in
theorem gX8_done_X4_clear : GoodIn wsX8_done (wsV RX8 106 RX4 yX4_clear wsX4_clear) := goodIn_app (goodIn_of _ (by decide +kernel)) ggX8_done_X4_clear
theorem dX8_done_0 : decode cX8_done 0 = .ok (.aload_n 0, 1) := by decide +kernel
theorem dX8_done_1 : decode cX8_done 1 = .ok (.invokevirtual 113, 3) := by decide +kernel
theorem dX8_done_4 : decode cX8_done 4 = .ok (.istore_n 1, 1) := by decide +kernel
theorem dX8_done_5 : decode cX8_done 5 = .ok (.iload_n 1, 1) := by decide +kernel
theorem dX8_done_6 : decode cX8_done 6 = .ok (.ifCond .eq 5, 3) := by decide +kernel
theorem dX8_done_9 : decode cX8_done 9 = .ok (.iload_n 1, 1) := by decide +kernel
theorem dX8_done_10 : decode cX8_done 10 = .ok (.ireturn, 1) := by decide +kernel
theorem dX8_done_11 : decode cX8_done 11 = .ok (.aload_n 0, 1) := by decide +kernel
theorem dX8_done_12 : decode cX8_done 12 = .ok (.getfield 10, 3) := by decide +kernel
theorem dX8_done_15 : decode cX8_done 15 = .ok (.aload_n 0, 1) := by decide +kernel
theorem dX8_done_16 : decode cX8_done 16 = .ok (.getfield 26, 3) := by decide +kernel
theorem dX8_done_19 : decode cX8_done 19 = .ok (.getfield 125, 3) := by decide +kernel
theorem dX8_done_22 : decode cX8_done 22 = .ok (.invokevirtual 153, 3) := by decide +kernel
theorem dX8_done_25 : decode cX8_done 25 = .ok (.aload_n 0, 1) := by decide +kernel
theorem dX8_done_26 : decode cX8_done 26 = .ok (.getfield 19, 3) := by decide +kernel
theorem dX8_done_29 : decode cX8_done 29 = .ok (.invokevirtual 106, 3) := by decide +kernel
theorem dX8_done_32 : decode cX8_done 32 = .ok (.pop, 1) := by decide +kernel
theorem dX8_done_33 : decode cX8_done 33 = .ok (.aload_n 0, 1) := by decide +kernel
theorem dX8_done_34 : decode cX8_done 34 = .ok (.getfield 26, 3) := by decide +kernel
theorem dX8_done_37 : decode cX8_done 37 = .ok (.getfield 157, 3) := by decide +kernel
theorem dX8_done_40 : decode cX8_done 40 = .ok (.ireturn, 1) := by decide +kernel
set_option maxRecDepth 20000 in
theorem ggX8_followText_X4_firstFault : GoodIn wsX8_followText wsX4_firstFault := goodIn_r _ [9, 10, 11, 12, 13, 8, 14, 15, 16, 17, 18, 19, 20, 21, 22, 23, 24, 25, 26, 27, 28, 29, 30, 31, 32, 33, 34, 35, 36, 37, 38, 39, 40, 41, 177, 178] (by decide +kernel) (by decide +kernel)
set_option maxRecDepth 20000 in
theorem gX8_followText_X4_firstFault : GoodIn wsX8_followText (wsV RX8 110 RX4 yX4_firstFault wsX4_firstFault) := goodIn_app (goodIn_of _ (by decide +kernel)) ggX8_followText_X4_firstFault
set_option maxRecDepth 20000 in
theorem ggX8_followText_X3_startFrom : GoodIn wsX8_followText wsX3_startFrom := goodIn_r _ [46, 47, 48, 49, 50, 51, 52, 53, 54, 55, 56, 57, 58, 59, 60, 61, 62, 63, 64, 65, 66, 67, 68, 69, 70, 71, 72, 73, 169, 170, 171, 172, 173, 174, 175, 176, 179, 180, 181, 182, 183, 184, 185, 186, 187, 188, 189] (by decide +kernel) (by decide +kernel)
set_option maxRecDepth 20000 in
theorem gX8_followText_X3_startFrom : GoodIn wsX8_followText (wsV RX8 160 RX3 yX3_startFrom wsX3_startFrom) := goodIn_app (goodIn_of _ (by decide +kernel)) ggX8_followText_X3_startFrom
set_option maxRecDepth 20000 in
theorem ggX8_followText_X3_follow : GoodIn wsX8_followText wsX3_follow := goodIn_r _ [77, 78, 49, 79, 50, 80, 81, 82, 8, 83, 15, 16, 17, 18, 10, 19, 84, 85, 86, 87, 88, 89, 90, 91, 32, 21, 33, 23, 24, 25, 92, 93, 94, 45, 95, 47, 48, 96, 97, 98, 99, 20, 22, 30, 31, 100, 101, 102, 57, 103, 104, 105, 106, 59, 68, 65, 73, 107, 108, 109, 110, 111, 112, 113, 114, 115, 116, 117, 118, 69, 71, 119, 120, 121, 122, 123, 124, 125, 126, 67, 127, 128, 129, 130, 131, 132, 133, 134, 66, 135, 136, 137, 138, 64, 70, 139, 140, 141, 142, 72, 143, 144, 145, 146, 147, 148, 149, 51, 52, 53, 150, 151, 152, 153, 154, 155, 156, 157, 158, 159, 160, 161, 39, 40, 41, 177, 178, 169, 170, 171, 172, 173, 174, 175, 176, 190, 191, 192, 179, 180, 181, 182, 183, 184, 185, 186, 187, 188, 189] (by decide +kernel) (by decide +kernel)
set_option maxRecDepth 20000 in
theorem gX8_followText_X3_follow : GoodIn wsX8_followText (wsV RX8 163 RX3 yX3_follow wsX3_follow) := goodIn_app (goodIn_of _ (by decide +kernel)) ggX8_followText_X3_follow
theorem dX8_followText_0 : decode cX8_followText 0 = .ok (.aload_n 0, 1) := by decide +kernel
theorem dX8_followText_1 : decode cX8_followText 1 = .ok (.getfield 19, 3) := by decide +kernel
theorem dX8_followText_4 : decode cX8_followText 4 = .ok (.invokevirtual 110, 3) := by decide +kernel
theorem dX8_followText_7 : decode cX8_followText 7 = .ok (.bipush (-6), 2) := by decide +kernel
theorem dX8_followText_9 : decode cX8_followText 9 = .ok (.if_icmp .eq 6, 3) := by decide +kernel
theorem dX8_followText_12 : decode cX8_followText 12 = .ok (.bipush (-5), 2) := by decide +kernel
theorem dX8_followText_14 : decode cX8_followText 14 = .ok (.ireturn, 1) := by decide +kernel
theorem dX8_followText_15 : decode cX8_followText 15 = .ok (.aload_n 0, 1) := by decide +kernel
theorem dX8_followText_16 : decode cX8_followText 16 = .ok (.getfield 26, 3) := by decide +kernel
theorem dX8_followText_19 : decode cX8_followText 19 = .ok (.aload_n 0, 1) := by decide +kernel
theorem dX8_followText_20 : decode cX8_followText 20 = .ok (.getfield 10, 3) := by decide +kernel
theorem dX8_followText_23 : decode cX8_followText 23 = .ok (.invokevirtual 160, 3) := by decide +kernel
theorem dX8_followText_26 : decode cX8_followText 26 = .ok (.aload_n 0, 1) := by decide +kernel
theorem dX8_followText_27 : decode cX8_followText 27 = .ok (.getfield 26, 3) := by decide +kernel
theorem dX8_followText_30 : decode cX8_followText 30 = .ok (.aload_n 0, 1) := by decide +kernel
theorem dX8_followText_31 : decode cX8_followText 31 = .ok (.getfield 19, 3) := by decide +kernel
theorem dX8_followText_34 : decode cX8_followText 34 = .ok (.invokevirtual 163, 3) := by decide +kernel
theorem dX8_followText_37 : decode cX8_followText 37 = .ok (.aload_n 0, 1) := by decide +kernel
theorem dX8_followText_38 : decode cX8_followText 38 = .ok (.getfield 26, 3) := by decide +kernel
theorem dX8_followText_41 : decode cX8_followText 41 = .ok (.getfield 116, 3) := by decide +kernel
theorem dX8_followText_44 : decode cX8_followText 44 = .ok (.bipush (-6), 2) := by decide +kernel
theorem dX8_followText_46 : decode cX8_followText 46 = .ok (.if_icmp .ne 7, 3) := by decide +kernel
theorem dX8_followText_49 : decode cX8_followText 49 = .ok (.iconst 0, 1) := by decide +kernel
theorem dX8_followText_50 : decode cX8_followText 50 = .ok (.goto 5, 3) := by decide +kernel
theorem dX8_followText_53 : decode cX8_followText 53 = .ok (.bipush (-3), 2) := by decide +kernel
theorem dX8_followText_55 : decode cX8_followText 55 = .ok (.ireturn, 1) := by decide +kernel
set_option maxRecDepth 20000 in
theorem ggX8_plan_X8_isReader : GoodIn wsX8_plan wsX8_isReader := goodIn_r _ [6, 7, 8, 5, 9] (by decide +kernel) (by decide +kernel)
set_option maxRecDepth 20000 in
theorem gX8_plan_X8_isReader : GoodIn wsX8_plan (va_wsS RX8 83 yX8_isReader wsX8_isReader) := goodIn_app (goodIn_of _ (by decide +kernel)) ggX8_plan_X8_isReader
set_option maxRecDepth 20000 in
theorem ggX8_plan_X8_within : GoodIn wsX8_plan wsX8_within := goodIn_r _ [9] (by decide +kernel) (by decide +kernel)
set_option maxRecDepth 20000 in
theorem gX8_plan_X8_within : GoodIn wsX8_plan (va_wsS RX8 62 yX8_within wsX8_within) := goodIn_app (goodIn_of _ (by decide +kernel)) ggX8_plan_X8_within
set_option maxRecDepth 20000 in
theorem ggX8_plan_X6_bestStones : GoodIn wsX8_plan wsX6_bestStones := goodIn_r _ [14, 15, 16, 17, 18, 19, 20, 21, 22, 23, 24, 25, 26, 27, 13, 28, 29, 30, 31, 32, 33, 34, 35, 36, 37, 38, 39, 40, 41, 42, 43, 44, 45, 46, 47, 48, 49, 50, 51, 52, 53, 54, 63, 64, 65, 66, 67, 68, 69, 70, 71, 72, 73, 74] (by decide +kernel) (by decide +kernel)
set_option maxRecDepth 20000 in
theorem gX8_plan_X6_bestStones : GoodIn wsX8_plan (wsV RX8 167 RX6 yX6_bestStones wsX6_bestStones) := goodIn_app (goodIn_of _ (by decide +kernel)) ggX8_plan_X6_bestStones
set_option maxRecDepth 20000 in
theorem ggX8_plan_X5_figuresOf : GoodIn wsX8_plan wsX5_figuresOf := goodIn_r _ [53, 54, 63, 64, 65, 66, 67, 68, 69, 70, 71, 72, 73] (by decide +kernel) (by decide +kernel)
set_option maxRecDepth 20000 in
theorem gX8_plan_X5_figuresOf : GoodIn wsX8_plan (wsV RX8 171 RX5 yX5_figuresOf wsX5_figuresOf) := goodIn_app (goodIn_of _ (by decide +kernel)) ggX8_plan_X5_figuresOf
theorem dX8_plan_0 : decode cX8_plan 0 = .ok (.iload_n 1, 1) := by decide +kernel
theorem dX8_plan_1 : decode cX8_plan 1 = .ok (.invokestatic 83, 3) := by decide +kernel
theorem dX8_plan_4 : decode cX8_plan 4 = .ok (.ifCond .ne 5, 3) := by decide +kernel
theorem dX8_plan_7 : decode cX8_plan 7 = .ok (.iconst (-1), 1) := by decide +kernel
theorem dX8_plan_8 : decode cX8_plan 8 = .ok (.ireturn, 1) := by decide +kernel
theorem dX8_plan_9 : decode cX8_plan 9 = .ok (.iload_n 2, 1) := by decide +kernel
theorem dX8_plan_10 : decode cX8_plan 10 = .ok (.iconst 0, 1) := by decide +kernel
theorem dX8_plan_11 : decode cX8_plan 11 = .ok (.iconst 1, 1) := by decide +kernel
theorem dX8_plan_12 : decode cX8_plan 12 = .ok (.invokestatic 62, 3) := by decide +kernel
theorem dX8_plan_15 : decode cX8_plan 15 = .ok (.ifCond .ne 6, 3) := by decide +kernel
theorem dX8_plan_18 : decode cX8_plan 18 = .ok (.bipush (-2), 2) := by decide +kernel
theorem dX8_plan_20 : decode cX8_plan 20 = .ok (.ireturn, 1) := by decide +kernel
theorem dX8_plan_21 : decode cX8_plan 21 = .ok (.aload_n 0, 1) := by decide +kernel
theorem dX8_plan_22 : decode cX8_plan 22 = .ok (.getfield 33, 3) := by decide +kernel
theorem dX8_plan_25 : decode cX8_plan 25 = .ok (.aload_n 0, 1) := by decide +kernel
theorem dX8_plan_26 : decode cX8_plan 26 = .ok (.getfield 10, 3) := by decide +kernel
theorem dX8_plan_29 : decode cX8_plan 29 = .ok (.iload_n 1, 1) := by decide +kernel
theorem dX8_plan_30 : decode cX8_plan 30 = .ok (.invokevirtual 167, 3) := by decide +kernel
theorem dX8_plan_33 : decode cX8_plan 33 = .ok (.istore_n 3, 1) := by decide +kernel
theorem dX8_plan_34 : decode cX8_plan 34 = .ok (.iload_n 2, 1) := by decide +kernel
theorem dX8_plan_35 : decode cX8_plan 35 = .ok (.ifCond .ne 14, 3) := by decide +kernel
theorem dX8_plan_38 : decode cX8_plan 38 = .ok (.aload_n 0, 1) := by decide +kernel
theorem dX8_plan_39 : decode cX8_plan 39 = .ok (.getfield 10, 3) := by decide +kernel
theorem dX8_plan_42 : decode cX8_plan 42 = .ok (.iload_n 3, 1) := by decide +kernel
theorem dX8_plan_43 : decode cX8_plan 43 = .ok (.invokevirtual 171, 3) := by decide +kernel
theorem dX8_plan_46 : decode cX8_plan 46 = .ok (.goto 4, 3) := by decide +kernel
theorem dX8_plan_49 : decode cX8_plan 49 = .ok (.iload_n 3, 1) := by decide +kernel
theorem dX8_plan_50 : decode cX8_plan 50 = .ok (.ireturn, 1) := by decide +kernel
set_option maxRecDepth 20000 in
theorem ggX8_cover_X8_within : GoodIn wsX8_cover wsX8_within := goodIn_r _ [4] (by decide +kernel) (by decide +kernel)
set_option maxRecDepth 20000 in
theorem gX8_cover_X8_within : GoodIn wsX8_cover (va_wsS RX8 62 yX8_within wsX8_within) := goodIn_app (goodIn_of _ (by decide +kernel)) ggX8_cover_X8_within
set_option maxRecDepth 20000 in
theorem ggX8_cover_X8_fewestCells : GoodIn wsX8_cover wsX8_fewestCells := goodIn_r _ [8, 9, 10, 11, 12, 13, 14, 15, 16, 17, 18, 19, 20, 21, 22, 23, 24, 25, 26, 27, 28, 29, 30, 31, 32, 33, 34, 35, 36, 37, 38, 39, 40, 41, 42, 43, 44, 45, 46, 47, 48, 49, 50, 51, 52, 53, 54] (by decide +kernel) (by decide +kernel)
set_option maxRecDepth 20000 in
theorem gX8_cover_X8_fewestCells : GoodIn wsX8_cover (wsV RX8 175 RX8 yX8_fewestCells wsX8_fewestCells) := goodIn_app (goodIn_of _ (by decide +kernel)) ggX8_cover_X8_fewestCells
set_option maxRecDepth 20000 in
theorem ggX8_cover_J6_bitCount_0f7a4 : GoodIn wsX8_cover wsJ6_bitCount_0f7a4 := goodIn_r _ [13, 14, 15, 16] (by decide +kernel) (by decide +kernel)
set_option maxRecDepth 20000 in
theorem gX8_cover_J6_bitCount_0f7a4 : GoodIn wsX8_cover (va_wsS RX8 178 yJ6_bitCount_0f7a4 wsJ6_bitCount_0f7a4) := goodIn_app (goodIn_of _ (by decide +kernel)) ggX8_cover_J6_bitCount_0f7a4
theorem dX8_cover_0 : decode cX8_cover 0 = .ok (.iload_n 1, 1) := by decide +kernel
theorem dX8_cover_1 : decode cX8_cover 1 = .ok (.iconst 0, 1) := by decide +kernel
theorem dX8_cover_2 : decode cX8_cover 2 = .ok (.bipush 11, 2) := by decide +kernel
theorem dX8_cover_4 : decode cX8_cover 4 = .ok (.invokestatic 62, 3) := by decide +kernel
theorem dX8_cover_7 : decode cX8_cover 7 = .ok (.ifCond .eq 12, 3) := by decide +kernel
theorem dX8_cover_10 : decode cX8_cover 10 = .ok (.iload_n 2, 1) := by decide +kernel
theorem dX8_cover_11 : decode cX8_cover 11 = .ok (.iconst 0, 1) := by decide +kernel
theorem dX8_cover_12 : decode cX8_cover 12 = .ok (.iconst 1, 1) := by decide +kernel
theorem dX8_cover_13 : decode cX8_cover 13 = .ok (.invokestatic 62, 3) := by decide +kernel
theorem dX8_cover_16 : decode cX8_cover 16 = .ok (.ifCond .ne 6, 3) := by decide +kernel
theorem dX8_cover_19 : decode cX8_cover 19 = .ok (.bipush (-2), 2) := by decide +kernel
theorem dX8_cover_21 : decode cX8_cover 21 = .ok (.ireturn, 1) := by decide +kernel
theorem dX8_cover_22 : decode cX8_cover 22 = .ok (.aload_n 0, 1) := by decide +kernel
theorem dX8_cover_23 : decode cX8_cover 23 = .ok (.iload_n 1, 1) := by decide +kernel
theorem dX8_cover_24 : decode cX8_cover 24 = .ok (.invokevirtual 175, 3) := by decide +kernel
