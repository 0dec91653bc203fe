theorem dX9_readOn_98 : decode cX9_readOn 98 = .ok (.iload_n 1, 1) := by decide +kernel
theorem dX9_readOn_99 : decode cX9_readOn 99 = .ok (.iconst 3, 1) := by decide +kernel
theorem dX9_readOn_100 : decode cX9_readOn 100 = .ok (.if_icmp .ne 7, 3) := by decide +kernel
theorem dX9_readOn_103 : decode cX9_readOn 103 = .ok (.iconst 0, 1) := by decide +kernel
theorem dX9_readOn_104 : decode cX9_readOn 104 = .ok (.goto 4, 3) := by decide +kernel
theorem dX9_readOn_107 : decode cX9_readOn 107 = .ok (.iconst 4, 1) := by decide +kernel
theorem dX9_readOn_108 : decode cX9_readOn 108 = .ok (.iload_n 2, 1) := by decide +kernel
theorem dX9_readOn_109 : decode cX9_readOn 109 = .ok (.bipush 65, 2) := by decide +kernel
theorem dX9_readOn_111 : decode cX9_readOn 111 = .ok (.isub, 1) := by decide +kernel
theorem dX9_readOn_112 : decode cX9_readOn 112 = .ok (.invokevirtual 129, 3) := by decide +kernel
theorem dX9_readOn_115 : decode cX9_readOn 115 = .ok (.goto 5, 3) := by decide +kernel
theorem dX9_readOn_118 : decode cX9_readOn 118 = .ok (.bipush (-6), 2) := by decide +kernel
theorem dX9_readOn_120 : decode cX9_readOn 120 = .ok (.ireturn, 1) := by decide +kernel
set_option maxRecDepth 20000 in
theorem ggX9_fault_X9_readOn : GoodIn wsX9_fault wsX9_readOn := goodIn_r _ [8, 9, 10, 11, 12, 13, 14, 15, 7, 16, 17, 18, 19, 1, 20, 21, 22, 23, 24, 25, 26, 27, 28, 29, 30, 31, 32, 33, 34, 35, 36, 37, 38, 39, 40, 41, 42, 43, 44, 45, 46, 47, 48, 49, 50, 51, 52, 53, 54, 55, 56, 57, 58, 59, 60, 61, 62, 63, 64, 65, 66, 67, 68, 69, 70, 71, 72, 73] (by decide +kernel) (by decide +kernel)
set_option maxRecDepth 20000 in
theorem gX9_fault_X9_readOn : GoodIn wsX9_fault (wsV RX9 147 RX9 yX9_readOn wsX9_readOn) := goodIn_app (goodIn_of _ (by decide +kernel)) ggX9_fault_X9_readOn
theorem dX9_fault_0 : decode cX9_fault 0 = .ok (.aload_n 0, 1) := by decide +kernel
theorem dX9_fault_1 : decode cX9_fault 1 = .ok (.iconst 0, 1) := by decide +kernel
theorem dX9_fault_2 : decode cX9_fault 2 = .ok (.putfield 118, 3) := by decide +kernel
theorem dX9_fault_5 : decode cX9_fault 5 = .ok (.iconst 0, 1) := by decide +kernel
theorem dX9_fault_6 : decode cX9_fault 6 = .ok (.istore_n 1, 1) := by decide +kernel
theorem dX9_fault_7 : decode cX9_fault 7 = .ok (.iconst 0, 1) := by decide +kernel
theorem dX9_fault_8 : decode cX9_fault 8 = .ok (.istore_n 2, 1) := by decide +kernel
theorem dX9_fault_9 : decode cX9_fault 9 = .ok (.iload_n 2, 1) := by decide +kernel
theorem dX9_fault_10 : decode cX9_fault 10 = .ok (.aload_n 0, 1) := by decide +kernel
theorem dX9_fault_11 : decode cX9_fault 11 = .ok (.getfield 115, 3) := by decide +kernel
theorem dX9_fault_14 : decode cX9_fault 14 = .ok (.if_icmp .ge 27, 3) := by decide +kernel
theorem dX9_fault_17 : decode cX9_fault 17 = .ok (.aload_n 0, 1) := by decide +kernel
theorem dX9_fault_18 : decode cX9_fault 18 = .ok (.iload_n 1, 1) := by decide +kernel
theorem dX9_fault_19 : decode cX9_fault 19 = .ok (.aload_n 0, 1) := by decide +kernel
theorem dX9_fault_20 : decode cX9_fault 20 = .ok (.getfield 46, 3) := by decide +kernel
theorem dX9_fault_23 : decode cX9_fault 23 = .ok (.iload_n 2, 1) := by decide +kernel
theorem dX9_fault_24 : decode cX9_fault 24 = .ok (.iaload, 1) := by decide +kernel
theorem dX9_fault_25 : decode cX9_fault 25 = .ok (.invokevirtual 147, 3) := by decide +kernel
theorem dX9_fault_28 : decode cX9_fault 28 = .ok (.istore_n 1, 1) := by decide +kernel
theorem dX9_fault_29 : decode cX9_fault 29 = .ok (.iload_n 1, 1) := by decide +kernel
theorem dX9_fault_30 : decode cX9_fault 30 = .ok (.ifCond .ge 5, 3) := by decide +kernel
theorem dX9_fault_33 : decode cX9_fault 33 = .ok (.iload_n 2, 1) := by decide +kernel
theorem dX9_fault_34 : decode cX9_fault 34 = .ok (.ireturn, 1) := by decide +kernel
theorem dX9_fault_35 : decode cX9_fault 35 = .ok (.iinc 2 1, 3) := by decide +kernel
theorem dX9_fault_38 : decode cX9_fault 38 = .ok (.goto (-29), 3) := by decide +kernel
theorem dX9_fault_41 : decode cX9_fault 41 = .ok (.iload_n 1, 1) := by decide +kernel
theorem dX9_fault_42 : decode cX9_fault 42 = .ok (.ifCond .ne 8, 3) := by decide +kernel
theorem dX9_fault_45 : decode cX9_fault 45 = .ok (.bipush (-6), 2) := by decide +kernel
theorem dX9_fault_47 : decode cX9_fault 47 = .ok (.goto 7, 3) := by decide +kernel
theorem dX9_fault_50 : decode cX9_fault 50 = .ok (.aload_n 0, 1) := by decide +kernel
theorem dX9_fault_51 : decode cX9_fault 51 = .ok (.getfield 115, 3) := by decide +kernel
theorem dX9_fault_54 : decode cX9_fault 54 = .ok (.ireturn, 1) := by decide +kernel
theorem dX9_may_0 : decode cX9_may 0 = .ok (.aload_n 0, 1) := by decide +kernel
theorem dX9_may_1 : decode cX9_may 1 = .ok (.getfield 28, 3) := by decide +kernel
theorem dX9_may_4 : decode cX9_may 4 = .ok (.iload_n 1, 1) := by decide +kernel
theorem dX9_may_5 : decode cX9_may 5 = .ok (.iaload, 1) := by decide +kernel
theorem dX9_may_6 : decode cX9_may 6 = .ok (.ifCond .ne 16, 3) := by decide +kernel
theorem dX9_may_9 : decode cX9_may 9 = .ok (.aload_n 0, 1) := by decide +kernel
theorem dX9_may_10 : decode cX9_may 10 = .ok (.getfield 34, 3) := by decide +kernel
theorem dX9_may_13 : decode cX9_may 13 = .ok (.iload_n 1, 1) := by decide +kernel
theorem dX9_may_14 : decode cX9_may 14 = .ok (.iaload, 1) := by decide +kernel
theorem dX9_may_15 : decode cX9_may 15 = .ok (.ifCond .ne 7, 3) := by decide +kernel
theorem dX9_may_18 : decode cX9_may 18 = .ok (.iconst 1, 1) := by decide +kernel
theorem dX9_may_19 : decode cX9_may 19 = .ok (.goto 4, 3) := by decide +kernel
theorem dX9_may_22 : decode cX9_may 22 = .ok (.iconst 0, 1) := by decide +kernel
theorem dX9_may_23 : decode cX9_may 23 = .ok (.ireturn, 1) := by decide +kernel
set_option maxRecDepth 20000 in
theorem ggX9_whyNoStep_X9_may : GoodIn wsX9_whyNoStep wsX9_may := goodIn_r _ [5, 6, 7, 15, 16, 17, 18, 19, 20, 21, 22, 23, 24, 25, 26, 27, 28, 29, 30, 31, 32, 33, 34, 35, 36, 37, 38, 39, 40, 41, 42, 43, 44, 45, 46, 47, 48, 49, 50, 51] (by decide +kernel) (by decide +kernel)
set_option maxRecDepth 20000 in
theorem gX9_whyNoStep_X9_may : GoodIn wsX9_whyNoStep (wsV RX9 150 RX9 yX9_may wsX9_may) := goodIn_app (goodIn_of _ (by decide +kernel)) ggX9_whyNoStep_X9_may
set_option maxRecDepth 20000 in
theorem ggX9_whyNoStep_X9_isCell : GoodIn wsX9_whyNoStep wsX9_isCell := goodIn_r _ [10, 11, 12, 13, 4, 14] (by decide +kernel) (by decide +kernel)
set_option maxRecDepth 20000 in
theorem gX9_whyNoStep_X9_isCell : GoodIn wsX9_whyNoStep (va_wsS RX9 106 yX9_isCell wsX9_isCell) := goodIn_app (goodIn_of _ (by decide +kernel)) ggX9_whyNoStep_X9_isCell
theorem dX9_whyNoStep_0 : decode cX9_whyNoStep 0 = .ok (.aload_n 0, 1) := by decide +kernel
theorem dX9_whyNoStep_1 : decode cX9_whyNoStep 1 = .ok (.iload_n 1, 1) := by decide +kernel
theorem dX9_whyNoStep_2 : decode cX9_whyNoStep 2 = .ok (.invokevirtual 150, 3) := by decide +kernel
theorem dX9_whyNoStep_5 : decode cX9_whyNoStep 5 = .ok (.ifCond .ne 7, 3) := by decide +kernel
theorem dX9_whyNoStep_8 : decode cX9_whyNoStep 8 = .ok (.iconst 5, 1) := by decide +kernel
theorem dX9_whyNoStep_9 : decode cX9_whyNoStep 9 = .ok (.goto 16, 3) := by decide +kernel
theorem dX9_whyNoStep_12 : decode cX9_whyNoStep 12 = .ok (.iload_n 2, 1) := by decide +kernel
theorem dX9_whyNoStep_13 : decode cX9_whyNoStep 13 = .ok (.invokestatic 106, 3) := by decide +kernel
theorem dX9_whyNoStep_16 : decode cX9_whyNoStep 16 = .ok (.ifCond .eq 7, 3) := by decide +kernel
theorem dX9_whyNoStep_19 : decode cX9_whyNoStep 19 = .ok (.iconst 0, 1) := by decide +kernel
theorem dX9_whyNoStep_20 : decode cX9_whyNoStep 20 = .ok (.goto 5, 3) := by decide +kernel
theorem dX9_whyNoStep_23 : decode cX9_whyNoStep 23 = .ok (.bipush 6, 2) := by decide +kernel
theorem dX9_whyNoStep_25 : decode cX9_whyNoStep 25 = .ok (.ireturn, 1) := by decide +kernel
set_option maxRecDepth 20000 in
theorem ggX9_whyNot_X9_whyNoStep : GoodIn wsX9_whyNot wsX9_whyNoStep := goodIn_r _ [9, 10, 11, 12, 8, 13, 14, 15, 16, 17, 18, 19, 20, 21, 22, 23, 24, 25, 26, 27, 28, 29, 30, 31, 32, 33, 34, 35, 36, 37, 38, 39, 40, 41, 42, 43, 44, 45, 46, 47, 48, 49, 50, 51, 52, 53, 54, 55, 56, 57, 58, 59] (by decide +kernel) (by decide +kernel)
set_option maxRecDepth 20000 in
theorem gX9_whyNot_X9_whyNoStep : GoodIn wsX9_whyNot (wsV RX9 153 RX9 yX9_whyNoStep wsX9_whyNoStep) := goodIn_app (goodIn_of _ (by decide +kernel)) ggX9_whyNot_X9_whyNoStep
set_option maxRecDepth 20000 in
theorem ggX9_whyNot_X9_may : GoodIn wsX9_whyNot wsX9_may := goodIn_r _ [13, 14, 15, 23, 24, 25, 26, 27, 28, 29, 30, 31, 32, 33, 34, 35, 36, 37, 38, 39, 40, 41, 42, 43, 44, 45, 46, 47, 48, 49, 50, 51, 52, 53, 54, 55, 56, 57, 58, 59] (by decide +kernel) (by decide +kernel)
set_option maxRecDepth 20000 in
theorem gX9_whyNot_X9_may : GoodIn wsX9_whyNot (wsV RX9 150 RX9 yX9_may wsX9_may) := goodIn_app (goodIn_of _ (by decide +kernel)) ggX9_whyNot_X9_may
theorem dX9_whyNot_0 : decode cX9_whyNot 0 = .ok (.iload_n 1, 1) := by decide +kernel
theorem dX9_whyNot_1 : decode cX9_whyNot 1 = .ok (.tableswitch 151 0 4 #[35, 61, 89, 103, 117], 35) := by decide +kernel
theorem dX9_whyNot_36 : decode cX9_whyNot 36 = .ok (.iload_n 2, 1) := by decide +kernel
theorem dX9_whyNot_37 : decode cX9_whyNot 37 = .ok (.iload_n 3, 1) := by decide +kernel
theorem dX9_whyNot_38 : decode cX9_whyNot 38 = .ok (.if_icmp .ne 7, 3) := by decide +kernel
theorem dX9_whyNot_41 : decode cX9_whyNot 41 = .ok (.iconst 1, 1) := by decide +kernel
theorem dX9_whyNot_42 : decode cX9_whyNot 42 = .ok (.goto 19, 3) := by decide +kernel
theorem dX9_whyNot_45 : decode cX9_whyNot 45 = .ok (.aload_n 0, 1) := by decide +kernel
theorem dX9_whyNot_46 : decode cX9_whyNot 46 = .ok (.getfield 7, 3) := by decide +kernel
theorem dX9_whyNot_49 : decode cX9_whyNot 49 = .ok (.iload_n 3, 1) := by decide +kernel
theorem dX9_whyNot_50 : decode cX9_whyNot 50 = .ok (.iaload, 1) := by decide +kernel
theorem dX9_whyNot_51 : decode cX9_whyNot 51 = .ok (.bipush 99, 2) := by decide +kernel
theorem dX9_whyNot_53 : decode cX9_whyNot 53 = .ok (.if_icmp .ne 7, 3) := by decide +kernel
theorem dX9_whyNot_56 : decode cX9_whyNot 56 = .ok (.iconst 2, 1) := by decide +kernel
theorem dX9_whyNot_57 : decode cX9_whyNot 57 = .ok (.goto 4, 3) := by decide +kernel
theorem dX9_whyNot_60 : decode cX9_whyNot 60 = .ok (.iconst 0, 1) := by decide +kernel
theorem dX9_whyNot_61 : decode cX9_whyNot 61 = .ok (.ireturn, 1) := by decide +kernel
theorem dX9_whyNot_62 : decode cX9_whyNot 62 = .ok (.aload_n 0, 1) := by decide +kernel
theorem dX9_whyNot_63 : decode cX9_whyNot 63 = .ok (.getfield 7, 3) := by decide +kernel
theorem dX9_whyNot_66 : decode cX9_whyNot 66 = .ok (.iload_n 2, 1) := by decide +kernel
theorem dX9_whyNot_67 : decode cX9_whyNot 67 = .ok (.iaload, 1) := by decide +kernel
theorem dX9_whyNot_68 : decode cX9_whyNot 68 = .ok (.ifCond .ne 7, 3) := by decide +kernel
theorem dX9_whyNot_71 : decode cX9_whyNot 71 = .ok (.iconst 3, 1) := by decide +kernel
theorem dX9_whyNot_72 : decode cX9_whyNot 72 = .ok (.goto 17, 3) := by decide +kernel
theorem dX9_whyNot_75 : decode cX9_whyNot 75 = .ok (.aload_n 0, 1) := by decide +kernel
theorem dX9_whyNot_76 : decode cX9_whyNot 76 = .ok (.getfield 16, 3) := by decide +kernel
theorem dX9_whyNot_79 : decode cX9_whyNot 79 = .ok (.iload_n 2, 1) := by decide +kernel
theorem dX9_whyNot_80 : decode cX9_whyNot 80 = .ok (.iaload, 1) := by decide +kernel
theorem dX9_whyNot_81 : decode cX9_whyNot 81 = .ok (.ifCond .lt 7, 3) := by decide +kernel
theorem dX9_whyNot_84 : decode cX9_whyNot 84 = .ok (.iconst 4, 1) := by decide +kernel
theorem dX9_whyNot_85 : decode cX9_whyNot 85 = .ok (.goto 4, 3) := by decide +kernel
theorem dX9_whyNot_88 : decode cX9_whyNot 88 = .ok (.iconst 0, 1) := by decide +kernel
theorem dX9_whyNot_89 : decode cX9_whyNot 89 = .ok (.ireturn, 1) := by decide +kernel
theorem dX9_whyNot_90 : decode cX9_whyNot 90 = .ok (.aload_n 0, 1) := by decide +kernel
theorem dX9_whyNot_91 : decode cX9_whyNot 91 = .ok (.iload_n 2, 1) := by decide +kernel
theorem dX9_whyNot_92 : decode cX9_whyNot 92 = .ok (.aload_n 0, 1) := by decide +kernel
theorem dX9_whyNot_93 : decode cX9_whyNot 93 = .ok (.getfield 25, 3) := by decide +kernel
theorem dX9_whyNot_96 : decode cX9_whyNot 96 = .ok (.iload_n 2, 1) := by decide +kernel
theorem dX9_whyNot_97 : decode cX9_whyNot 97 = .ok (.iaload, 1) := by decide +kernel
theorem dX9_whyNot_98 : decode cX9_whyNot 98 = .ok (.iconst 1, 1) := by decide +kernel
theorem dX9_whyNot_99 : decode cX9_whyNot 99 = .ok (.iadd, 1) := by decide +kernel
theorem dX9_whyNot_100 : decode cX9_whyNot 100 = .ok (.invokevirtual 153, 3) := by decide +kernel
theorem dX9_whyNot_103 : decode cX9_whyNot 103 = .ok (.ireturn, 1) := by decide +kernel
theorem dX9_whyNot_104 : decode cX9_whyNot 104 = .ok (.aload_n 0, 1) := by decide +kernel
theorem dX9_whyNot_105 : decode cX9_whyNot 105 = .ok (.iload_n 2, 1) := by decide +kernel
theorem dX9_whyNot_106 : decode cX9_whyNot 106 = .ok (.aload_n 0, 1) := by decide +kernel
theorem dX9_whyNot_107 : decode cX9_whyNot 107 = .ok (.getfield 25, 3) := by decide +kernel
theorem dX9_whyNot_110 : decode cX9_whyNot 110 = .ok (.iload_n 2, 1) := by decide +kernel
theorem dX9_whyNot_111 : decode cX9_whyNot 111 = .ok (.iaload, 1) := by decide +kernel
theorem dX9_whyNot_112 : decode cX9_whyNot 112 = .ok (.iconst 1, 1) := by decide +kernel
theorem dX9_whyNot_113 : decode cX9_whyNot 113 = .ok (.isub, 1) := by decide +kernel
theorem dX9_whyNot_114 : decode cX9_whyNot 114 = .ok (.invokevirtual 153, 3) := by decide +kernel
theorem dX9_whyNot_117 : decode cX9_whyNot 117 = .ok (.ireturn, 1) := by decide +kernel
theorem dX9_whyNot_118 : decode cX9_whyNot 118 = .ok (.aload_n 0, 1) := by decide +kernel
theorem dX9_whyNot_119 : decode cX9_whyNot 119 = .ok (.iload_n 2, 1) := by decide +kernel
theorem dX9_whyNot_120 : decode cX9_whyNot 120 = .ok (.invokevirtual 150, 3) := by decide +kernel
theorem dX9_whyNot_123 : decode cX9_whyNot 123 = .ok (.ifCond .ne 7, 3) := by decide +kernel
theorem dX9_whyNot_126 : decode cX9_whyNot 126 = .ok (.iconst 5, 1) := by decide +kernel
theorem dX9_whyNot_127 : decode cX9_whyNot 127 = .ok (.goto 24, 3) := by decide +kernel
theorem dX9_whyNot_130 : decode cX9_whyNot 130 = .ok (.aload_n 0, 1) := by decide +kernel
theorem dX9_whyNot_131 : decode cX9_whyNot 131 = .ok (.getfield 16, 3) := by decide +kernel
theorem dX9_whyNot_134 : decode cX9_whyNot 134 = .ok (.iload_n 3, 1) := by decide +kernel
theorem dX9_whyNot_135 : decode cX9_whyNot 135 = .ok (.iaload, 1) := by decide +kernel
theorem dX9_whyNot_136 : decode cX9_whyNot 136 = .ok (.aload_n 0, 1) := by decide +kernel
theorem dX9_whyNot_137 : decode cX9_whyNot 137 = .ok (.getfield 25, 3) := by decide +kernel
theorem dX9_whyNot_140 : decode cX9_whyNot 140 = .ok (.iload_n 2, 1) := by decide +kernel
theorem dX9_whyNot_141 : decode cX9_whyNot 141 = .ok (.iaload, 1) := by decide +kernel
theorem dX9_whyNot_142 : decode cX9_whyNot 142 = .ok (.if_icmp .ne 7, 3) := by decide +kernel
theorem dX9_whyNot_145 : decode cX9_whyNot 145 = .ok (.iconst 0, 1) := by decide +kernel
theorem dX9_whyNot_146 : decode cX9_whyNot 146 = .ok (.goto 5, 3) := by decide +kernel
theorem dX9_whyNot_149 : decode cX9_whyNot 149 = .ok (.bipush 7, 2) := by decide +kernel
theorem dX9_whyNot_151 : decode cX9_whyNot 151 = .ok (.ireturn, 1) := by decide +kernel
theorem dX9_whyNot_152 : decode cX9_whyNot 152 = .ok (.aload_n 0, 1) := by decide +kernel
theorem dX9_whyNot_153 : decode cX9_whyNot 153 = .ok (.getfield 156, 3) := by decide +kernel
theorem dX9_whyNot_156 : decode cX9_whyNot 156 = .ok (.bipush 99, 2) := by decide +kernel
theorem dX9_whyNot_158 : decode cX9_whyNot 158 = .ok (.if_icmp .ne 8, 3) := by decide +kernel
theorem dX9_whyNot_161 : decode cX9_whyNot 161 = .ok (.bipush 8, 2) := by decide +kernel
theorem dX9_whyNot_163 : decode cX9_whyNot 163 = .ok (.goto 4, 3) := by decide +kernel
theorem dX9_whyNot_166 : decode cX9_whyNot 166 = .ok (.iconst 0, 1) := by decide +kernel
theorem dX9_whyNot_167 : decode cX9_whyNot 167 = .ok (.ireturn, 1) := by decide +kernel
set_option maxRecDepth 20000 in
theorem ggX9_fall_X9_layStone : GoodIn wsX9_fall wsX9_layStone := goodIn_r _ [9, 10, 11, 4, 15, 16, 17, 18, 19, 20, 21, 22, 23, 24, 25, 26, 27, 28, 29, 30, 31, 32, 33, 34, 35, 36, 37, 38, 39, 40, 41, 42, 43, 44, 45, 46, 47, 48, 49, 50, 51] (by decide +kernel) (by decide +kernel)
set_option maxRecDepth 20000 in
theorem gX9_fall_X9_layStone : GoodIn wsX9_fall (wsV RX9 99 RX9 yX9_layStone wsX9_layStone) := goodIn_app (goodIn_of _ (by decide +kernel)) ggX9_fall_X9_layStone
set_option maxRecDepth 20000 in
theorem ggX9_fall_X9_less : GoodIn wsX9_fall wsX9_less := goodIn_r _ [14] (by decide +kernel) (by decide +kernel)
set_option maxRecDepth 20000 in
theorem gX9_fall_X9_less : GoodIn wsX9_fall (va_wsS RX9 159 yX9_less wsX9_less) := goodIn_app (goodIn_of _ (by decide +kernel)) ggX9_fall_X9_less
theorem dX9_fall_0 : decode cX9_fall 0 = .ok (.aload_n 0, 1) := by decide +kernel
theorem dX9_fall_1 : decode cX9_fall 1 = .ok (.iload_n 1, 1) := by decide +kernel
theorem dX9_fall_2 : decode cX9_fall 2 = .ok (.iload_n 2, 1) := by decide +kernel
theorem dX9_fall_3 : decode cX9_fall 3 = .ok (.aload_n 0, 1) := by decide +kernel
theorem dX9_fall_4 : decode cX9_fall 4 = .ok (.getfield 7, 3) := by decide +kernel
theorem dX9_fall_7 : decode cX9_fall 7 = .ok (.iload_n 1, 1) := by decide +kernel
theorem dX9_fall_8 : decode cX9_fall 8 = .ok (.iaload, 1) := by decide +kernel
theorem dX9_fall_9 : decode cX9_fall 9 = .ok (.aload_n 0, 1) := by decide +kernel
theorem dX9_fall_10 : decode cX9_fall 10 = .ok (.getfield 7, 3) := by decide +kernel
theorem dX9_fall_13 : decode cX9_fall 13 = .ok (.iload_n 1, 1) := by decide +kernel
theorem dX9_fall_14 : decode cX9_fall 14 = .ok (.iaload, 1) := by decide +kernel
theorem dX9_fall_15 : decode cX9_fall 15 = .ok (.invokevirtual 99, 3) := by decide +kernel
theorem dX9_fall_18 : decode cX9_fall 18 = .ok (.aload_n 0, 1) := by decide +kernel
theorem dX9_fall_19 : decode cX9_fall 19 = .ok (.getfield 7, 3) := by decide +kernel
theorem dX9_fall_22 : decode cX9_fall 22 = .ok (.iload_n 1, 1) := by decide +kernel
theorem dX9_fall_23 : decode cX9_fall 23 = .ok (.iconst 0, 1) := by decide +kernel
theorem dX9_fall_24 : decode cX9_fall 24 = .ok (.iastore, 1) := by decide +kernel
theorem dX9_fall_25 : decode cX9_fall 25 = .ok (.iconst 0, 1) := by decide +kernel
theorem dX9_fall_26 : decode cX9_fall 26 = .ok (.istore_n 3, 1) := by decide +kernel
theorem dX9_fall_27 : decode cX9_fall 27 = .ok (.iload_n 3, 1) := by decide +kernel
theorem dX9_fall_28 : decode cX9_fall 28 = .ok (.iconst 4, 1) := by decide +kernel
theorem dX9_fall_29 : decode cX9_fall 29 = .ok (.if_icmp .ge 55, 3) := by decide +kernel
theorem dX9_fall_32 : decode cX9_fall 32 = .ok (.aload_n 0, 1) := by decide +kernel
theorem dX9_fall_33 : decode cX9_fall 33 = .ok (.getfield 28, 3) := by decide +kernel
theorem dX9_fall_36 : decode cX9_fall 36 = .ok (.iload_n 3, 1) := by decide +kernel
theorem dX9_fall_37 : decode cX9_fall 37 = .ok (.aload_n 0, 1) := by decide +kernel
theorem dX9_fall_38 : decode cX9_fall 38 = .ok (.getfield 25, 3) := by decide +kernel
theorem dX9_fall_41 : decode cX9_fall 41 = .ok (.iload_n 3, 1) := by decide +kernel
theorem dX9_fall_42 : decode cX9_fall 42 = .ok (.iaload, 1) := by decide +kernel
theorem dX9_fall_43 : decode cX9_fall 43 = .ok (.iload_n 2, 1) := by decide +kernel
theorem dX9_fall_44 : decode cX9_fall 44 = .ok (.if_icmp .ne 27, 3) := by decide +kernel
theorem dX9_fall_47 : decode cX9_fall 47 = .ok (.bipush 9, 2) := by decide +kernel
theorem dX9_fall_49 : decode cX9_fall 49 = .ok (.aload_n 0, 1) := by decide +kernel
theorem dX9_fall_50 : decode cX9_fall 50 = .ok (.getfield 28, 3) := by decide +kernel
theorem dX9_fall_53 : decode cX9_fall 53 = .ok (.iload_n 3, 1) := by decide +kernel
theorem dX9_fall_54 : decode cX9_fall 54 = .ok (.iaload, 1) := by decide +kernel
theorem dX9_fall_55 : decode cX9_fall 55 = .ok (.aload_n 0, 1) := by decide +kernel
theorem dX9_fall_56 : decode cX9_fall 56 = .ok (.getfield 22, 3) := by decide +kernel
theorem dX9_fall_59 : decode cX9_fall 59 = .ok (.iload_n 1, 1) := by decide +kernel
theorem dX9_fall_60 : decode cX9_fall 60 = .ok (.iaload, 1) := by decide +kernel
theorem dX9_fall_61 : decode cX9_fall 61 = .ok (.bipush 10, 2) := by decide +kernel
theorem dX9_fall_63 : decode cX9_fall 63 = .ok (.idiv, 1) := by decide +kernel
theorem dX9_fall_64 : decode cX9_fall 64 = .ok (.iadd, 1) := by decide +kernel
theorem dX9_fall_65 : decode cX9_fall 65 = .ok (.invokestatic 159, 3) := by decide +kernel
theorem dX9_fall_68 : decode cX9_fall 68 = .ok (.goto 9, 3) := by decide +kernel
theorem dX9_fall_71 : decode cX9_fall 71 = .ok (.aload_n 0, 1) := by decide +kernel
theorem dX9_fall_72 : decode cX9_fall 72 = .ok (.getfield 28, 3) := by decide +kernel
theorem dX9_fall_75 : decode cX9_fall 75 = .ok (.iload_n 3, 1) := by decide +kernel
theorem dX9_fall_76 : decode cX9_fall 76 = .ok (.iaload, 1) := by decide +kernel
theorem dX9_fall_77 : decode cX9_fall 77 = .ok (.iastore, 1) := by decide +kernel
theorem dX9_fall_78 : decode cX9_fall 78 = .ok (.iinc 3 1, 3) := by decide +kernel
theorem dX9_fall_81 : decode cX9_fall 81 = .ok (.goto (-54), 3) := by decide +kernel
theorem dX9_fall_84 : decode cX9_fall 84 = .ok (.return_, 1) := by decide +kernel
theorem dX9_walk_0 : decode cX9_walk 0 = .ok (.aload_n 0, 1) := by decide +kernel
theorem dX9_walk_1 : decode cX9_walk 1 = .ok (.getfield 25, 3) := by decide +kernel
theorem dX9_walk_4 : decode cX9_walk 4 = .ok (.iload_n 1, 1) := by decide +kernel
theorem dX9_walk_5 : decode cX9_walk 5 = .ok (.dup2, 1) := by decide +kernel
theorem dX9_walk_6 : decode cX9_walk 6 = .ok (.iaload, 1) := by decide +kernel
theorem dX9_walk_7 : decode cX9_walk 7 = .ok (.iload_n 2, 1) := by decide +kernel
theorem dX9_walk_8 : decode cX9_walk 8 = .ok (.iadd, 1) := by decide +kernel
theorem dX9_walk_9 : decode cX9_walk 9 = .ok (.iastore, 1) := by decide +kernel
theorem dX9_walk_10 : decode cX9_walk 10 = .ok (.aload_n 0, 1) := by decide +kernel
theorem dX9_walk_11 : decode cX9_walk 11 = .ok (.getfield 34, 3) := by decide +kernel
theorem dX9_walk_14 : decode cX9_walk 14 = .ok (.iload_n 1, 1) := by decide +kernel
theorem dX9_walk_15 : decode cX9_walk 15 = .ok (.iconst 1, 1) := by decide +kernel
theorem dX9_walk_16 : decode cX9_walk 16 = .ok (.iastore, 1) := by decide +kernel
theorem dX9_walk_17 : decode cX9_walk 17 = .ok (.return_, 1) := by decide +kernel
set_option maxRecDepth 20000 in
theorem ggX9_readOne_X9_layStone : GoodIn wsX9_readOne wsX9_layStone := goodIn_r _ [9, 10, 11, 2, 15, 16, 17, 18, 19, 20, 21, 22, 23, 24, 25, 26, 27, 28, 29, 30, 31, 32, 33, 34, 35, 36, 37, 38, 39, 40, 41, 42, 43, 44, 45, 46, 47, 48, 49, 50, 51] (by decide +kernel) (by decide +kernel)
set_option maxRecDepth 20000 in
theorem gX9_readOne_X9_layStone : GoodIn wsX9_readOne (wsV RX9 99 RX9 yX9_layStone wsX9_layStone) := goodIn_app (goodIn_of _ (by decide +kernel)) ggX9_readOne_X9_layStone
set_option maxRecDepth 20000 in
theorem ggX9_readOne_X9_less : GoodIn wsX9_readOne wsX9_less := goodIn_r _ [14] (by decide +kernel) (by decide +kernel)
set_option maxRecDepth 20000 in
theorem gX9_readOne_X9_less : GoodIn wsX9_readOne (va_wsS RX9 159 yX9_less wsX9_less) := goodIn_app (goodIn_of _ (by decide +kernel)) ggX9_readOne_X9_less
theorem dX9_readOne_0 : decode cX9_readOne 0 = .ok (.aload_n 0, 1) := by decide +kernel
theorem dX9_readOne_1 : decode cX9_readOne 1 = .ok (.getfield 13, 3) := by decide +kernel
theorem dX9_readOne_4 : decode cX9_readOne 4 = .ok (.iload_n 2, 1) := by decide +kernel
theorem dX9_readOne_5 : decode cX9_readOne 5 = .ok (.aload_n 0, 1) := by decide +kernel
theorem dX9_readOne_6 : decode cX9_readOne 6 = .ok (.getfield 22, 3) := by decide +kernel
theorem dX9_readOne_9 : decode cX9_readOne 9 = .ok (.iload_n 2, 1) := by decide +kernel
theorem dX9_readOne_10 : decode cX9_readOne 10 = .ok (.iaload, 1) := by decide +kernel
theorem dX9_readOne_11 : decode cX9_readOne 11 = .ok (.iastore, 1) := by decide +kernel
theorem dX9_readOne_12 : decode cX9_readOne 12 = .ok (.aload_n 0, 1) := by decide +kernel
theorem dX9_readOne_13 : decode cX9_readOne 13 = .ok (.iload_n 2, 1) := by decide +kernel
theorem dX9_readOne_14 : decode cX9_readOne 14 = .ok (.bipush (-6), 2) := by decide +kernel
theorem dX9_readOne_16 : decode cX9_readOne 16 = .ok (.iconst 0, 1) := by decide +kernel
theorem dX9_readOne_17 : decode cX9_readOne 17 = .ok (.iconst 0, 1) := by decide +kernel
theorem dX9_readOne_18 : decode cX9_readOne 18 = .ok (.invokevirtual 99, 3) := by decide +kernel
theorem dX9_readOne_21 : decode cX9_readOne 21 = .ok (.aload_n 0, 1) := by decide +kernel
theorem dX9_readOne_22 : decode cX9_readOne 22 = .ok (.getfield 31, 3) := by decide +kernel
theorem dX9_readOne_25 : decode cX9_readOne 25 = .ok (.iload_n 1, 1) := by decide +kernel
theorem dX9_readOne_26 : decode cX9_readOne 26 = .ok (.sipush 999, 3) := by decide +kernel
theorem dX9_readOne_29 : decode cX9_readOne 29 = .ok (.aload_n 0, 1) := by decide +kernel
theorem dX9_readOne_30 : decode cX9_readOne 30 = .ok (.getfield 31, 3) := by decide +kernel
theorem dX9_readOne_33 : decode cX9_readOne 33 = .ok (.iload_n 1, 1) := by decide +kernel
theorem dX9_readOne_34 : decode cX9_readOne 34 = .ok (.iaload, 1) := by decide +kernel
theorem dX9_readOne_35 : decode cX9_readOne 35 = .ok (.iconst 1, 1) := by decide +kernel
theorem dX9_readOne_36 : decode cX9_readOne 36 = .ok (.iadd, 1) := by decide +kernel
theorem dX9_readOne_37 : decode cX9_readOne 37 = .ok (.invokestatic 159, 3) := by decide +kernel
theorem dX9_readOne_40 : decode cX9_readOne 40 = .ok (.iastore, 1) := by decide +kernel
theorem dX9_readOne_41 : decode cX9_readOne 41 = .ok (.aload_n 0, 1) := by decide +kernel
theorem dX9_readOne_42 : decode cX9_readOne 42 = .ok (.getfield 34, 3) := by decide +kernel
theorem dX9_readOne_45 : decode cX9_readOne 45 = .ok (.iload_n 1, 1) := by decide +kernel
theorem dX9_readOne_46 : decode cX9_readOne 46 = .ok (.iconst 1, 1) := by decide +kernel
theorem dX9_readOne_47 : decode cX9_readOne 47 = .ok (.iastore, 1) := by decide +kernel
theorem dX9_readOne_48 : decode cX9_readOne 48 = .ok (.return_, 1) := by decide +kernel
set_option maxRecDepth 20000 in
theorem ggX9_meltOne_X9_layStone : GoodIn wsX9_meltOne wsX9_layStone := goodIn_r _ [9, 10, 1, 11, 12, 13, 14, 15, 16, 17, 18, 19, 20, 21, 22, 23, 24, 25, 26, 27, 28, 29, 30, 31, 32, 33, 34, 35, 36, 37, 38, 39, 40, 41, 42, 43, 44, 45, 46, 47, 48] (by decide +kernel) (by decide +kernel)
set_option maxRecDepth 20000 in
theorem gX9_meltOne_X9_layStone : GoodIn wsX9_meltOne (wsV RX9 99 RX9 yX9_layStone wsX9_layStone) := goodIn_app (goodIn_of _ (by decide +kernel)) ggX9_meltOne_X9_layStone
theorem dX9_meltOne_0 : decode cX9_meltOne 0 = .ok (.aload_n 0, 1) := by decide +kernel
theorem dX9_meltOne_1 : decode cX9_meltOne 1 = .ok (.getfield 19, 3) := by decide +kernel
theorem dX9_meltOne_4 : decode cX9_meltOne 4 = .ok (.iload_n 1, 1) := by decide +kernel
theorem dX9_meltOne_5 : decode cX9_meltOne 5 = .ok (.dup2, 1) := by decide +kernel
theorem dX9_meltOne_6 : decode cX9_meltOne 6 = .ok (.iaload, 1) := by decide +kernel
theorem dX9_meltOne_7 : decode cX9_meltOne 7 = .ok (.aload_n 0, 1) := by decide +kernel
theorem dX9_meltOne_8 : decode cX9_meltOne 8 = .ok (.getfield 77, 3) := by decide +kernel
theorem dX9_meltOne_11 : decode cX9_meltOne 11 = .ok (.isub, 1) := by decide +kernel
theorem dX9_meltOne_12 : decode cX9_meltOne 12 = .ok (.iastore, 1) := by decide +kernel
theorem dX9_meltOne_13 : decode cX9_meltOne 13 = .ok (.aload_n 0, 1) := by decide +kernel
theorem dX9_meltOne_14 : decode cX9_meltOne 14 = .ok (.getfield 19, 3) := by decide +kernel
theorem dX9_meltOne_17 : decode cX9_meltOne 17 = .ok (.iload_n 1, 1) := by decide +kernel
theorem dX9_meltOne_18 : decode cX9_meltOne 18 = .ok (.iaload, 1) := by decide +kernel
theorem dX9_meltOne_19 : decode cX9_meltOne 19 = .ok (.ifCond .gt 41, 3) := by decide +kernel
theorem dX9_meltOne_22 : decode cX9_meltOne 22 = .ok (.aload_n 0, 1) := by decide +kernel
theorem dX9_meltOne_23 : decode cX9_meltOne 23 = .ok (.iload_n 1, 1) := by decide +kernel
theorem dX9_meltOne_24 : decode cX9_meltOne 24 = .ok (.bipush (-6), 2) := by decide +kernel
theorem dX9_meltOne_26 : decode cX9_meltOne 26 = .ok (.iconst 0, 1) := by decide +kernel
theorem dX9_meltOne_27 : decode cX9_meltOne 27 = .ok (.iconst 0, 1) := by decide +kernel
theorem dX9_meltOne_28 : decode cX9_meltOne 28 = .ok (.invokevirtual 99, 3) := by decide +kernel
theorem dX9_meltOne_31 : decode cX9_meltOne 31 = .ok (.aload_n 0, 1) := by decide +kernel
theorem dX9_meltOne_32 : decode cX9_meltOne 32 = .ok (.dup, 1) := by decide +kernel
theorem dX9_meltOne_33 : decode cX9_meltOne 33 = .ok (.getfield 162, 3) := by decide +kernel
theorem dX9_meltOne_36 : decode cX9_meltOne 36 = .ok (.iconst 1, 1) := by decide +kernel
theorem dX9_meltOne_37 : decode cX9_meltOne 37 = .ok (.iadd, 1) := by decide +kernel
theorem dX9_meltOne_38 : decode cX9_meltOne 38 = .ok (.putfield 162, 3) := by decide +kernel
theorem dX9_meltOne_41 : decode cX9_meltOne 41 = .ok (.aload_n 0, 1) := by decide +kernel
theorem dX9_meltOne_42 : decode cX9_meltOne 42 = .ok (.aload_n 0, 1) := by decide +kernel
theorem dX9_meltOne_43 : decode cX9_meltOne 43 = .ok (.getfield 165, 3) := by decide +kernel
theorem dX9_meltOne_46 : decode cX9_meltOne 46 = .ok (.ifCond .ge 7, 3) := by decide +kernel
theorem dX9_meltOne_49 : decode cX9_meltOne 49 = .ok (.iload_n 1, 1) := by decide +kernel
theorem dX9_meltOne_50 : decode cX9_meltOne 50 = .ok (.goto 7, 3) := by decide +kernel
theorem dX9_meltOne_53 : decode cX9_meltOne 53 = .ok (.aload_n 0, 1) := by decide +kernel
theorem dX9_meltOne_54 : decode cX9_meltOne 54 = .ok (.getfield 165, 3) := by decide +kernel
theorem dX9_meltOne_57 : decode cX9_meltOne 57 = .ok (.putfield 165, 3) := by decide +kernel
theorem dX9_meltOne_60 : decode cX9_meltOne 60 = .ok (.return_, 1) := by decide +kernel
set_option maxRecDepth 20000 in
theorem ggX9_passSecond_X9_meltOne : GoodIn wsX9_passSecond wsX9_meltOne := goodIn_r _ [9, 10, 11, 12, 13, 14, 15, 16, 8, 17, 1, 18, 19, 20, 21, 22, 23, 24, 25, 26, 27, 28, 29, 30, 31, 32, 33, 34, 35, 36, 37, 38, 39, 40, 41, 42, 43, 44, 45, 46, 47, 48, 49, 50, 51, 52, 53, 54, 55] (by decide +kernel) (by decide +kernel)
set_option maxRecDepth 20000 in
theorem gX9_passSecond_X9_meltOne : GoodIn wsX9_passSecond (wsV RX9 168 RX9 yX9_meltOne wsX9_meltOne) := goodIn_app (goodIn_of _ (by decide +kernel)) ggX9_passSecond_X9_meltOne
theorem dX9_passSecond_0 : decode cX9_passSecond 0 = .ok (.iconst 0, 1) := by decide +kernel
theorem dX9_passSecond_1 : decode cX9_passSecond 1 = .ok (.istore_n 1, 1) := by decide +kernel
theorem dX9_passSecond_2 : decode cX9_passSecond 2 = .ok (.iload_n 1, 1) := by decide +kernel
theorem dX9_passSecond_3 : decode cX9_passSecond 3 = .ok (.bipush 8, 2) := by decide +kernel
theorem dX9_passSecond_5 : decode cX9_passSecond 5 = .ok (.if_icmp .ge 23, 3) := by decide +kernel
theorem dX9_passSecond_8 : decode cX9_passSecond 8 = .ok (.aload_n 0, 1) := by decide +kernel
theorem dX9_passSecond_9 : decode cX9_passSecond 9 = .ok (.getfield 16, 3) := by decide +kernel
theorem dX9_passSecond_12 : decode cX9_passSecond 12 = .ok (.iload_n 1, 1) := by decide +kernel
theorem dX9_passSecond_13 : decode cX9_passSecond 13 = .ok (.iaload, 1) := by decide +kernel
theorem dX9_passSecond_14 : decode cX9_passSecond 14 = .ok (.ifCond .lt 8, 3) := by decide +kernel
theorem dX9_passSecond_17 : decode cX9_passSecond 17 = .ok (.aload_n 0, 1) := by decide +kernel
theorem dX9_passSecond_18 : decode cX9_passSecond 18 = .ok (.iload_n 1, 1) := by decide +kernel
theorem dX9_passSecond_19 : decode cX9_passSecond 19 = .ok (.invokevirtual 168, 3) := by decide +kernel
theorem dX9_passSecond_22 : decode cX9_passSecond 22 = .ok (.iinc 1 1, 3) := by decide +kernel
theorem dX9_passSecond_25 : decode cX9_passSecond 25 = .ok (.goto (-23), 3) := by decide +kernel
theorem dX9_passSecond_28 : decode cX9_passSecond 28 = .ok (.iconst 0, 1) := by decide +kernel
theorem dX9_passSecond_29 : decode cX9_passSecond 29 = .ok (.istore_n 1, 1) := by decide +kernel
theorem dX9_passSecond_30 : decode cX9_passSecond 30 = .ok (.iload_n 1, 1) := by decide +kernel
theorem dX9_passSecond_31 : decode cX9_passSecond 31 = .ok (.iconst 4, 1) := by decide +kernel
theorem dX9_passSecond_32 : decode cX9_passSecond 32 = .ok (.if_icmp .ge 39, 3) := by decide +kernel
theorem dX9_passSecond_35 : decode cX9_passSecond 35 = .ok (.aload_n 0, 1) := by decide +kernel
theorem dX9_passSecond_36 : decode cX9_passSecond 36 = .ok (.getfield 28, 3) := by decide +kernel
theorem dX9_passSecond_39 : decode cX9_passSecond 39 = .ok (.iload_n 1, 1) := by decide +kernel
theorem dX9_passSecond_40 : decode cX9_passSecond 40 = .ok (.dup2, 1) := by decide +kernel
theorem dX9_passSecond_41 : decode cX9_passSecond 41 = .ok (.iaload, 1) := by decide +kernel
theorem dX9_passSecond_42 : decode cX9_passSecond 42 = .ok (.aload_n 0, 1) := by decide +kernel
theorem dX9_passSecond_43 : decode cX9_passSecond 43 = .ok (.getfield 28, 3) := by decide +kernel
theorem dX9_passSecond_46 : decode cX9_passSecond 46 = .ok (.iload_n 1, 1) := by decide +kernel
theorem dX9_passSecond_47 : decode cX9_passSecond 47 = .ok (.iaload, 1) := by decide +kernel
theorem dX9_passSecond_48 : decode cX9_passSecond 48 = .ok (.ifCond .le 7, 3) := by decide +kernel
theorem dX9_passSecond_51 : decode cX9_passSecond 51 = .ok (.iconst 1, 1) := by decide +kernel
theorem dX9_passSecond_52 : decode cX9_passSecond 52 = .ok (.goto 4, 3) := by decide +kernel
theorem dX9_passSecond_55 : decode cX9_passSecond 55 = .ok (.iconst 0, 1) := by decide +kernel
theorem dX9_passSecond_56 : decode cX9_passSecond 56 = .ok (.isub, 1) := by decide +kernel
theorem dX9_passSecond_57 : decode cX9_passSecond 57 = .ok (.iastore, 1) := by decide +kernel
theorem dX9_passSecond_58 : decode cX9_passSecond 58 = .ok (.aload_n 0, 1) := by decide +kernel
theorem dX9_passSecond_59 : decode cX9_passSecond 59 = .ok (.getfield 34, 3) := by decide +kernel
theorem dX9_passSecond_62 : decode cX9_passSecond 62 = .ok (.iload_n 1, 1) := by decide +kernel
theorem dX9_passSecond_63 : decode cX9_passSecond 63 = .ok (.iconst 0, 1) := by decide +kernel
theorem dX9_passSecond_64 : decode cX9_passSecond 64 = .ok (.iastore, 1) := by decide +kernel
theorem dX9_passSecond_65 : decode cX9_passSecond 65 = .ok (.iinc 1 1, 3) := by decide +kernel
theorem dX9_passSecond_68 : decode cX9_passSecond 68 = .ok (.goto (-38), 3) := by decide +kernel
theorem dX9_passSecond_71 : decode cX9_passSecond 71 = .ok (.aload_n 0, 1) := by decide +kernel
theorem dX9_passSecond_72 : decode cX9_passSecond 72 = .ok (.dup, 1) := by decide +kernel
theorem dX9_passSecond_73 : decode cX9_passSecond 73 = .ok (.getfield 156, 3) := by decide +kernel
theorem dX9_passSecond_76 : decode cX9_passSecond 76 = .ok (.iconst 1, 1) := by decide +kernel
theorem dX9_passSecond_77 : decode cX9_passSecond 77 = .ok (.iadd, 1) := by decide +kernel
theorem dX9_passSecond_78 : decode cX9_passSecond 78 = .ok (.putfield 156, 3) := by decide +kernel
theorem dX9_passSecond_81 : decode cX9_passSecond 81 = .ok (.return_, 1) := by decide +kernel
set_option maxRecDepth 20000 in
theorem ggX9_happen_X9_fall : GoodIn wsX9_happen wsX9_fall := goodIn_r _ [7, 2, 8, 9, 10, 11, 12, 13, 6, 14, 15, 16, 17, 18, 19, 42, 43, 44, 45, 46, 47, 48, 49, 50, 51, 52, 53, 54, 55, 56, 57, 58, 59, 60, 61, 62, 63, 64, 65, 66, 67, 68, 69, 70, 71, 72, 73, 74, 75, 76, 77, 78] (by decide +kernel) (by decide +kernel)
set_option maxRecDepth 20000 in
theorem gX9_happen_X9_fall : GoodIn wsX9_happen (wsV RX9 172 RX9 yX9_fall wsX9_fall) := goodIn_app (goodIn_of _ (by decide +kernel)) ggX9_happen_X9_fall
set_option maxRecDepth 20000 in
theorem ggX9_happen_X9_walk : GoodIn wsX9_happen wsX9_walk := goodIn_r _ [23, 9, 24, 42, 43, 44, 45, 46, 47, 48, 49, 50, 51, 52, 53, 54, 55, 56, 57, 58, 59, 60, 61, 62, 63, 64, 65, 66, 67, 68, 69, 70, 71, 72, 73, 74, 75, 76, 77, 78] (by decide +kernel) (by decide +kernel)
set_option maxRecDepth 20000 in
theorem gX9_happen_X9_walk : GoodIn wsX9_happen (wsV RX9 176 RX9 yX9_walk wsX9_walk) := goodIn_app (goodIn_of _ (by decide +kernel)) ggX9_happen_X9_walk
set_option maxRecDepth 20000 in
theorem ggX9_happen_X9_readOne : GoodIn wsX9_happen wsX9_readOne := goodIn_r _ [28, 29, 10, 30, 24, 11, 12, 13, 6, 14, 15, 16, 17, 18, 19, 42, 43, 44, 45, 46, 47, 48, 49, 50, 51, 52, 53, 54, 55, 56, 57, 58, 59, 60, 61, 62, 63, 64, 65, 66, 67, 68, 69, 70, 71, 72, 73, 74, 75, 76, 77, 78] (by decide +kernel) (by decide +kernel)
set_option maxRecDepth 20000 in
theorem gX9_happen_X9_readOne : GoodIn wsX9_happen (wsV RX9 179 RX9 yX9_readOne wsX9_readOne) := goodIn_app (goodIn_of _ (by decide +kernel)) ggX9_happen_X9_readOne
set_option maxRecDepth 20000 in
theorem ggX9_happen_X9_passSecond : GoodIn wsX9_happen wsX9_passSecond := goodIn_r _ [34, 15, 8, 24, 35, 36, 37, 38, 6, 39, 16, 40, 41, 1, 11, 12, 13, 14, 10, 42, 43, 44, 45, 46, 47, 48, 49, 50, 51, 52, 53, 54, 55, 56, 57, 58, 59, 60, 61, 62, 63, 64, 65, 66, 67, 68, 69, 70, 71, 72, 73, 74, 75, 76, 77, 78] (by decide +kernel) (by decide +kernel)
set_option maxRecDepth 20000 in
theorem gX9_happen_X9_passSecond : GoodIn wsX9_happen (wsV RX9 182 RX9 yX9_passSecond wsX9_passSecond) := goodIn_app (goodIn_of _ (by decide +kernel)) ggX9_happen_X9_passSecond
theorem dX9_happen_0 : decode cX9_happen 0 = .ok (.aload_n 0, 1) := by decide +kernel
theorem dX9_happen_1 : decode cX9_happen 1 = .ok (.bipush (-6), 2) := by decide +kernel
theorem dX9_happen_3 : decode cX9_happen 3 = .ok (.putfield 165, 3) := by decide +kernel
theorem dX9_happen_6 : decode cX9_happen 6 = .ok (.iload_n 1, 1) := by decide +kernel
theorem dX9_happen_7 : decode cX9_happen 7 = .ok (.tableswitch 82 0 4 #[33, 46, 55, 64, 73], 33) := by decide +kernel
theorem dX9_happen_40 : decode cX9_happen 40 = .ok (.aload_n 0, 1) := by decide +kernel
theorem dX9_happen_41 : decode cX9_happen 41 = .ok (.getfield 7, 3) := by decide +kernel
theorem dX9_happen_44 : decode cX9_happen 44 = .ok (.iload_n 3, 1) := by decide +kernel
theorem dX9_happen_45 : decode cX9_happen 45 = .ok (.dup2, 1) := by decide +kernel
theorem dX9_happen_46 : decode cX9_happen 46 = .ok (.iaload, 1) := by decide +kernel
theorem dX9_happen_47 : decode cX9_happen 47 = .ok (.iconst 1, 1) := by decide +kernel
theorem dX9_happen_48 : decode cX9_happen 48 = .ok (.iadd, 1) := by decide +kernel
theorem dX9_happen_49 : decode cX9_happen 49 = .ok (.iastore, 1) := by decide +kernel
theorem dX9_happen_50 : decode cX9_happen 50 = .ok (.goto 43, 3) := by decide +kernel
theorem dX9_happen_53 : decode cX9_happen 53 = .ok (.aload_n 0, 1) := by decide +kernel
theorem dX9_happen_54 : decode cX9_happen 54 = .ok (.iload_n 2, 1) := by decide +kernel
theorem dX9_happen_55 : decode cX9_happen 55 = .ok (.iload_n 3, 1) := by decide +kernel
theorem dX9_happen_56 : decode cX9_happen 56 = .ok (.invokevirtual 172, 3) := by decide +kernel
theorem dX9_happen_59 : decode cX9_happen 59 = .ok (.goto 34, 3) := by decide +kernel
theorem dX9_happen_62 : decode cX9_happen 62 = .ok (.aload_n 0, 1) := by decide +kernel
theorem dX9_happen_63 : decode cX9_happen 63 = .ok (.iload_n 2, 1) := by decide +kernel
theorem dX9_happen_64 : decode cX9_happen 64 = .ok (.iconst 1, 1) := by decide +kernel
theorem dX9_happen_65 : decode cX9_happen 65 = .ok (.invokevirtual 176, 3) := by decide +kernel
theorem dX9_happen_68 : decode cX9_happen 68 = .ok (.goto 25, 3) := by decide +kernel
theorem dX9_happen_71 : decode cX9_happen 71 = .ok (.aload_n 0, 1) := by decide +kernel
theorem dX9_happen_72 : decode cX9_happen 72 = .ok (.iload_n 2, 1) := by decide +kernel
theorem dX9_happen_73 : decode cX9_happen 73 = .ok (.iconst (-1), 1) := by decide +kernel
theorem dX9_happen_74 : decode cX9_happen 74 = .ok (.invokevirtual 176, 3) := by decide +kernel
theorem dX9_happen_77 : decode cX9_happen 77 = .ok (.goto 16, 3) := by decide +kernel
theorem dX9_happen_80 : decode cX9_happen 80 = .ok (.aload_n 0, 1) := by decide +kernel
theorem dX9_happen_81 : decode cX9_happen 81 = .ok (.iload_n 2, 1) := by decide +kernel
theorem dX9_happen_82 : decode cX9_happen 82 = .ok (.iload_n 3, 1) := by decide +kernel
theorem dX9_happen_83 : decode cX9_happen 83 = .ok (.invokevirtual 179, 3) := by decide +kernel
theorem dX9_happen_86 : decode cX9_happen 86 = .ok (.goto 7, 3) := by decide +kernel
theorem dX9_happen_89 : decode cX9_happen 89 = .ok (.aload_n 0, 1) := by decide +kernel
theorem dX9_happen_90 : decode cX9_happen 90 = .ok (.invokevirtual 182, 3) := by decide +kernel
theorem dX9_happen_93 : decode cX9_happen 93 = .ok (.return_, 1) := by decide +kernel
theorem dX9_carry_0 : decode cX9_carry 0 = .ok (.aload_n 0, 1) := by decide +kernel
theorem dX9_carry_1 : decode cX9_carry 1 = .ok (.getfield 185, 3) := by decide +kernel
theorem dX9_carry_4 : decode cX9_carry 4 = .ok (.ifCond .eq 15, 3) := by decide +kernel
theorem dX9_carry_7 : decode cX9_carry 7 = .ok (.aload_n 0, 1) := by decide +kernel
theorem dX9_carry_8 : decode cX9_carry 8 = .ok (.getfield 58, 3) := by decide +kernel
theorem dX9_carry_11 : decode cX9_carry 11 = .ok (.aload_n 0, 1) := by decide +kernel
theorem dX9_carry_12 : decode cX9_carry 12 = .ok (.getfield 189, 3) := by decide +kernel
theorem dX9_carry_15 : decode cX9_carry 15 = .ok (.iaload, 1) := by decide +kernel
theorem dX9_carry_16 : decode cX9_carry 16 = .ok (.goto 4, 3) := by decide +kernel
theorem dX9_carry_19 : decode cX9_carry 19 = .ok (.iload_n 1, 1) := by decide +kernel
theorem dX9_carry_20 : decode cX9_carry 20 = .ok (.istore_n 2, 1) := by decide +kernel
theorem dX9_carry_21 : decode cX9_carry 21 = .ok (.aload_n 0, 1) := by decide +kernel
theorem dX9_carry_22 : decode cX9_carry 22 = .ok (.getfield 58, 3) := by decide +kernel
theorem dX9_carry_25 : decode cX9_carry 25 = .ok (.aload_n 0, 1) := by decide +kernel
theorem dX9_carry_26 : decode cX9_carry 26 = .ok (.getfield 189, 3) := by decide +kernel
theorem dX9_carry_29 : decode cX9_carry 29 = .ok (.iload_n 2, 1) := by decide +kernel
theorem dX9_carry_30 : decode cX9_carry 30 = .ok (.iastore, 1) := by decide +kernel
