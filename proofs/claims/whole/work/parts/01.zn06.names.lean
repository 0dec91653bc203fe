theorem dX5_cellsNear_4 : decode cX5_cellsNear 4 = .ok (.invokestatic 72, 3) := by decide +kernel
theorem dX5_cellsNear_7 : decode cX5_cellsNear 7 = .ok (.istore_n 2, 1) := by decide +kernel
theorem dX5_cellsNear_8 : decode cX5_cellsNear 8 = .ok (.bipush 11, 2) := by decide +kernel
theorem dX5_cellsNear_10 : decode cX5_cellsNear 10 = .ok (.iload_n 0, 1) := by decide +kernel
theorem dX5_cellsNear_11 : decode cX5_cellsNear 11 = .ok (.iload_n 1, 1) := by decide +kernel
theorem dX5_cellsNear_12 : decode cX5_cellsNear 12 = .ok (.iadd, 1) := by decide +kernel
theorem dX5_cellsNear_13 : decode cX5_cellsNear 13 = .ok (.invokestatic 77, 3) := by decide +kernel
theorem dX5_cellsNear_16 : decode cX5_cellsNear 16 = .ok (.istore_n 3, 1) := by decide +kernel
theorem dX5_cellsNear_17 : decode cX5_cellsNear 17 = .ok (.iconst 1, 1) := by decide +kernel
theorem dX5_cellsNear_18 : decode cX5_cellsNear 18 = .ok (.iload_n 3, 1) := by decide +kernel
theorem dX5_cellsNear_19 : decode cX5_cellsNear 19 = .ok (.iconst 1, 1) := by decide +kernel
theorem dX5_cellsNear_20 : decode cX5_cellsNear 20 = .ok (.iadd, 1) := by decide +kernel
theorem dX5_cellsNear_21 : decode cX5_cellsNear 21 = .ok (.ishl, 1) := by decide +kernel
theorem dX5_cellsNear_22 : decode cX5_cellsNear 22 = .ok (.iconst 1, 1) := by decide +kernel
theorem dX5_cellsNear_23 : decode cX5_cellsNear 23 = .ok (.iload_n 2, 1) := by decide +kernel
theorem dX5_cellsNear_24 : decode cX5_cellsNear 24 = .ok (.ishl, 1) := by decide +kernel
theorem dX5_cellsNear_25 : decode cX5_cellsNear 25 = .ok (.isub, 1) := by decide +kernel
theorem dX5_cellsNear_26 : decode cX5_cellsNear 26 = .ok (.ireturn, 1) := by decide +kernel
set_option maxRecDepth 20000 in
theorem ggX5_whyNot_X5_whyNotThink : GoodIn wsX5_whyNot wsX5_whyNotThink := goodIn_r _ [12, 4, 32, 33, 34, 35, 36, 37, 38, 39, 40, 41, 42] (by decide +kernel) (by decide +kernel)
set_option maxRecDepth 20000 in
theorem gX5_whyNot_X5_whyNotThink : GoodIn wsX5_whyNot (wsV RX5 91 RX5 yX5_whyNotThink wsX5_whyNotThink) := goodIn_app (goodIn_of _ (by decide +kernel)) ggX5_whyNot_X5_whyNotThink
set_option maxRecDepth 20000 in
theorem ggX5_whyNot_X5_lies : GoodIn wsX5_whyNot wsX5_lies := goodIn_r _ [16, 6, 32, 33, 34, 35, 36, 37, 38, 39, 40, 41, 42] (by decide +kernel) (by decide +kernel)
set_option maxRecDepth 20000 in
theorem gX5_whyNot_X5_lies : GoodIn wsX5_whyNot (wsV RX5 57 RX5 yX5_lies wsX5_lies) := goodIn_app (goodIn_of _ (by decide +kernel)) ggX5_whyNot_X5_lies
set_option maxRecDepth 20000 in
theorem ggX5_whyNot_X5_isFree : GoodIn wsX5_whyNot wsX5_isFree := goodIn_r _ [20, 21, 22, 32, 33, 34, 35, 36, 37, 38, 39, 40, 41, 42] (by decide +kernel) (by decide +kernel)
set_option maxRecDepth 20000 in
theorem gX5_whyNot_X5_isFree : GoodIn wsX5_whyNot (wsV RX5 53 RX5 yX5_isFree wsX5_isFree) := goodIn_app (goodIn_of _ (by decide +kernel)) ggX5_whyNot_X5_isFree
set_option maxRecDepth 20000 in
theorem ggX5_whyNot_X8_isCell : GoodIn wsX5_whyNot wsX8_isCell := goodIn_r _ [25, 26, 27, 24, 28] (by decide +kernel) (by decide +kernel)
set_option maxRecDepth 20000 in
theorem gX5_whyNot_X8_isCell_n94 : GoodIn wsX5_whyNot (wsX8_isCell) := ggX5_whyNot_X8_isCell
theorem dX5_whyNot_0 : decode cX5_whyNot 0 = .ok (.aload_n 1, 1) := by decide +kernel
theorem dX5_whyNot_1 : decode cX5_whyNot 1 = .ok (.getfield 80, 3) := by decide +kernel
theorem dX5_whyNot_4 : decode cX5_whyNot 4 = .ok (.tableswitch 163 0 3 #[32, 45, 78, 120], 32) := by decide +kernel
theorem dX5_whyNot_36 : decode cX5_whyNot 36 = .ok (.aload_n 0, 1) := by decide +kernel
theorem dX5_whyNot_37 : decode cX5_whyNot 37 = .ok (.aload_n 1, 1) := by decide +kernel
theorem dX5_whyNot_38 : decode cX5_whyNot 38 = .ok (.getfield 85, 3) := by decide +kernel
theorem dX5_whyNot_41 : decode cX5_whyNot 41 = .ok (.aload_n 1, 1) := by decide +kernel
theorem dX5_whyNot_42 : decode cX5_whyNot 42 = .ok (.getfield 88, 3) := by decide +kernel
theorem dX5_whyNot_45 : decode cX5_whyNot 45 = .ok (.invokevirtual 91, 3) := by decide +kernel
theorem dX5_whyNot_48 : decode cX5_whyNot 48 = .ok (.ireturn, 1) := by decide +kernel
theorem dX5_whyNot_49 : decode cX5_whyNot 49 = .ok (.aload_n 0, 1) := by decide +kernel
theorem dX5_whyNot_50 : decode cX5_whyNot 50 = .ok (.getfield 9, 3) := by decide +kernel
theorem dX5_whyNot_53 : decode cX5_whyNot 53 = .ok (.aload_n 1, 1) := by decide +kernel
theorem dX5_whyNot_54 : decode cX5_whyNot 54 = .ok (.getfield 85, 3) := by decide +kernel
theorem dX5_whyNot_57 : decode cX5_whyNot 57 = .ok (.iaload, 1) := by decide +kernel
theorem dX5_whyNot_58 : decode cX5_whyNot 58 = .ok (.ifCond .ne 7, 3) := by decide +kernel
theorem dX5_whyNot_61 : decode cX5_whyNot 61 = .ok (.iconst 3, 1) := by decide +kernel
theorem dX5_whyNot_62 : decode cX5_whyNot 62 = .ok (.goto 19, 3) := by decide +kernel
theorem dX5_whyNot_65 : decode cX5_whyNot 65 = .ok (.aload_n 0, 1) := by decide +kernel
theorem dX5_whyNot_66 : decode cX5_whyNot 66 = .ok (.aload_n 1, 1) := by decide +kernel
theorem dX5_whyNot_67 : decode cX5_whyNot 67 = .ok (.getfield 85, 3) := by decide +kernel
theorem dX5_whyNot_70 : decode cX5_whyNot 70 = .ok (.invokevirtual 57, 3) := by decide +kernel
theorem dX5_whyNot_73 : decode cX5_whyNot 73 = .ok (.ifCond .eq 7, 3) := by decide +kernel
theorem dX5_whyNot_76 : decode cX5_whyNot 76 = .ok (.iconst 4, 1) := by decide +kernel
theorem dX5_whyNot_77 : decode cX5_whyNot 77 = .ok (.goto 4, 3) := by decide +kernel
theorem dX5_whyNot_80 : decode cX5_whyNot 80 = .ok (.iconst 0, 1) := by decide +kernel
theorem dX5_whyNot_81 : decode cX5_whyNot 81 = .ok (.ireturn, 1) := by decide +kernel
theorem dX5_whyNot_82 : decode cX5_whyNot 82 = .ok (.aload_n 0, 1) := by decide +kernel
theorem dX5_whyNot_83 : decode cX5_whyNot 83 = .ok (.aload_n 1, 1) := by decide +kernel
theorem dX5_whyNot_84 : decode cX5_whyNot 84 = .ok (.getfield 85, 3) := by decide +kernel
theorem dX5_whyNot_87 : decode cX5_whyNot 87 = .ok (.invokevirtual 53, 3) := by decide +kernel
theorem dX5_whyNot_90 : decode cX5_whyNot 90 = .ok (.ifCond .ne 7, 3) := by decide +kernel
theorem dX5_whyNot_93 : decode cX5_whyNot 93 = .ok (.iconst 5, 1) := by decide +kernel
theorem dX5_whyNot_94 : decode cX5_whyNot 94 = .ok (.goto 29, 3) := by decide +kernel
theorem dX5_whyNot_97 : decode cX5_whyNot 97 = .ok (.aload_n 0, 1) := by decide +kernel
theorem dX5_whyNot_98 : decode cX5_whyNot 98 = .ok (.getfield 27, 3) := by decide +kernel
theorem dX5_whyNot_101 : decode cX5_whyNot 101 = .ok (.aload_n 1, 1) := by decide +kernel
theorem dX5_whyNot_102 : decode cX5_whyNot 102 = .ok (.getfield 85, 3) := by decide +kernel
theorem dX5_whyNot_105 : decode cX5_whyNot 105 = .ok (.iaload, 1) := by decide +kernel
theorem dX5_whyNot_106 : decode cX5_whyNot 106 = .ok (.aload_n 1, 1) := by decide +kernel
theorem dX5_whyNot_107 : decode cX5_whyNot 107 = .ok (.getfield 88, 3) := by decide +kernel
theorem dX5_whyNot_110 : decode cX5_whyNot 110 = .ok (.iadd, 1) := by decide +kernel
theorem dX5_whyNot_111 : decode cX5_whyNot 111 = .ok (.invokestatic 94, 3) := by decide +kernel
theorem dX5_whyNot_114 : decode cX5_whyNot 114 = .ok (.ifCond .ne 8, 3) := by decide +kernel
theorem dX5_whyNot_117 : decode cX5_whyNot 117 = .ok (.bipush 6, 2) := by decide +kernel
theorem dX5_whyNot_119 : decode cX5_whyNot 119 = .ok (.goto 4, 3) := by decide +kernel
theorem dX5_whyNot_122 : decode cX5_whyNot 122 = .ok (.iconst 0, 1) := by decide +kernel
theorem dX5_whyNot_123 : decode cX5_whyNot 123 = .ok (.ireturn, 1) := by decide +kernel
theorem dX5_whyNot_124 : decode cX5_whyNot 124 = .ok (.aload_n 0, 1) := by decide +kernel
theorem dX5_whyNot_125 : decode cX5_whyNot 125 = .ok (.aload_n 1, 1) := by decide +kernel
theorem dX5_whyNot_126 : decode cX5_whyNot 126 = .ok (.getfield 85, 3) := by decide +kernel
theorem dX5_whyNot_129 : decode cX5_whyNot 129 = .ok (.invokevirtual 53, 3) := by decide +kernel
theorem dX5_whyNot_132 : decode cX5_whyNot 132 = .ok (.ifCond .ne 7, 3) := by decide +kernel
theorem dX5_whyNot_135 : decode cX5_whyNot 135 = .ok (.iconst 5, 1) := by decide +kernel
theorem dX5_whyNot_136 : decode cX5_whyNot 136 = .ok (.goto 30, 3) := by decide +kernel
theorem dX5_whyNot_139 : decode cX5_whyNot 139 = .ok (.aload_n 0, 1) := by decide +kernel
theorem dX5_whyNot_140 : decode cX5_whyNot 140 = .ok (.getfield 18, 3) := by decide +kernel
theorem dX5_whyNot_143 : decode cX5_whyNot 143 = .ok (.aload_n 1, 1) := by decide +kernel
theorem dX5_whyNot_144 : decode cX5_whyNot 144 = .ok (.getfield 88, 3) := by decide +kernel
theorem dX5_whyNot_147 : decode cX5_whyNot 147 = .ok (.iaload, 1) := by decide +kernel
theorem dX5_whyNot_148 : decode cX5_whyNot 148 = .ok (.aload_n 0, 1) := by decide +kernel
theorem dX5_whyNot_149 : decode cX5_whyNot 149 = .ok (.getfield 27, 3) := by decide +kernel
theorem dX5_whyNot_152 : decode cX5_whyNot 152 = .ok (.aload_n 1, 1) := by decide +kernel
theorem dX5_whyNot_153 : decode cX5_whyNot 153 = .ok (.getfield 85, 3) := by decide +kernel
theorem dX5_whyNot_156 : decode cX5_whyNot 156 = .ok (.iaload, 1) := by decide +kernel
theorem dX5_whyNot_157 : decode cX5_whyNot 157 = .ok (.if_icmp .eq 8, 3) := by decide +kernel
theorem dX5_whyNot_160 : decode cX5_whyNot 160 = .ok (.bipush 7, 2) := by decide +kernel
theorem dX5_whyNot_162 : decode cX5_whyNot 162 = .ok (.goto 4, 3) := by decide +kernel
theorem dX5_whyNot_165 : decode cX5_whyNot 165 = .ok (.iconst 0, 1) := by decide +kernel
theorem dX5_whyNot_166 : decode cX5_whyNot 166 = .ok (.ireturn, 1) := by decide +kernel
theorem dX5_whyNot_167 : decode cX5_whyNot 167 = .ok (.aload_n 0, 1) := by decide +kernel
theorem dX5_whyNot_168 : decode cX5_whyNot 168 = .ok (.getfield 44, 3) := by decide +kernel
theorem dX5_whyNot_171 : decode cX5_whyNot 171 = .ok (.bipush 99, 2) := by decide +kernel
theorem dX5_whyNot_173 : decode cX5_whyNot 173 = .ok (.if_icmp .lt 8, 3) := by decide +kernel
theorem dX5_whyNot_176 : decode cX5_whyNot 176 = .ok (.bipush 8, 2) := by decide +kernel
theorem dX5_whyNot_178 : decode cX5_whyNot 178 = .ok (.goto 4, 3) := by decide +kernel
theorem dX5_whyNot_181 : decode cX5_whyNot 181 = .ok (.iconst 0, 1) := by decide +kernel
theorem dX5_whyNot_182 : decode cX5_whyNot 182 = .ok (.ireturn, 1) := by decide +kernel
theorem dX5_whyNotThink_0 : decode cX5_whyNotThink 0 = .ok (.iload_n 1, 1) := by decide +kernel
theorem dX5_whyNotThink_1 : decode cX5_whyNotThink 1 = .ok (.iload_n 2, 1) := by decide +kernel
theorem dX5_whyNotThink_2 : decode cX5_whyNotThink 2 = .ok (.if_icmp .ne 5, 3) := by decide +kernel
theorem dX5_whyNotThink_5 : decode cX5_whyNotThink 5 = .ok (.iconst 1, 1) := by decide +kernel
theorem dX5_whyNotThink_6 : decode cX5_whyNotThink 6 = .ok (.ireturn, 1) := by decide +kernel
theorem dX5_whyNotThink_7 : decode cX5_whyNotThink 7 = .ok (.aload_n 0, 1) := by decide +kernel
theorem dX5_whyNotThink_8 : decode cX5_whyNotThink 8 = .ok (.getfield 9, 3) := by decide +kernel
theorem dX5_whyNotThink_11 : decode cX5_whyNotThink 11 = .ok (.iload_n 2, 1) := by decide +kernel
theorem dX5_whyNotThink_12 : decode cX5_whyNotThink 12 = .ok (.iaload, 1) := by decide +kernel
theorem dX5_whyNotThink_13 : decode cX5_whyNotThink 13 = .ok (.bipush 99, 2) := by decide +kernel
theorem dX5_whyNotThink_15 : decode cX5_whyNotThink 15 = .ok (.if_icmp .lt 7, 3) := by decide +kernel
theorem dX5_whyNotThink_18 : decode cX5_whyNotThink 18 = .ok (.iconst 2, 1) := by decide +kernel
theorem dX5_whyNotThink_19 : decode cX5_whyNotThink 19 = .ok (.goto 4, 3) := by decide +kernel
theorem dX5_whyNotThink_22 : decode cX5_whyNotThink 22 = .ok (.iconst 0, 1) := by decide +kernel
theorem dX5_whyNotThink_23 : decode cX5_whyNotThink 23 = .ok (.ireturn, 1) := by decide +kernel
set_option maxRecDepth 20000 in
theorem ggX5_perform_X5_dropStone : GoodIn wsX5_perform wsX5_dropStone := goodIn_r _ [11, 2, 5, 12, 13, 14, 15, 16, 17, 18, 19, 20, 10, 21, 22, 23, 46, 47, 48, 49, 50, 51, 52, 53, 54, 55, 56] (by decide +kernel) (by decide +kernel)
set_option maxRecDepth 20000 in
theorem gX5_perform_X5_dropStone : GoodIn wsX5_perform (wsV RX5 97 RX5 yX5_dropStone wsX5_dropStone) := goodIn_app (goodIn_of _ (by decide +kernel)) ggX5_perform_X5_dropStone
set_option maxRecDepth 20000 in
theorem ggX5_perform_X5_readStone : GoodIn wsX5_perform wsX5_readStone := goodIn_r _ [27, 28, 13, 29, 14, 15, 16, 17, 6, 18, 19, 20, 10, 21, 22, 23, 46, 47, 48, 49, 50, 51, 52, 53, 54, 55, 56] (by decide +kernel) (by decide +kernel)
set_option maxRecDepth 20000 in
theorem gX5_perform_X5_readStone : GoodIn wsX5_perform (wsV RX5 101 RX5 yX5_readStone wsX5_readStone) := goodIn_app (goodIn_of _ (by decide +kernel)) ggX5_perform_X5_readStone
set_option maxRecDepth 20000 in
theorem ggX5_perform_X5_passSecond : GoodIn wsX5_perform wsX5_passSecond := goodIn_r _ [33, 23, 34, 12, 35, 36, 16, 37, 6, 38, 39, 40, 41, 10, 42, 22, 18, 19, 20, 21, 13, 46, 47, 48, 49, 50, 51, 52, 53, 54, 55, 56] (by decide +kernel) (by decide +kernel)
set_option maxRecDepth 20000 in
theorem gX5_perform_X5_passSecond : GoodIn wsX5_perform (wsV RX5 104 RX5 yX5_passSecond wsX5_passSecond) := goodIn_app (goodIn_of _ (by decide +kernel)) ggX5_perform_X5_passSecond
theorem dX5_perform_0 : decode cX5_perform 0 = .ok (.aload_n 1, 1) := by decide +kernel
theorem dX5_perform_1 : decode cX5_perform 1 = .ok (.getfield 80, 3) := by decide +kernel
theorem dX5_perform_4 : decode cX5_perform 4 = .ok (.tableswitch 103 0 3 #[32, 47, 61, 89], 32) := by decide +kernel
theorem dX5_perform_36 : decode cX5_perform 36 = .ok (.aload_n 0, 1) := by decide +kernel
theorem dX5_perform_37 : decode cX5_perform 37 = .ok (.getfield 9, 3) := by decide +kernel
theorem dX5_perform_40 : decode cX5_perform 40 = .ok (.aload_n 1, 1) := by decide +kernel
theorem dX5_perform_41 : decode cX5_perform 41 = .ok (.getfield 88, 3) := by decide +kernel
theorem dX5_perform_44 : decode cX5_perform 44 = .ok (.dup2, 1) := by decide +kernel
theorem dX5_perform_45 : decode cX5_perform 45 = .ok (.iaload, 1) := by decide +kernel
theorem dX5_perform_46 : decode cX5_perform 46 = .ok (.iconst 1, 1) := by decide +kernel
theorem dX5_perform_47 : decode cX5_perform 47 = .ok (.iadd, 1) := by decide +kernel
theorem dX5_perform_48 : decode cX5_perform 48 = .ok (.iastore, 1) := by decide +kernel
theorem dX5_perform_49 : decode cX5_perform 49 = .ok (.iconst 0, 1) := by decide +kernel
theorem dX5_perform_50 : decode cX5_perform 50 = .ok (.ireturn, 1) := by decide +kernel
theorem dX5_perform_51 : decode cX5_perform 51 = .ok (.aload_n 0, 1) := by decide +kernel
theorem dX5_perform_52 : decode cX5_perform 52 = .ok (.aload_n 1, 1) := by decide +kernel
theorem dX5_perform_53 : decode cX5_perform 53 = .ok (.getfield 85, 3) := by decide +kernel
theorem dX5_perform_56 : decode cX5_perform 56 = .ok (.aload_n 1, 1) := by decide +kernel
theorem dX5_perform_57 : decode cX5_perform 57 = .ok (.getfield 88, 3) := by decide +kernel
theorem dX5_perform_60 : decode cX5_perform 60 = .ok (.invokevirtual 97, 3) := by decide +kernel
theorem dX5_perform_63 : decode cX5_perform 63 = .ok (.iconst 0, 1) := by decide +kernel
theorem dX5_perform_64 : decode cX5_perform 64 = .ok (.ireturn, 1) := by decide +kernel
theorem dX5_perform_65 : decode cX5_perform 65 = .ok (.aload_n 0, 1) := by decide +kernel
theorem dX5_perform_66 : decode cX5_perform 66 = .ok (.getfield 27, 3) := by decide +kernel
theorem dX5_perform_69 : decode cX5_perform 69 = .ok (.aload_n 1, 1) := by decide +kernel
theorem dX5_perform_70 : decode cX5_perform 70 = .ok (.getfield 85, 3) := by decide +kernel
theorem dX5_perform_73 : decode cX5_perform 73 = .ok (.dup2, 1) := by decide +kernel
theorem dX5_perform_74 : decode cX5_perform 74 = .ok (.iaload, 1) := by decide +kernel
theorem dX5_perform_75 : decode cX5_perform 75 = .ok (.aload_n 1, 1) := by decide +kernel
theorem dX5_perform_76 : decode cX5_perform 76 = .ok (.getfield 88, 3) := by decide +kernel
theorem dX5_perform_79 : decode cX5_perform 79 = .ok (.iadd, 1) := by decide +kernel
theorem dX5_perform_80 : decode cX5_perform 80 = .ok (.iastore, 1) := by decide +kernel
theorem dX5_perform_81 : decode cX5_perform 81 = .ok (.aload_n 0, 1) := by decide +kernel
theorem dX5_perform_82 : decode cX5_perform 82 = .ok (.getfield 36, 3) := by decide +kernel
theorem dX5_perform_85 : decode cX5_perform 85 = .ok (.aload_n 1, 1) := by decide +kernel
theorem dX5_perform_86 : decode cX5_perform 86 = .ok (.getfield 85, 3) := by decide +kernel
theorem dX5_perform_89 : decode cX5_perform 89 = .ok (.iconst 1, 1) := by decide +kernel
theorem dX5_perform_90 : decode cX5_perform 90 = .ok (.bastore, 1) := by decide +kernel
theorem dX5_perform_91 : decode cX5_perform 91 = .ok (.iconst 0, 1) := by decide +kernel
theorem dX5_perform_92 : decode cX5_perform 92 = .ok (.ireturn, 1) := by decide +kernel
theorem dX5_perform_93 : decode cX5_perform 93 = .ok (.aload_n 0, 1) := by decide +kernel
theorem dX5_perform_94 : decode cX5_perform 94 = .ok (.aload_n 1, 1) := by decide +kernel
theorem dX5_perform_95 : decode cX5_perform 95 = .ok (.getfield 85, 3) := by decide +kernel
theorem dX5_perform_98 : decode cX5_perform 98 = .ok (.aload_n 1, 1) := by decide +kernel
theorem dX5_perform_99 : decode cX5_perform 99 = .ok (.getfield 88, 3) := by decide +kernel
theorem dX5_perform_102 : decode cX5_perform 102 = .ok (.invokevirtual 101, 3) := by decide +kernel
theorem dX5_perform_105 : decode cX5_perform 105 = .ok (.iconst 0, 1) := by decide +kernel
theorem dX5_perform_106 : decode cX5_perform 106 = .ok (.ireturn, 1) := by decide +kernel
theorem dX5_perform_107 : decode cX5_perform 107 = .ok (.aload_n 0, 1) := by decide +kernel
theorem dX5_perform_108 : decode cX5_perform 108 = .ok (.invokevirtual 104, 3) := by decide +kernel
theorem dX5_perform_111 : decode cX5_perform 111 = .ok (.ireturn, 1) := by decide +kernel
set_option maxRecDepth 20000 in
theorem ggX5_dropStone_X5_put : GoodIn wsX5_dropStone wsX5_put := goodIn_r _ [13, 14, 15, 4, 16, 17, 18, 19, 20, 21, 22, 23, 24, 25, 26] (by decide +kernel) (by decide +kernel)
set_option maxRecDepth 20000 in
theorem gX5_dropStone_X5_put : GoodIn wsX5_dropStone (wsV RX5 107 RX5 yX5_put wsX5_put) := goodIn_app (goodIn_of _ (by decide +kernel)) ggX5_dropStone_X5_put
theorem dX5_dropStone_0 : decode cX5_dropStone 0 = .ok (.aload_n 0, 1) := by decide +kernel
theorem dX5_dropStone_1 : decode cX5_dropStone 1 = .ok (.iload_n 1, 1) := by decide +kernel
theorem dX5_dropStone_2 : decode cX5_dropStone 2 = .ok (.iload_n 2, 1) := by decide +kernel
theorem dX5_dropStone_3 : decode cX5_dropStone 3 = .ok (.aload_n 0, 1) := by decide +kernel
theorem dX5_dropStone_4 : decode cX5_dropStone 4 = .ok (.getfield 9, 3) := by decide +kernel
theorem dX5_dropStone_7 : decode cX5_dropStone 7 = .ok (.iload_n 1, 1) := by decide +kernel
theorem dX5_dropStone_8 : decode cX5_dropStone 8 = .ok (.iaload, 1) := by decide +kernel
theorem dX5_dropStone_9 : decode cX5_dropStone 9 = .ok (.aload_n 0, 1) := by decide +kernel
theorem dX5_dropStone_10 : decode cX5_dropStone 10 = .ok (.getfield 9, 3) := by decide +kernel
theorem dX5_dropStone_13 : decode cX5_dropStone 13 = .ok (.iload_n 1, 1) := by decide +kernel
theorem dX5_dropStone_14 : decode cX5_dropStone 14 = .ok (.iaload, 1) := by decide +kernel
theorem dX5_dropStone_15 : decode cX5_dropStone 15 = .ok (.invokevirtual 107, 3) := by decide +kernel
theorem dX5_dropStone_18 : decode cX5_dropStone 18 = .ok (.aload_n 0, 1) := by decide +kernel
theorem dX5_dropStone_19 : decode cX5_dropStone 19 = .ok (.getfield 9, 3) := by decide +kernel
theorem dX5_dropStone_22 : decode cX5_dropStone 22 = .ok (.iload_n 1, 1) := by decide +kernel
theorem dX5_dropStone_23 : decode cX5_dropStone 23 = .ok (.iconst 0, 1) := by decide +kernel
theorem dX5_dropStone_24 : decode cX5_dropStone 24 = .ok (.iastore, 1) := by decide +kernel
theorem dX5_dropStone_25 : decode cX5_dropStone 25 = .ok (.iconst 0, 1) := by decide +kernel
theorem dX5_dropStone_26 : decode cX5_dropStone 26 = .ok (.istore_n 3, 1) := by decide +kernel
theorem dX5_dropStone_27 : decode cX5_dropStone 27 = .ok (.iload_n 3, 1) := by decide +kernel
theorem dX5_dropStone_28 : decode cX5_dropStone 28 = .ok (.iconst 4, 1) := by decide +kernel
theorem dX5_dropStone_29 : decode cX5_dropStone 29 = .ok (.if_icmp .ge 46, 3) := by decide +kernel
theorem dX5_dropStone_32 : decode cX5_dropStone 32 = .ok (.aload_n 0, 1) := by decide +kernel
theorem dX5_dropStone_33 : decode cX5_dropStone 33 = .ok (.getfield 27, 3) := by decide +kernel
theorem dX5_dropStone_36 : decode cX5_dropStone 36 = .ok (.iload_n 3, 1) := by decide +kernel
theorem dX5_dropStone_37 : decode cX5_dropStone 37 = .ok (.iaload, 1) := by decide +kernel
theorem dX5_dropStone_38 : decode cX5_dropStone 38 = .ok (.iload_n 2, 1) := by decide +kernel
theorem dX5_dropStone_39 : decode cX5_dropStone 39 = .ok (.if_icmp .ne 30, 3) := by decide +kernel
theorem dX5_dropStone_42 : decode cX5_dropStone 42 = .ok (.aload_n 0, 1) := by decide +kernel
theorem dX5_dropStone_43 : decode cX5_dropStone 43 = .ok (.getfield 30, 3) := by decide +kernel
theorem dX5_dropStone_46 : decode cX5_dropStone 46 = .ok (.iload_n 3, 1) := by decide +kernel
theorem dX5_dropStone_47 : decode cX5_dropStone 47 = .ok (.bipush 9, 2) := by decide +kernel
theorem dX5_dropStone_49 : decode cX5_dropStone 49 = .ok (.aload_n 0, 1) := by decide +kernel
theorem dX5_dropStone_50 : decode cX5_dropStone 50 = .ok (.getfield 30, 3) := by decide +kernel
theorem dX5_dropStone_53 : decode cX5_dropStone 53 = .ok (.iload_n 3, 1) := by decide +kernel
theorem dX5_dropStone_54 : decode cX5_dropStone 54 = .ok (.iaload, 1) := by decide +kernel
theorem dX5_dropStone_55 : decode cX5_dropStone 55 = .ok (.aload_n 0, 1) := by decide +kernel
theorem dX5_dropStone_56 : decode cX5_dropStone 56 = .ok (.getfield 24, 3) := by decide +kernel
theorem dX5_dropStone_59 : decode cX5_dropStone 59 = .ok (.iload_n 1, 1) := by decide +kernel
theorem dX5_dropStone_60 : decode cX5_dropStone 60 = .ok (.iaload, 1) := by decide +kernel
theorem dX5_dropStone_61 : decode cX5_dropStone 61 = .ok (.bipush 10, 2) := by decide +kernel
theorem dX5_dropStone_63 : decode cX5_dropStone 63 = .ok (.idiv, 1) := by decide +kernel
theorem dX5_dropStone_64 : decode cX5_dropStone 64 = .ok (.iadd, 1) := by decide +kernel
theorem dX5_dropStone_65 : decode cX5_dropStone 65 = .ok (.invokestatic 77, 3) := by decide +kernel
theorem dX5_dropStone_68 : decode cX5_dropStone 68 = .ok (.iastore, 1) := by decide +kernel
theorem dX5_dropStone_69 : decode cX5_dropStone 69 = .ok (.iinc 3 1, 3) := by decide +kernel
theorem dX5_dropStone_72 : decode cX5_dropStone 72 = .ok (.goto (-45), 3) := by decide +kernel
theorem dX5_dropStone_75 : decode cX5_dropStone 75 = .ok (.return_, 1) := by decide +kernel
set_option maxRecDepth 20000 in
theorem ggX5_readStone_X5_put : GoodIn wsX5_readStone wsX5_put := goodIn_r _ [13, 14, 15, 2, 16, 17, 18, 19, 20, 21, 22, 23, 24, 25, 26] (by decide +kernel) (by decide +kernel)
set_option maxRecDepth 20000 in
theorem gX5_readStone_X5_put : GoodIn wsX5_readStone (wsV RX5 107 RX5 yX5_put wsX5_put) := goodIn_app (goodIn_of _ (by decide +kernel)) ggX5_readStone_X5_put
theorem dX5_readStone_0 : decode cX5_readStone 0 = .ok (.aload_n 0, 1) := by decide +kernel
theorem dX5_readStone_1 : decode cX5_readStone 1 = .ok (.getfield 15, 3) := by decide +kernel
theorem dX5_readStone_4 : decode cX5_readStone 4 = .ok (.iload_n 2, 1) := by decide +kernel
theorem dX5_readStone_5 : decode cX5_readStone 5 = .ok (.aload_n 0, 1) := by decide +kernel
theorem dX5_readStone_6 : decode cX5_readStone 6 = .ok (.getfield 24, 3) := by decide +kernel
theorem dX5_readStone_9 : decode cX5_readStone 9 = .ok (.iload_n 2, 1) := by decide +kernel
theorem dX5_readStone_10 : decode cX5_readStone 10 = .ok (.iaload, 1) := by decide +kernel
theorem dX5_readStone_11 : decode cX5_readStone 11 = .ok (.iastore, 1) := by decide +kernel
theorem dX5_readStone_12 : decode cX5_readStone 12 = .ok (.aload_n 0, 1) := by decide +kernel
theorem dX5_readStone_13 : decode cX5_readStone 13 = .ok (.getfield 33, 3) := by decide +kernel
theorem dX5_readStone_16 : decode cX5_readStone 16 = .ok (.iload_n 1, 1) := by decide +kernel
theorem dX5_readStone_17 : decode cX5_readStone 17 = .ok (.sipush 999, 3) := by decide +kernel
theorem dX5_readStone_20 : decode cX5_readStone 20 = .ok (.aload_n 0, 1) := by decide +kernel
theorem dX5_readStone_21 : decode cX5_readStone 21 = .ok (.getfield 33, 3) := by decide +kernel
theorem dX5_readStone_24 : decode cX5_readStone 24 = .ok (.iload_n 1, 1) := by decide +kernel
theorem dX5_readStone_25 : decode cX5_readStone 25 = .ok (.iaload, 1) := by decide +kernel
theorem dX5_readStone_26 : decode cX5_readStone 26 = .ok (.iconst 1, 1) := by decide +kernel
theorem dX5_readStone_27 : decode cX5_readStone 27 = .ok (.iadd, 1) := by decide +kernel
theorem dX5_readStone_28 : decode cX5_readStone 28 = .ok (.invokestatic 77, 3) := by decide +kernel
theorem dX5_readStone_31 : decode cX5_readStone 31 = .ok (.iastore, 1) := by decide +kernel
theorem dX5_readStone_32 : decode cX5_readStone 32 = .ok (.aload_n 0, 1) := by decide +kernel
theorem dX5_readStone_33 : decode cX5_readStone 33 = .ok (.getfield 36, 3) := by decide +kernel
theorem dX5_readStone_36 : decode cX5_readStone 36 = .ok (.iload_n 1, 1) := by decide +kernel
theorem dX5_readStone_37 : decode cX5_readStone 37 = .ok (.iconst 1, 1) := by decide +kernel
theorem dX5_readStone_38 : decode cX5_readStone 38 = .ok (.bastore, 1) := by decide +kernel
theorem dX5_readStone_39 : decode cX5_readStone 39 = .ok (.aload_n 0, 1) := by decide +kernel
theorem dX5_readStone_40 : decode cX5_readStone 40 = .ok (.iload_n 2, 1) := by decide +kernel
theorem dX5_readStone_41 : decode cX5_readStone 41 = .ok (.bipush (-6), 2) := by decide +kernel
theorem dX5_readStone_43 : decode cX5_readStone 43 = .ok (.iconst 0, 1) := by decide +kernel
theorem dX5_readStone_44 : decode cX5_readStone 44 = .ok (.iconst 0, 1) := by decide +kernel
theorem dX5_readStone_45 : decode cX5_readStone 45 = .ok (.invokevirtual 107, 3) := by decide +kernel
theorem dX5_readStone_48 : decode cX5_readStone 48 = .ok (.return_, 1) := by decide +kernel
set_option maxRecDepth 20000 in
theorem ggX5_passSecond_X5_lies : GoodIn wsX5_passSecond wsX5_lies := goodIn_r _ [14, 15, 21, 22, 23, 24, 25, 26, 27, 28, 29, 30, 31] (by decide +kernel) (by decide +kernel)
set_option maxRecDepth 20000 in
theorem gX5_passSecond_X5_lies : GoodIn wsX5_passSecond (wsV RX5 57 RX5 yX5_lies wsX5_lies) := goodIn_app (goodIn_of _ (by decide +kernel)) ggX5_passSecond_X5_lies
set_option maxRecDepth 20000 in
theorem ggX5_passSecond_X5_put : GoodIn wsX5_passSecond wsX5_put := goodIn_r _ [19, 15, 1, 20, 21, 22, 23, 24, 25, 26, 27, 28, 29, 30, 31] (by decide +kernel) (by decide +kernel)
set_option maxRecDepth 20000 in
theorem gX5_passSecond_X5_put : GoodIn wsX5_passSecond (wsV RX5 107 RX5 yX5_put wsX5_put) := goodIn_app (goodIn_of _ (by decide +kernel)) ggX5_passSecond_X5_put
theorem dX5_passSecond_0 : decode cX5_passSecond 0 = .ok (.iconst 0, 1) := by decide +kernel
theorem dX5_passSecond_1 : decode cX5_passSecond 1 = .ok (.istore_n 1, 1) := by decide +kernel
theorem dX5_passSecond_2 : decode cX5_passSecond 2 = .ok (.iconst 0, 1) := by decide +kernel
theorem dX5_passSecond_3 : decode cX5_passSecond 3 = .ok (.istore_n 2, 1) := by decide +kernel
theorem dX5_passSecond_4 : decode cX5_passSecond 4 = .ok (.iload_n 2, 1) := by decide +kernel
theorem dX5_passSecond_5 : decode cX5_passSecond 5 = .ok (.bipush 8, 2) := by decide +kernel
theorem dX5_passSecond_7 : decode cX5_passSecond 7 = .ok (.if_icmp .ge 54, 3) := by decide +kernel
theorem dX5_passSecond_10 : decode cX5_passSecond 10 = .ok (.aload_n 0, 1) := by decide +kernel
theorem dX5_passSecond_11 : decode cX5_passSecond 11 = .ok (.iload_n 2, 1) := by decide +kernel
theorem dX5_passSecond_12 : decode cX5_passSecond 12 = .ok (.invokevirtual 57, 3) := by decide +kernel
theorem dX5_passSecond_15 : decode cX5_passSecond 15 = .ok (.ifCond .eq 40, 3) := by decide +kernel
theorem dX5_passSecond_18 : decode cX5_passSecond 18 = .ok (.aload_n 0, 1) := by decide +kernel
theorem dX5_passSecond_19 : decode cX5_passSecond 19 = .ok (.getfield 21, 3) := by decide +kernel
theorem dX5_passSecond_22 : decode cX5_passSecond 22 = .ok (.iload_n 2, 1) := by decide +kernel
theorem dX5_passSecond_23 : decode cX5_passSecond 23 = .ok (.dup2, 1) := by decide +kernel
theorem dX5_passSecond_24 : decode cX5_passSecond 24 = .ok (.iaload, 1) := by decide +kernel
theorem dX5_passSecond_25 : decode cX5_passSecond 25 = .ok (.aload_n 0, 1) := by decide +kernel
theorem dX5_passSecond_26 : decode cX5_passSecond 26 = .ok (.getfield 40, 3) := by decide +kernel
theorem dX5_passSecond_29 : decode cX5_passSecond 29 = .ok (.isub, 1) := by decide +kernel
theorem dX5_passSecond_30 : decode cX5_passSecond 30 = .ok (.iastore, 1) := by decide +kernel
theorem dX5_passSecond_31 : decode cX5_passSecond 31 = .ok (.aload_n 0, 1) := by decide +kernel
theorem dX5_passSecond_32 : decode cX5_passSecond 32 = .ok (.getfield 21, 3) := by decide +kernel
theorem dX5_passSecond_35 : decode cX5_passSecond 35 = .ok (.iload_n 2, 1) := by decide +kernel
theorem dX5_passSecond_36 : decode cX5_passSecond 36 = .ok (.iaload, 1) := by decide +kernel
theorem dX5_passSecond_37 : decode cX5_passSecond 37 = .ok (.ifCond .gt 18, 3) := by decide +kernel
theorem dX5_passSecond_40 : decode cX5_passSecond 40 = .ok (.aload_n 0, 1) := by decide +kernel
theorem dX5_passSecond_41 : decode cX5_passSecond 41 = .ok (.iload_n 2, 1) := by decide +kernel
theorem dX5_passSecond_42 : decode cX5_passSecond 42 = .ok (.bipush (-6), 2) := by decide +kernel
theorem dX5_passSecond_44 : decode cX5_passSecond 44 = .ok (.iconst 0, 1) := by decide +kernel
theorem dX5_passSecond_45 : decode cX5_passSecond 45 = .ok (.iconst 0, 1) := by decide +kernel
theorem dX5_passSecond_46 : decode cX5_passSecond 46 = .ok (.invokevirtual 107, 3) := by decide +kernel
theorem dX5_passSecond_49 : decode cX5_passSecond 49 = .ok (.iload_n 1, 1) := by decide +kernel
theorem dX5_passSecond_50 : decode cX5_passSecond 50 = .ok (.iconst 1, 1) := by decide +kernel
theorem dX5_passSecond_51 : decode cX5_passSecond 51 = .ok (.iload_n 2, 1) := by decide +kernel
theorem dX5_passSecond_52 : decode cX5_passSecond 52 = .ok (.ishl, 1) := by decide +kernel
theorem dX5_passSecond_53 : decode cX5_passSecond 53 = .ok (.ior, 1) := by decide +kernel
theorem dX5_passSecond_54 : decode cX5_passSecond 54 = .ok (.istore_n 1, 1) := by decide +kernel
theorem dX5_passSecond_55 : decode cX5_passSecond 55 = .ok (.iinc 2 1, 3) := by decide +kernel
theorem dX5_passSecond_58 : decode cX5_passSecond 58 = .ok (.goto (-54), 3) := by decide +kernel
theorem dX5_passSecond_61 : decode cX5_passSecond 61 = .ok (.iconst 0, 1) := by decide +kernel
theorem dX5_passSecond_62 : decode cX5_passSecond 62 = .ok (.istore_n 2, 1) := by decide +kernel
theorem dX5_passSecond_63 : decode cX5_passSecond 63 = .ok (.iload_n 2, 1) := by decide +kernel
theorem dX5_passSecond_64 : decode cX5_passSecond 64 = .ok (.iconst 4, 1) := by decide +kernel
theorem dX5_passSecond_65 : decode cX5_passSecond 65 = .ok (.if_icmp .ge 34, 3) := by decide +kernel
theorem dX5_passSecond_68 : decode cX5_passSecond 68 = .ok (.aload_n 0, 1) := by decide +kernel
theorem dX5_passSecond_69 : decode cX5_passSecond 69 = .ok (.getfield 30, 3) := by decide +kernel
theorem dX5_passSecond_72 : decode cX5_passSecond 72 = .ok (.iload_n 2, 1) := by decide +kernel
theorem dX5_passSecond_73 : decode cX5_passSecond 73 = .ok (.iconst 0, 1) := by decide +kernel
theorem dX5_passSecond_74 : decode cX5_passSecond 74 = .ok (.aload_n 0, 1) := by decide +kernel
theorem dX5_passSecond_75 : decode cX5_passSecond 75 = .ok (.getfield 30, 3) := by decide +kernel
theorem dX5_passSecond_78 : decode cX5_passSecond 78 = .ok (.iload_n 2, 1) := by decide +kernel
theorem dX5_passSecond_79 : decode cX5_passSecond 79 = .ok (.iaload, 1) := by decide +kernel
theorem dX5_passSecond_80 : decode cX5_passSecond 80 = .ok (.iconst 1, 1) := by decide +kernel
theorem dX5_passSecond_81 : decode cX5_passSecond 81 = .ok (.isub, 1) := by decide +kernel
theorem dX5_passSecond_82 : decode cX5_passSecond 82 = .ok (.invokestatic 72, 3) := by decide +kernel
theorem dX5_passSecond_85 : decode cX5_passSecond 85 = .ok (.iastore, 1) := by decide +kernel
theorem dX5_passSecond_86 : decode cX5_passSecond 86 = .ok (.aload_n 0, 1) := by decide +kernel
theorem dX5_passSecond_87 : decode cX5_passSecond 87 = .ok (.getfield 36, 3) := by decide +kernel
theorem dX5_passSecond_90 : decode cX5_passSecond 90 = .ok (.iload_n 2, 1) := by decide +kernel
theorem dX5_passSecond_91 : decode cX5_passSecond 91 = .ok (.iconst 0, 1) := by decide +kernel
theorem dX5_passSecond_92 : decode cX5_passSecond 92 = .ok (.bastore, 1) := by decide +kernel
theorem dX5_passSecond_93 : decode cX5_passSecond 93 = .ok (.iinc 2 1, 3) := by decide +kernel
theorem dX5_passSecond_96 : decode cX5_passSecond 96 = .ok (.goto (-33), 3) := by decide +kernel
theorem dX5_passSecond_99 : decode cX5_passSecond 99 = .ok (.aload_n 0, 1) := by decide +kernel
theorem dX5_passSecond_100 : decode cX5_passSecond 100 = .ok (.dup, 1) := by decide +kernel
theorem dX5_passSecond_101 : decode cX5_passSecond 101 = .ok (.getfield 44, 3) := by decide +kernel
theorem dX5_passSecond_104 : decode cX5_passSecond 104 = .ok (.iconst 1, 1) := by decide +kernel
theorem dX5_passSecond_105 : decode cX5_passSecond 105 = .ok (.iadd, 1) := by decide +kernel
theorem dX5_passSecond_106 : decode cX5_passSecond 106 = .ok (.putfield 44, 3) := by decide +kernel
theorem dX5_passSecond_109 : decode cX5_passSecond 109 = .ok (.iload_n 1, 1) := by decide +kernel
theorem dX5_passSecond_110 : decode cX5_passSecond 110 = .ok (.ireturn, 1) := by decide +kernel
theorem dX6_init_0 : decode cX6_init 0 = .ok (.aload_n 0, 1) := by decide +kernel
theorem dX6_init_1 : decode cX6_init 1 = .ok (.invokespecial 3, 3) := by decide +kernel
theorem dX6_init_4 : decode cX6_init 4 = .ok (.aload_n 0, 1) := by decide +kernel
theorem dX6_init_5 : decode cX6_init 5 = .ok (.sipush 2048, 3) := by decide +kernel
theorem dX6_init_8 : decode cX6_init 8 = .ok (.newarray .int, 2) := by decide +kernel
theorem dX6_init_10 : decode cX6_init 10 = .ok (.putfield 9, 3) := by decide +kernel
theorem dX6_init_13 : decode cX6_init 13 = .ok (.return_, 1) := by decide +kernel
set_option maxRecDepth 20000 in
theorem ggX6_bestStones_X5_lyingStones : GoodIn wsX6_bestStones wsX5_lyingStones := goodIn_r _ [5, 6, 7, 8, 4, 9, 10, 42, 43, 44, 45, 46, 47, 48, 49, 50, 51, 52] (by decide +kernel) (by decide +kernel)
set_option maxRecDepth 20000 in
theorem gX6_bestStones_X5_lyingStones : GoodIn wsX6_bestStones (wsV RX6 15 RX5 yX5_lyingStones wsX5_lyingStones) := goodIn_app (goodIn_of _ (by decide +kernel)) ggX6_bestStones_X5_lyingStones
set_option maxRecDepth 20000 in
theorem ggX6_bestStones_X6_canRead : GoodIn wsX6_bestStones wsX6_canRead := goodIn_r _ [15, 16, 17, 18, 19, 20, 21, 14, 22, 23, 24, 25, 26, 27, 28, 29, 30, 31, 32, 33, 34, 35, 36, 53, 42, 43, 44, 45, 46, 47, 48, 49, 50, 51, 52] (by decide +kernel) (by decide +kernel)
set_option maxRecDepth 20000 in
theorem gX6_bestStones_X6_canRead : GoodIn wsX6_bestStones (wsV RX6 21 RX6 yX6_canRead wsX6_canRead) := goodIn_app (goodIn_of _ (by decide +kernel)) ggX6_bestStones_X6_canRead
set_option maxRecDepth 20000 in
theorem ggX6_bestStones_X5_figuresOf : GoodIn wsX6_bestStones wsX5_figuresOf := goodIn_r _ [40, 41, 42, 43, 44, 45, 46, 47, 48, 49, 50, 51, 52] (by decide +kernel) (by decide +kernel)
set_option maxRecDepth 20000 in
theorem gX6_bestStones_X5_figuresOf : GoodIn wsX6_bestStones (wsV RX6 25 RX5 yX5_figuresOf wsX5_figuresOf) := goodIn_app (goodIn_of _ (by decide +kernel)) ggX6_bestStones_X5_figuresOf
theorem dX6_bestStones_0 : decode cX6_bestStones 0 = .ok (.aload_n 1, 1) := by decide +kernel
theorem dX6_bestStones_1 : decode cX6_bestStones 1 = .ok (.invokevirtual 15, 3) := by decide +kernel
theorem dX6_bestStones_4 : decode cX6_bestStones 4 = .ok (.istore_n 3, 1) := by decide +kernel
theorem dX6_bestStones_5 : decode cX6_bestStones 5 = .ok (.iconst 0, 1) := by decide +kernel
theorem dX6_bestStones_6 : decode cX6_bestStones 6 = .ok (.istore 4, 2) := by decide +kernel
theorem dX6_bestStones_8 : decode cX6_bestStones 8 = .ok (.iconst 0, 1) := by decide +kernel
theorem dX6_bestStones_9 : decode cX6_bestStones 9 = .ok (.istore 5, 2) := by decide +kernel
theorem dX6_bestStones_11 : decode cX6_bestStones 11 = .ok (.iconst 1, 1) := by decide +kernel
theorem dX6_bestStones_12 : decode cX6_bestStones 12 = .ok (.istore 6, 2) := by decide +kernel
theorem dX6_bestStones_14 : decode cX6_bestStones 14 = .ok (.iload 6, 2) := by decide +kernel
theorem dX6_bestStones_16 : decode cX6_bestStones 16 = .ok (.sipush 256, 3) := by decide +kernel
theorem dX6_bestStones_19 : decode cX6_bestStones 19 = .ok (.if_icmp .ge 52, 3) := by decide +kernel
theorem dX6_bestStones_22 : decode cX6_bestStones 22 = .ok (.iload 6, 2) := by decide +kernel
theorem dX6_bestStones_24 : decode cX6_bestStones 24 = .ok (.iload_n 3, 1) := by decide +kernel
theorem dX6_bestStones_25 : decode cX6_bestStones 25 = .ok (.iconst (-1), 1) := by decide +kernel
theorem dX6_bestStones_26 : decode cX6_bestStones 26 = .ok (.ixor, 1) := by decide +kernel
theorem dX6_bestStones_27 : decode cX6_bestStones 27 = .ok (.iand, 1) := by decide +kernel
theorem dX6_bestStones_28 : decode cX6_bestStones 28 = .ok (.ifCond .ne 37, 3) := by decide +kernel
theorem dX6_bestStones_31 : decode cX6_bestStones 31 = .ok (.aload_n 0, 1) := by decide +kernel
theorem dX6_bestStones_32 : decode cX6_bestStones 32 = .ok (.aload_n 1, 1) := by decide +kernel
theorem dX6_bestStones_33 : decode cX6_bestStones 33 = .ok (.iload_n 2, 1) := by decide +kernel
theorem dX6_bestStones_34 : decode cX6_bestStones 34 = .ok (.iload 6, 2) := by decide +kernel
theorem dX6_bestStones_36 : decode cX6_bestStones 36 = .ok (.invokevirtual 21, 3) := by decide +kernel
theorem dX6_bestStones_39 : decode cX6_bestStones 39 = .ok (.ifCond .eq 26, 3) := by decide +kernel
theorem dX6_bestStones_42 : decode cX6_bestStones 42 = .ok (.aload_n 1, 1) := by decide +kernel
theorem dX6_bestStones_43 : decode cX6_bestStones 43 = .ok (.iload 6, 2) := by decide +kernel
theorem dX6_bestStones_45 : decode cX6_bestStones 45 = .ok (.invokevirtual 25, 3) := by decide +kernel
theorem dX6_bestStones_48 : decode cX6_bestStones 48 = .ok (.istore 7, 2) := by decide +kernel
theorem dX6_bestStones_50 : decode cX6_bestStones 50 = .ok (.iload 7, 2) := by decide +kernel
theorem dX6_bestStones_52 : decode cX6_bestStones 52 = .ok (.iload 5, 2) := by decide +kernel
theorem dX6_bestStones_54 : decode cX6_bestStones 54 = .ok (.if_icmp .le 11, 3) := by decide +kernel
theorem dX6_bestStones_57 : decode cX6_bestStones 57 = .ok (.iload 6, 2) := by decide +kernel
theorem dX6_bestStones_59 : decode cX6_bestStones 59 = .ok (.istore 4, 2) := by decide +kernel
theorem dX6_bestStones_61 : decode cX6_bestStones 61 = .ok (.iload 7, 2) := by decide +kernel
theorem dX6_bestStones_63 : decode cX6_bestStones 63 = .ok (.istore 5, 2) := by decide +kernel
theorem dX6_bestStones_65 : decode cX6_bestStones 65 = .ok (.iinc 6 1, 3) := by decide +kernel
theorem dX6_bestStones_68 : decode cX6_bestStones 68 = .ok (.goto (-54), 3) := by decide +kernel
theorem dX6_bestStones_71 : decode cX6_bestStones 71 = .ok (.iload 4, 2) := by decide +kernel
theorem dX6_bestStones_73 : decode cX6_bestStones 73 = .ok (.ireturn, 1) := by decide +kernel
set_option maxRecDepth 20000 in
theorem ggX6_canRead_X6_earliestArrival : GoodIn wsX6_canRead wsX6_earliestArrival := goodIn_r _ [8, 9, 10, 11, 12, 13, 14, 15, 16, 17, 18, 19, 1, 20, 21, 22, 24, 25, 26, 27, 28, 29, 30, 31, 32, 33, 34, 23] (by decide +kernel) (by decide +kernel)
set_option maxRecDepth 20000 in
theorem gX6_canRead_X6_earliestArrival : GoodIn wsX6_canRead (wsV RX6 29 RX6 yX6_earliestArrival wsX6_earliestArrival) := goodIn_app (goodIn_of _ (by decide +kernel)) ggX6_canRead_X6_earliestArrival
theorem dX6_canRead_0 : decode cX6_canRead 0 = .ok (.iconst 0, 1) := by decide +kernel
theorem dX6_canRead_1 : decode cX6_canRead 1 = .ok (.istore 4, 2) := by decide +kernel
theorem dX6_canRead_3 : decode cX6_canRead 3 = .ok (.iconst 0, 1) := by decide +kernel
theorem dX6_canRead_4 : decode cX6_canRead 4 = .ok (.istore 5, 2) := by decide +kernel
theorem dX6_canRead_6 : decode cX6_canRead 6 = .ok (.iload 5, 2) := by decide +kernel
theorem dX6_canRead_8 : decode cX6_canRead 8 = .ok (.bipush 8, 2) := by decide +kernel
theorem dX6_canRead_10 : decode cX6_canRead 10 = .ok (.if_icmp .ge 93, 3) := by decide +kernel
theorem dX6_canRead_13 : decode cX6_canRead 13 = .ok (.iload_n 3, 1) := by decide +kernel
theorem dX6_canRead_14 : decode cX6_canRead 14 = .ok (.bipush 8, 2) := by decide +kernel
theorem dX6_canRead_16 : decode cX6_canRead 16 = .ok (.imul, 1) := by decide +kernel
theorem dX6_canRead_17 : decode cX6_canRead 17 = .ok (.iload 5, 2) := by decide +kernel
theorem dX6_canRead_19 : decode cX6_canRead 19 = .ok (.iadd, 1) := by decide +kernel
theorem dX6_canRead_20 : decode cX6_canRead 20 = .ok (.istore 6, 2) := by decide +kernel
theorem dX6_canRead_22 : decode cX6_canRead 22 = .ok (.aload_n 0, 1) := by decide +kernel
theorem dX6_canRead_23 : decode cX6_canRead 23 = .ok (.getfield 9, 3) := by decide +kernel
theorem dX6_canRead_26 : decode cX6_canRead 26 = .ok (.iload 6, 2) := by decide +kernel
theorem dX6_canRead_28 : decode cX6_canRead 28 = .ok (.sipush 1000, 3) := by decide +kernel
theorem dX6_canRead_31 : decode cX6_canRead 31 = .ok (.iastore, 1) := by decide +kernel
theorem dX6_canRead_32 : decode cX6_canRead 32 = .ok (.iload_n 3, 1) := by decide +kernel
theorem dX6_canRead_33 : decode cX6_canRead 33 = .ok (.iload 5, 2) := by decide +kernel
theorem dX6_canRead_35 : decode cX6_canRead 35 = .ok (.ishr, 1) := by decide +kernel
theorem dX6_canRead_36 : decode cX6_canRead 36 = .ok (.iconst 1, 1) := by decide +kernel
theorem dX6_canRead_37 : decode cX6_canRead 37 = .ok (.iand, 1) := by decide +kernel
theorem dX6_canRead_38 : decode cX6_canRead 38 = .ok (.iconst 1, 1) := by decide +kernel
theorem dX6_canRead_39 : decode cX6_canRead 39 = .ok (.if_icmp .ne 58, 3) := by decide +kernel
theorem dX6_canRead_42 : decode cX6_canRead 42 = .ok (.aload_n 0, 1) := by decide +kernel
theorem dX6_canRead_43 : decode cX6_canRead 43 = .ok (.aload_n 1, 1) := by decide +kernel
theorem dX6_canRead_44 : decode cX6_canRead 44 = .ok (.iload_n 2, 1) := by decide +kernel
theorem dX6_canRead_45 : decode cX6_canRead 45 = .ok (.iload_n 3, 1) := by decide +kernel
theorem dX6_canRead_46 : decode cX6_canRead 46 = .ok (.iconst 1, 1) := by decide +kernel
theorem dX6_canRead_47 : decode cX6_canRead 47 = .ok (.iload 5, 2) := by decide +kernel
