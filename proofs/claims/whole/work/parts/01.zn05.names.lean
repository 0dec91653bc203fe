theorem dX4_actAt_80 : decode cX4_actAt 80 = .ok (.iload 4, 2) := by decide +kernel
theorem dX4_actAt_82 : decode cX4_actAt 82 = .ok (.bipush 62, 2) := by decide +kernel
theorem dX4_actAt_84 : decode cX4_actAt 84 = .ok (.if_icmp .ne 7, 3) := by decide +kernel
theorem dX4_actAt_87 : decode cX4_actAt 87 = .ok (.iconst 1, 1) := by decide +kernel
theorem dX4_actAt_88 : decode cX4_actAt 88 = .ok (.goto 4, 3) := by decide +kernel
theorem dX4_actAt_91 : decode cX4_actAt 91 = .ok (.iconst (-1), 1) := by decide +kernel
theorem dX4_actAt_92 : decode cX4_actAt 92 = .ok (.invokevirtual 45, 3) := by decide +kernel
theorem dX4_actAt_95 : decode cX4_actAt 95 = .ok (.goto 41, 3) := by decide +kernel
theorem dX4_actAt_98 : decode cX4_actAt 98 = .ok (.iload 4, 2) := by decide +kernel
theorem dX4_actAt_100 : decode cX4_actAt 100 = .ok (.bipush 62, 2) := by decide +kernel
theorem dX4_actAt_102 : decode cX4_actAt 102 = .ok (.if_icmp .ne 20, 3) := by decide +kernel
theorem dX4_actAt_105 : decode cX4_actAt 105 = .ok (.aload_n 2, 1) := by decide +kernel
theorem dX4_actAt_106 : decode cX4_actAt 106 = .ok (.iconst 0, 1) := by decide +kernel
theorem dX4_actAt_107 : decode cX4_actAt 107 = .ok (.iload_n 3, 1) := by decide +kernel
theorem dX4_actAt_108 : decode cX4_actAt 108 = .ok (.bipush 65, 2) := by decide +kernel
theorem dX4_actAt_110 : decode cX4_actAt 110 = .ok (.isub, 1) := by decide +kernel
theorem dX4_actAt_111 : decode cX4_actAt 111 = .ok (.iload 5, 2) := by decide +kernel
theorem dX4_actAt_113 : decode cX4_actAt 113 = .ok (.bipush 65, 2) := by decide +kernel
theorem dX4_actAt_115 : decode cX4_actAt 115 = .ok (.isub, 1) := by decide +kernel
theorem dX4_actAt_116 : decode cX4_actAt 116 = .ok (.invokevirtual 45, 3) := by decide +kernel
theorem dX4_actAt_119 : decode cX4_actAt 119 = .ok (.goto 17, 3) := by decide +kernel
theorem dX4_actAt_122 : decode cX4_actAt 122 = .ok (.aload_n 2, 1) := by decide +kernel
theorem dX4_actAt_123 : decode cX4_actAt 123 = .ok (.iconst 1, 1) := by decide +kernel
theorem dX4_actAt_124 : decode cX4_actAt 124 = .ok (.iload_n 3, 1) := by decide +kernel
theorem dX4_actAt_125 : decode cX4_actAt 125 = .ok (.bipush 65, 2) := by decide +kernel
theorem dX4_actAt_127 : decode cX4_actAt 127 = .ok (.isub, 1) := by decide +kernel
theorem dX4_actAt_128 : decode cX4_actAt 128 = .ok (.iload 5, 2) := by decide +kernel
theorem dX4_actAt_130 : decode cX4_actAt 130 = .ok (.bipush 97, 2) := by decide +kernel
theorem dX4_actAt_132 : decode cX4_actAt 132 = .ok (.isub, 1) := by decide +kernel
theorem dX4_actAt_133 : decode cX4_actAt 133 = .ok (.invokevirtual 45, 3) := by decide +kernel
theorem dX4_actAt_136 : decode cX4_actAt 136 = .ok (.return_, 1) := by decide +kernel
theorem dX5_init_0 : decode cX5_init 0 = .ok (.aload_n 0, 1) := by decide +kernel
theorem dX5_init_1 : decode cX5_init 1 = .ok (.invokespecial 3, 3) := by decide +kernel
theorem dX5_init_4 : decode cX5_init 4 = .ok (.aload_n 0, 1) := by decide +kernel
theorem dX5_init_5 : decode cX5_init 5 = .ok (.bipush 8, 2) := by decide +kernel
theorem dX5_init_7 : decode cX5_init 7 = .ok (.newarray .int, 2) := by decide +kernel
theorem dX5_init_9 : decode cX5_init 9 = .ok (.putfield 9, 3) := by decide +kernel
theorem dX5_init_12 : decode cX5_init 12 = .ok (.aload_n 0, 1) := by decide +kernel
theorem dX5_init_13 : decode cX5_init 13 = .ok (.bipush 8, 2) := by decide +kernel
theorem dX5_init_15 : decode cX5_init 15 = .ok (.newarray .int, 2) := by decide +kernel
theorem dX5_init_17 : decode cX5_init 17 = .ok (.putfield 15, 3) := by decide +kernel
theorem dX5_init_20 : decode cX5_init 20 = .ok (.aload_n 0, 1) := by decide +kernel
theorem dX5_init_21 : decode cX5_init 21 = .ok (.bipush 8, 2) := by decide +kernel
theorem dX5_init_23 : decode cX5_init 23 = .ok (.newarray .int, 2) := by decide +kernel
theorem dX5_init_25 : decode cX5_init 25 = .ok (.putfield 18, 3) := by decide +kernel
theorem dX5_init_28 : decode cX5_init 28 = .ok (.aload_n 0, 1) := by decide +kernel
theorem dX5_init_29 : decode cX5_init 29 = .ok (.bipush 8, 2) := by decide +kernel
theorem dX5_init_31 : decode cX5_init 31 = .ok (.newarray .int, 2) := by decide +kernel
theorem dX5_init_33 : decode cX5_init 33 = .ok (.putfield 21, 3) := by decide +kernel
theorem dX5_init_36 : decode cX5_init 36 = .ok (.aload_n 0, 1) := by decide +kernel
theorem dX5_init_37 : decode cX5_init 37 = .ok (.bipush 8, 2) := by decide +kernel
theorem dX5_init_39 : decode cX5_init 39 = .ok (.newarray .int, 2) := by decide +kernel
theorem dX5_init_41 : decode cX5_init 41 = .ok (.putfield 24, 3) := by decide +kernel
theorem dX5_init_44 : decode cX5_init 44 = .ok (.aload_n 0, 1) := by decide +kernel
theorem dX5_init_45 : decode cX5_init 45 = .ok (.iconst 4, 1) := by decide +kernel
theorem dX5_init_46 : decode cX5_init 46 = .ok (.newarray .int, 2) := by decide +kernel
theorem dX5_init_48 : decode cX5_init 48 = .ok (.putfield 27, 3) := by decide +kernel
theorem dX5_init_51 : decode cX5_init 51 = .ok (.aload_n 0, 1) := by decide +kernel
theorem dX5_init_52 : decode cX5_init 52 = .ok (.iconst 4, 1) := by decide +kernel
theorem dX5_init_53 : decode cX5_init 53 = .ok (.newarray .int, 2) := by decide +kernel
theorem dX5_init_55 : decode cX5_init 55 = .ok (.putfield 30, 3) := by decide +kernel
theorem dX5_init_58 : decode cX5_init 58 = .ok (.aload_n 0, 1) := by decide +kernel
theorem dX5_init_59 : decode cX5_init 59 = .ok (.iconst 4, 1) := by decide +kernel
theorem dX5_init_60 : decode cX5_init 60 = .ok (.newarray .int, 2) := by decide +kernel
theorem dX5_init_62 : decode cX5_init 62 = .ok (.putfield 33, 3) := by decide +kernel
theorem dX5_init_65 : decode cX5_init 65 = .ok (.aload_n 0, 1) := by decide +kernel
theorem dX5_init_66 : decode cX5_init 66 = .ok (.iconst 4, 1) := by decide +kernel
theorem dX5_init_67 : decode cX5_init 67 = .ok (.newarray .boolean, 2) := by decide +kernel
theorem dX5_init_69 : decode cX5_init 69 = .ok (.putfield 36, 3) := by decide +kernel
theorem dX5_init_72 : decode cX5_init 72 = .ok (.aload_n 0, 1) := by decide +kernel
theorem dX5_init_73 : decode cX5_init 73 = .ok (.iconst 1, 1) := by decide +kernel
theorem dX5_init_74 : decode cX5_init 74 = .ok (.putfield 40, 3) := by decide +kernel
theorem dX5_init_77 : decode cX5_init 77 = .ok (.aload_n 0, 1) := by decide +kernel
theorem dX5_init_78 : decode cX5_init 78 = .ok (.iconst 0, 1) := by decide +kernel
theorem dX5_init_79 : decode cX5_init 79 = .ok (.putfield 44, 3) := by decide +kernel
theorem dX5_init_82 : decode cX5_init 82 = .ok (.iconst 0, 1) := by decide +kernel
theorem dX5_init_83 : decode cX5_init 83 = .ok (.istore_n 1, 1) := by decide +kernel
theorem dX5_init_84 : decode cX5_init 84 = .ok (.iload_n 1, 1) := by decide +kernel
theorem dX5_init_85 : decode cX5_init 85 = .ok (.bipush 8, 2) := by decide +kernel
theorem dX5_init_87 : decode cX5_init 87 = .ok (.if_icmp .ge 17, 3) := by decide +kernel
theorem dX5_init_90 : decode cX5_init 90 = .ok (.aload_n 0, 1) := by decide +kernel
theorem dX5_init_91 : decode cX5_init 91 = .ok (.getfield 18, 3) := by decide +kernel
theorem dX5_init_94 : decode cX5_init 94 = .ok (.iload_n 1, 1) := by decide +kernel
theorem dX5_init_95 : decode cX5_init 95 = .ok (.bipush (-6), 2) := by decide +kernel
theorem dX5_init_97 : decode cX5_init 97 = .ok (.iastore, 1) := by decide +kernel
theorem dX5_init_98 : decode cX5_init 98 = .ok (.iinc 1 1, 3) := by decide +kernel
theorem dX5_init_101 : decode cX5_init 101 = .ok (.goto (-17), 3) := by decide +kernel
theorem dX5_init_104 : decode cX5_init 104 = .ok (.iconst 0, 1) := by decide +kernel
theorem dX5_init_105 : decode cX5_init 105 = .ok (.istore_n 1, 1) := by decide +kernel
theorem dX5_init_106 : decode cX5_init 106 = .ok (.iload_n 1, 1) := by decide +kernel
theorem dX5_init_107 : decode cX5_init 107 = .ok (.iconst 4, 1) := by decide +kernel
theorem dX5_init_108 : decode cX5_init 108 = .ok (.if_icmp .ge 18, 3) := by decide +kernel
theorem dX5_init_111 : decode cX5_init 111 = .ok (.aload_n 0, 1) := by decide +kernel
theorem dX5_init_112 : decode cX5_init 112 = .ok (.getfield 27, 3) := by decide +kernel
theorem dX5_init_115 : decode cX5_init 115 = .ok (.iload_n 1, 1) := by decide +kernel
theorem dX5_init_116 : decode cX5_init 116 = .ok (.iconst 3, 1) := by decide +kernel
theorem dX5_init_117 : decode cX5_init 117 = .ok (.iload_n 1, 1) := by decide +kernel
theorem dX5_init_118 : decode cX5_init 118 = .ok (.imul, 1) := by decide +kernel
theorem dX5_init_119 : decode cX5_init 119 = .ok (.iastore, 1) := by decide +kernel
theorem dX5_init_120 : decode cX5_init 120 = .ok (.iinc 1 1, 3) := by decide +kernel
theorem dX5_init_123 : decode cX5_init 123 = .ok (.goto (-17), 3) := by decide +kernel
theorem dX5_init_126 : decode cX5_init 126 = .ok (.return_, 1) := by decide +kernel
theorem dX5_copyFrom_0 : decode cX5_copyFrom 0 = .ok (.aload_n 1, 1) := by decide +kernel
theorem dX5_copyFrom_1 : decode cX5_copyFrom 1 = .ok (.getfield 9, 3) := by decide +kernel
theorem dX5_copyFrom_4 : decode cX5_copyFrom 4 = .ok (.iconst 0, 1) := by decide +kernel
theorem dX5_copyFrom_5 : decode cX5_copyFrom 5 = .ok (.aload_n 0, 1) := by decide +kernel
theorem dX5_copyFrom_6 : decode cX5_copyFrom 6 = .ok (.getfield 9, 3) := by decide +kernel
theorem dX5_copyFrom_9 : decode cX5_copyFrom 9 = .ok (.iconst 0, 1) := by decide +kernel
theorem dX5_copyFrom_10 : decode cX5_copyFrom 10 = .ok (.bipush 8, 2) := by decide +kernel
theorem dX5_copyFrom_12 : decode cX5_copyFrom 12 = .ok (.invokestatic 47, 3) := by decide +kernel
theorem dX5_copyFrom_15 : decode cX5_copyFrom 15 = .ok (.aload_n 1, 1) := by decide +kernel
theorem dX5_copyFrom_16 : decode cX5_copyFrom 16 = .ok (.getfield 15, 3) := by decide +kernel
theorem dX5_copyFrom_19 : decode cX5_copyFrom 19 = .ok (.iconst 0, 1) := by decide +kernel
theorem dX5_copyFrom_20 : decode cX5_copyFrom 20 = .ok (.aload_n 0, 1) := by decide +kernel
theorem dX5_copyFrom_21 : decode cX5_copyFrom 21 = .ok (.getfield 15, 3) := by decide +kernel
theorem dX5_copyFrom_24 : decode cX5_copyFrom 24 = .ok (.iconst 0, 1) := by decide +kernel
theorem dX5_copyFrom_25 : decode cX5_copyFrom 25 = .ok (.bipush 8, 2) := by decide +kernel
theorem dX5_copyFrom_27 : decode cX5_copyFrom 27 = .ok (.invokestatic 47, 3) := by decide +kernel
theorem dX5_copyFrom_30 : decode cX5_copyFrom 30 = .ok (.aload_n 1, 1) := by decide +kernel
theorem dX5_copyFrom_31 : decode cX5_copyFrom 31 = .ok (.getfield 18, 3) := by decide +kernel
theorem dX5_copyFrom_34 : decode cX5_copyFrom 34 = .ok (.iconst 0, 1) := by decide +kernel
theorem dX5_copyFrom_35 : decode cX5_copyFrom 35 = .ok (.aload_n 0, 1) := by decide +kernel
theorem dX5_copyFrom_36 : decode cX5_copyFrom 36 = .ok (.getfield 18, 3) := by decide +kernel
theorem dX5_copyFrom_39 : decode cX5_copyFrom 39 = .ok (.iconst 0, 1) := by decide +kernel
theorem dX5_copyFrom_40 : decode cX5_copyFrom 40 = .ok (.bipush 8, 2) := by decide +kernel
theorem dX5_copyFrom_42 : decode cX5_copyFrom 42 = .ok (.invokestatic 47, 3) := by decide +kernel
theorem dX5_copyFrom_45 : decode cX5_copyFrom 45 = .ok (.aload_n 1, 1) := by decide +kernel
theorem dX5_copyFrom_46 : decode cX5_copyFrom 46 = .ok (.getfield 21, 3) := by decide +kernel
theorem dX5_copyFrom_49 : decode cX5_copyFrom 49 = .ok (.iconst 0, 1) := by decide +kernel
theorem dX5_copyFrom_50 : decode cX5_copyFrom 50 = .ok (.aload_n 0, 1) := by decide +kernel
theorem dX5_copyFrom_51 : decode cX5_copyFrom 51 = .ok (.getfield 21, 3) := by decide +kernel
theorem dX5_copyFrom_54 : decode cX5_copyFrom 54 = .ok (.iconst 0, 1) := by decide +kernel
theorem dX5_copyFrom_55 : decode cX5_copyFrom 55 = .ok (.bipush 8, 2) := by decide +kernel
theorem dX5_copyFrom_57 : decode cX5_copyFrom 57 = .ok (.invokestatic 47, 3) := by decide +kernel
theorem dX5_copyFrom_60 : decode cX5_copyFrom 60 = .ok (.aload_n 1, 1) := by decide +kernel
theorem dX5_copyFrom_61 : decode cX5_copyFrom 61 = .ok (.getfield 24, 3) := by decide +kernel
theorem dX5_copyFrom_64 : decode cX5_copyFrom 64 = .ok (.iconst 0, 1) := by decide +kernel
theorem dX5_copyFrom_65 : decode cX5_copyFrom 65 = .ok (.aload_n 0, 1) := by decide +kernel
theorem dX5_copyFrom_66 : decode cX5_copyFrom 66 = .ok (.getfield 24, 3) := by decide +kernel
theorem dX5_copyFrom_69 : decode cX5_copyFrom 69 = .ok (.iconst 0, 1) := by decide +kernel
theorem dX5_copyFrom_70 : decode cX5_copyFrom 70 = .ok (.bipush 8, 2) := by decide +kernel
theorem dX5_copyFrom_72 : decode cX5_copyFrom 72 = .ok (.invokestatic 47, 3) := by decide +kernel
theorem dX5_copyFrom_75 : decode cX5_copyFrom 75 = .ok (.aload_n 1, 1) := by decide +kernel
theorem dX5_copyFrom_76 : decode cX5_copyFrom 76 = .ok (.getfield 27, 3) := by decide +kernel
theorem dX5_copyFrom_79 : decode cX5_copyFrom 79 = .ok (.iconst 0, 1) := by decide +kernel
theorem dX5_copyFrom_80 : decode cX5_copyFrom 80 = .ok (.aload_n 0, 1) := by decide +kernel
theorem dX5_copyFrom_81 : decode cX5_copyFrom 81 = .ok (.getfield 27, 3) := by decide +kernel
theorem dX5_copyFrom_84 : decode cX5_copyFrom 84 = .ok (.iconst 0, 1) := by decide +kernel
theorem dX5_copyFrom_85 : decode cX5_copyFrom 85 = .ok (.iconst 4, 1) := by decide +kernel
theorem dX5_copyFrom_86 : decode cX5_copyFrom 86 = .ok (.invokestatic 47, 3) := by decide +kernel
theorem dX5_copyFrom_89 : decode cX5_copyFrom 89 = .ok (.aload_n 1, 1) := by decide +kernel
theorem dX5_copyFrom_90 : decode cX5_copyFrom 90 = .ok (.getfield 30, 3) := by decide +kernel
theorem dX5_copyFrom_93 : decode cX5_copyFrom 93 = .ok (.iconst 0, 1) := by decide +kernel
theorem dX5_copyFrom_94 : decode cX5_copyFrom 94 = .ok (.aload_n 0, 1) := by decide +kernel
theorem dX5_copyFrom_95 : decode cX5_copyFrom 95 = .ok (.getfield 30, 3) := by decide +kernel
theorem dX5_copyFrom_98 : decode cX5_copyFrom 98 = .ok (.iconst 0, 1) := by decide +kernel
theorem dX5_copyFrom_99 : decode cX5_copyFrom 99 = .ok (.iconst 4, 1) := by decide +kernel
theorem dX5_copyFrom_100 : decode cX5_copyFrom 100 = .ok (.invokestatic 47, 3) := by decide +kernel
theorem dX5_copyFrom_103 : decode cX5_copyFrom 103 = .ok (.aload_n 1, 1) := by decide +kernel
theorem dX5_copyFrom_104 : decode cX5_copyFrom 104 = .ok (.getfield 33, 3) := by decide +kernel
theorem dX5_copyFrom_107 : decode cX5_copyFrom 107 = .ok (.iconst 0, 1) := by decide +kernel
theorem dX5_copyFrom_108 : decode cX5_copyFrom 108 = .ok (.aload_n 0, 1) := by decide +kernel
theorem dX5_copyFrom_109 : decode cX5_copyFrom 109 = .ok (.getfield 33, 3) := by decide +kernel
theorem dX5_copyFrom_112 : decode cX5_copyFrom 112 = .ok (.iconst 0, 1) := by decide +kernel
theorem dX5_copyFrom_113 : decode cX5_copyFrom 113 = .ok (.iconst 4, 1) := by decide +kernel
theorem dX5_copyFrom_114 : decode cX5_copyFrom 114 = .ok (.invokestatic 47, 3) := by decide +kernel
theorem dX5_copyFrom_117 : decode cX5_copyFrom 117 = .ok (.iconst 0, 1) := by decide +kernel
theorem dX5_copyFrom_118 : decode cX5_copyFrom 118 = .ok (.istore_n 2, 1) := by decide +kernel
theorem dX5_copyFrom_119 : decode cX5_copyFrom 119 = .ok (.iload_n 2, 1) := by decide +kernel
theorem dX5_copyFrom_120 : decode cX5_copyFrom 120 = .ok (.iconst 4, 1) := by decide +kernel
theorem dX5_copyFrom_121 : decode cX5_copyFrom 121 = .ok (.if_icmp .ge 21, 3) := by decide +kernel
theorem dX5_copyFrom_124 : decode cX5_copyFrom 124 = .ok (.aload_n 0, 1) := by decide +kernel
theorem dX5_copyFrom_125 : decode cX5_copyFrom 125 = .ok (.getfield 36, 3) := by decide +kernel
theorem dX5_copyFrom_128 : decode cX5_copyFrom 128 = .ok (.iload_n 2, 1) := by decide +kernel
theorem dX5_copyFrom_129 : decode cX5_copyFrom 129 = .ok (.aload_n 1, 1) := by decide +kernel
theorem dX5_copyFrom_130 : decode cX5_copyFrom 130 = .ok (.getfield 36, 3) := by decide +kernel
theorem dX5_copyFrom_133 : decode cX5_copyFrom 133 = .ok (.iload_n 2, 1) := by decide +kernel
theorem dX5_copyFrom_134 : decode cX5_copyFrom 134 = .ok (.baload, 1) := by decide +kernel
theorem dX5_copyFrom_135 : decode cX5_copyFrom 135 = .ok (.bastore, 1) := by decide +kernel
theorem dX5_copyFrom_136 : decode cX5_copyFrom 136 = .ok (.iinc 2 1, 3) := by decide +kernel
theorem dX5_copyFrom_139 : decode cX5_copyFrom 139 = .ok (.goto (-20), 3) := by decide +kernel
theorem dX5_copyFrom_142 : decode cX5_copyFrom 142 = .ok (.aload_n 0, 1) := by decide +kernel
theorem dX5_copyFrom_143 : decode cX5_copyFrom 143 = .ok (.aload_n 1, 1) := by decide +kernel
theorem dX5_copyFrom_144 : decode cX5_copyFrom 144 = .ok (.getfield 40, 3) := by decide +kernel
theorem dX5_copyFrom_147 : decode cX5_copyFrom 147 = .ok (.putfield 40, 3) := by decide +kernel
theorem dX5_copyFrom_150 : decode cX5_copyFrom 150 = .ok (.aload_n 0, 1) := by decide +kernel
theorem dX5_copyFrom_151 : decode cX5_copyFrom 151 = .ok (.aload_n 1, 1) := by decide +kernel
theorem dX5_copyFrom_152 : decode cX5_copyFrom 152 = .ok (.getfield 44, 3) := by decide +kernel
theorem dX5_copyFrom_155 : decode cX5_copyFrom 155 = .ok (.putfield 44, 3) := by decide +kernel
theorem dX5_copyFrom_158 : decode cX5_copyFrom 158 = .ok (.return_, 1) := by decide +kernel
theorem dX5_put_0 : decode cX5_put 0 = .ok (.aload_n 0, 1) := by decide +kernel
theorem dX5_put_1 : decode cX5_put 1 = .ok (.getfield 18, 3) := by decide +kernel
theorem dX5_put_4 : decode cX5_put 4 = .ok (.iload_n 1, 1) := by decide +kernel
theorem dX5_put_5 : decode cX5_put 5 = .ok (.iload_n 2, 1) := by decide +kernel
theorem dX5_put_6 : decode cX5_put 6 = .ok (.iastore, 1) := by decide +kernel
theorem dX5_put_7 : decode cX5_put 7 = .ok (.aload_n 0, 1) := by decide +kernel
theorem dX5_put_8 : decode cX5_put 8 = .ok (.getfield 21, 3) := by decide +kernel
theorem dX5_put_11 : decode cX5_put 11 = .ok (.iload_n 1, 1) := by decide +kernel
theorem dX5_put_12 : decode cX5_put 12 = .ok (.iload_n 3, 1) := by decide +kernel
theorem dX5_put_13 : decode cX5_put 13 = .ok (.iastore, 1) := by decide +kernel
theorem dX5_put_14 : decode cX5_put 14 = .ok (.aload_n 0, 1) := by decide +kernel
theorem dX5_put_15 : decode cX5_put 15 = .ok (.getfield 24, 3) := by decide +kernel
theorem dX5_put_18 : decode cX5_put 18 = .ok (.iload_n 1, 1) := by decide +kernel
theorem dX5_put_19 : decode cX5_put 19 = .ok (.iload 4, 2) := by decide +kernel
theorem dX5_put_21 : decode cX5_put 21 = .ok (.iastore, 1) := by decide +kernel
theorem dX5_put_22 : decode cX5_put 22 = .ok (.return_, 1) := by decide +kernel
theorem dX5_lies_0 : decode cX5_lies 0 = .ok (.aload_n 0, 1) := by decide +kernel
theorem dX5_lies_1 : decode cX5_lies 1 = .ok (.getfield 18, 3) := by decide +kernel
theorem dX5_lies_4 : decode cX5_lies 4 = .ok (.iload_n 1, 1) := by decide +kernel
theorem dX5_lies_5 : decode cX5_lies 5 = .ok (.iaload, 1) := by decide +kernel
theorem dX5_lies_6 : decode cX5_lies 6 = .ok (.bipush (-6), 2) := by decide +kernel
theorem dX5_lies_8 : decode cX5_lies 8 = .ok (.if_icmp .eq 7, 3) := by decide +kernel
theorem dX5_lies_11 : decode cX5_lies 11 = .ok (.iconst 1, 1) := by decide +kernel
theorem dX5_lies_12 : decode cX5_lies 12 = .ok (.goto 4, 3) := by decide +kernel
theorem dX5_lies_15 : decode cX5_lies 15 = .ok (.iconst 0, 1) := by decide +kernel
theorem dX5_lies_16 : decode cX5_lies 16 = .ok (.ireturn, 1) := by decide +kernel
theorem dX5_isFree_0 : decode cX5_isFree 0 = .ok (.aload_n 0, 1) := by decide +kernel
theorem dX5_isFree_1 : decode cX5_isFree 1 = .ok (.getfield 30, 3) := by decide +kernel
theorem dX5_isFree_4 : decode cX5_isFree 4 = .ok (.iload_n 1, 1) := by decide +kernel
theorem dX5_isFree_5 : decode cX5_isFree 5 = .ok (.iaload, 1) := by decide +kernel
theorem dX5_isFree_6 : decode cX5_isFree 6 = .ok (.ifCond .ne 16, 3) := by decide +kernel
theorem dX5_isFree_9 : decode cX5_isFree 9 = .ok (.aload_n 0, 1) := by decide +kernel
theorem dX5_isFree_10 : decode cX5_isFree 10 = .ok (.getfield 36, 3) := by decide +kernel
theorem dX5_isFree_13 : decode cX5_isFree 13 = .ok (.iload_n 1, 1) := by decide +kernel
theorem dX5_isFree_14 : decode cX5_isFree 14 = .ok (.baload, 1) := by decide +kernel
theorem dX5_isFree_15 : decode cX5_isFree 15 = .ok (.ifCond .ne 7, 3) := by decide +kernel
theorem dX5_isFree_18 : decode cX5_isFree 18 = .ok (.iconst 1, 1) := by decide +kernel
theorem dX5_isFree_19 : decode cX5_isFree 19 = .ok (.goto 4, 3) := by decide +kernel
theorem dX5_isFree_22 : decode cX5_isFree 22 = .ok (.iconst 0, 1) := by decide +kernel
theorem dX5_isFree_23 : decode cX5_isFree 23 = .ok (.ireturn, 1) := by decide +kernel
theorem dX5_ofPerson_0 : decode cX5_ofPerson 0 = .ok (.iload_n 2, 1) := by decide +kernel
theorem dX5_ofPerson_1 : decode cX5_ofPerson 1 = .ok (.tableswitch 59 0 3 #[31, 38, 45, 52], 31) := by decide +kernel
theorem dX5_ofPerson_32 : decode cX5_ofPerson 32 = .ok (.aload_n 0, 1) := by decide +kernel
theorem dX5_ofPerson_33 : decode cX5_ofPerson 33 = .ok (.getfield 9, 3) := by decide +kernel
theorem dX5_ofPerson_36 : decode cX5_ofPerson 36 = .ok (.iload_n 1, 1) := by decide +kernel
theorem dX5_ofPerson_37 : decode cX5_ofPerson 37 = .ok (.iaload, 1) := by decide +kernel
theorem dX5_ofPerson_38 : decode cX5_ofPerson 38 = .ok (.ireturn, 1) := by decide +kernel
theorem dX5_ofPerson_39 : decode cX5_ofPerson 39 = .ok (.aload_n 0, 1) := by decide +kernel
theorem dX5_ofPerson_40 : decode cX5_ofPerson 40 = .ok (.getfield 15, 3) := by decide +kernel
theorem dX5_ofPerson_43 : decode cX5_ofPerson 43 = .ok (.iload_n 1, 1) := by decide +kernel
theorem dX5_ofPerson_44 : decode cX5_ofPerson 44 = .ok (.iaload, 1) := by decide +kernel
theorem dX5_ofPerson_45 : decode cX5_ofPerson 45 = .ok (.ireturn, 1) := by decide +kernel
theorem dX5_ofPerson_46 : decode cX5_ofPerson 46 = .ok (.aload_n 0, 1) := by decide +kernel
theorem dX5_ofPerson_47 : decode cX5_ofPerson 47 = .ok (.getfield 18, 3) := by decide +kernel
theorem dX5_ofPerson_50 : decode cX5_ofPerson 50 = .ok (.iload_n 1, 1) := by decide +kernel
theorem dX5_ofPerson_51 : decode cX5_ofPerson 51 = .ok (.iaload, 1) := by decide +kernel
theorem dX5_ofPerson_52 : decode cX5_ofPerson 52 = .ok (.ireturn, 1) := by decide +kernel
theorem dX5_ofPerson_53 : decode cX5_ofPerson 53 = .ok (.aload_n 0, 1) := by decide +kernel
theorem dX5_ofPerson_54 : decode cX5_ofPerson 54 = .ok (.getfield 21, 3) := by decide +kernel
theorem dX5_ofPerson_57 : decode cX5_ofPerson 57 = .ok (.iload_n 1, 1) := by decide +kernel
theorem dX5_ofPerson_58 : decode cX5_ofPerson 58 = .ok (.iaload, 1) := by decide +kernel
theorem dX5_ofPerson_59 : decode cX5_ofPerson 59 = .ok (.ireturn, 1) := by decide +kernel
theorem dX5_ofPerson_60 : decode cX5_ofPerson 60 = .ok (.aload_n 0, 1) := by decide +kernel
theorem dX5_ofPerson_61 : decode cX5_ofPerson 61 = .ok (.getfield 24, 3) := by decide +kernel
theorem dX5_ofPerson_64 : decode cX5_ofPerson 64 = .ok (.iload_n 1, 1) := by decide +kernel
theorem dX5_ofPerson_65 : decode cX5_ofPerson 65 = .ok (.iaload, 1) := by decide +kernel
theorem dX5_ofPerson_66 : decode cX5_ofPerson 66 = .ok (.ireturn, 1) := by decide +kernel
set_option maxRecDepth 20000 in
theorem ggX5_ofReader_X5_isFree : GoodIn wsX5_ofReader wsX5_isFree := goodIn_r _ [8, 2, 9, 10, 11, 12, 13, 14, 15, 16, 17, 18, 19, 20] (by decide +kernel) (by decide +kernel)
set_option maxRecDepth 20000 in
theorem gX5_ofReader_X5_isFree : GoodIn wsX5_ofReader (wsV RX5 53 RX5 yX5_isFree wsX5_isFree) := goodIn_app (goodIn_of _ (by decide +kernel)) ggX5_ofReader_X5_isFree
theorem dX5_ofReader_0 : decode cX5_ofReader 0 = .ok (.iload_n 2, 1) := by decide +kernel
theorem dX5_ofReader_1 : decode cX5_ofReader 1 = .ok (.tableswitch 48 0 2 #[27, 34, 41], 27) := by decide +kernel
theorem dX5_ofReader_28 : decode cX5_ofReader 28 = .ok (.aload_n 0, 1) := by decide +kernel
theorem dX5_ofReader_29 : decode cX5_ofReader 29 = .ok (.getfield 27, 3) := by decide +kernel
theorem dX5_ofReader_32 : decode cX5_ofReader 32 = .ok (.iload_n 1, 1) := by decide +kernel
theorem dX5_ofReader_33 : decode cX5_ofReader 33 = .ok (.iaload, 1) := by decide +kernel
theorem dX5_ofReader_34 : decode cX5_ofReader 34 = .ok (.ireturn, 1) := by decide +kernel
theorem dX5_ofReader_35 : decode cX5_ofReader 35 = .ok (.aload_n 0, 1) := by decide +kernel
theorem dX5_ofReader_36 : decode cX5_ofReader 36 = .ok (.getfield 30, 3) := by decide +kernel
theorem dX5_ofReader_39 : decode cX5_ofReader 39 = .ok (.iload_n 1, 1) := by decide +kernel
theorem dX5_ofReader_40 : decode cX5_ofReader 40 = .ok (.iaload, 1) := by decide +kernel
theorem dX5_ofReader_41 : decode cX5_ofReader 41 = .ok (.ireturn, 1) := by decide +kernel
theorem dX5_ofReader_42 : decode cX5_ofReader 42 = .ok (.aload_n 0, 1) := by decide +kernel
theorem dX5_ofReader_43 : decode cX5_ofReader 43 = .ok (.getfield 33, 3) := by decide +kernel
theorem dX5_ofReader_46 : decode cX5_ofReader 46 = .ok (.iload_n 1, 1) := by decide +kernel
theorem dX5_ofReader_47 : decode cX5_ofReader 47 = .ok (.iaload, 1) := by decide +kernel
theorem dX5_ofReader_48 : decode cX5_ofReader 48 = .ok (.ireturn, 1) := by decide +kernel
theorem dX5_ofReader_49 : decode cX5_ofReader 49 = .ok (.aload_n 0, 1) := by decide +kernel
theorem dX5_ofReader_50 : decode cX5_ofReader 50 = .ok (.iload_n 1, 1) := by decide +kernel
theorem dX5_ofReader_51 : decode cX5_ofReader 51 = .ok (.invokevirtual 53, 3) := by decide +kernel
theorem dX5_ofReader_54 : decode cX5_ofReader 54 = .ok (.ifCond .eq 7, 3) := by decide +kernel
theorem dX5_ofReader_57 : decode cX5_ofReader 57 = .ok (.iconst 1, 1) := by decide +kernel
theorem dX5_ofReader_58 : decode cX5_ofReader 58 = .ok (.goto 4, 3) := by decide +kernel
theorem dX5_ofReader_61 : decode cX5_ofReader 61 = .ok (.iconst 0, 1) := by decide +kernel
theorem dX5_ofReader_62 : decode cX5_ofReader 62 = .ok (.ireturn, 1) := by decide +kernel
set_option maxRecDepth 20000 in
theorem ggX5_lyingStones_X5_lies : GoodIn wsX5_lyingStones wsX5_lies := goodIn_r _ [5, 6, 7, 8, 9, 10, 11, 12, 13, 14, 15, 16, 17] (by decide +kernel) (by decide +kernel)
set_option maxRecDepth 20000 in
theorem gX5_lyingStones_X5_lies : GoodIn wsX5_lyingStones (wsV RX5 57 RX5 yX5_lies wsX5_lies) := goodIn_app (goodIn_of _ (by decide +kernel)) ggX5_lyingStones_X5_lies
theorem dX5_lyingStones_0 : decode cX5_lyingStones 0 = .ok (.iconst 0, 1) := by decide +kernel
theorem dX5_lyingStones_1 : decode cX5_lyingStones 1 = .ok (.istore_n 1, 1) := by decide +kernel
theorem dX5_lyingStones_2 : decode cX5_lyingStones 2 = .ok (.iconst 0, 1) := by decide +kernel
theorem dX5_lyingStones_3 : decode cX5_lyingStones 3 = .ok (.istore_n 2, 1) := by decide +kernel
theorem dX5_lyingStones_4 : decode cX5_lyingStones 4 = .ok (.iload_n 2, 1) := by decide +kernel
theorem dX5_lyingStones_5 : decode cX5_lyingStones 5 = .ok (.bipush 8, 2) := by decide +kernel
theorem dX5_lyingStones_7 : decode cX5_lyingStones 7 = .ok (.if_icmp .ge 23, 3) := by decide +kernel
theorem dX5_lyingStones_10 : decode cX5_lyingStones 10 = .ok (.aload_n 0, 1) := by decide +kernel
theorem dX5_lyingStones_11 : decode cX5_lyingStones 11 = .ok (.iload_n 2, 1) := by decide +kernel
theorem dX5_lyingStones_12 : decode cX5_lyingStones 12 = .ok (.invokevirtual 57, 3) := by decide +kernel
theorem dX5_lyingStones_15 : decode cX5_lyingStones 15 = .ok (.ifCond .eq 9, 3) := by decide +kernel
theorem dX5_lyingStones_18 : decode cX5_lyingStones 18 = .ok (.iload_n 1, 1) := by decide +kernel
theorem dX5_lyingStones_19 : decode cX5_lyingStones 19 = .ok (.iconst 1, 1) := by decide +kernel
theorem dX5_lyingStones_20 : decode cX5_lyingStones 20 = .ok (.iload_n 2, 1) := by decide +kernel
theorem dX5_lyingStones_21 : decode cX5_lyingStones 21 = .ok (.ishl, 1) := by decide +kernel
theorem dX5_lyingStones_22 : decode cX5_lyingStones 22 = .ok (.ior, 1) := by decide +kernel
theorem dX5_lyingStones_23 : decode cX5_lyingStones 23 = .ok (.istore_n 1, 1) := by decide +kernel
theorem dX5_lyingStones_24 : decode cX5_lyingStones 24 = .ok (.iinc 2 1, 3) := by decide +kernel
theorem dX5_lyingStones_27 : decode cX5_lyingStones 27 = .ok (.goto (-23), 3) := by decide +kernel
theorem dX5_lyingStones_30 : decode cX5_lyingStones 30 = .ok (.iload_n 1, 1) := by decide +kernel
theorem dX5_lyingStones_31 : decode cX5_lyingStones 31 = .ok (.ireturn, 1) := by decide +kernel
set_option maxRecDepth 20000 in
theorem ggX5_freeReaders_X5_isFree : GoodIn wsX5_freeReaders wsX5_isFree := goodIn_r _ [5, 6, 7, 8, 9, 10, 11, 12, 13, 14, 15, 16, 17, 18] (by decide +kernel) (by decide +kernel)
set_option maxRecDepth 20000 in
theorem gX5_freeReaders_X5_isFree : GoodIn wsX5_freeReaders (wsV RX5 53 RX5 yX5_isFree wsX5_isFree) := goodIn_app (goodIn_of _ (by decide +kernel)) ggX5_freeReaders_X5_isFree
theorem dX5_freeReaders_0 : decode cX5_freeReaders 0 = .ok (.iconst 0, 1) := by decide +kernel
theorem dX5_freeReaders_1 : decode cX5_freeReaders 1 = .ok (.istore_n 1, 1) := by decide +kernel
theorem dX5_freeReaders_2 : decode cX5_freeReaders 2 = .ok (.iconst 0, 1) := by decide +kernel
theorem dX5_freeReaders_3 : decode cX5_freeReaders 3 = .ok (.istore_n 2, 1) := by decide +kernel
theorem dX5_freeReaders_4 : decode cX5_freeReaders 4 = .ok (.iload_n 2, 1) := by decide +kernel
theorem dX5_freeReaders_5 : decode cX5_freeReaders 5 = .ok (.iconst 4, 1) := by decide +kernel
theorem dX5_freeReaders_6 : decode cX5_freeReaders 6 = .ok (.if_icmp .ge 23, 3) := by decide +kernel
theorem dX5_freeReaders_9 : decode cX5_freeReaders 9 = .ok (.aload_n 0, 1) := by decide +kernel
theorem dX5_freeReaders_10 : decode cX5_freeReaders 10 = .ok (.iload_n 2, 1) := by decide +kernel
theorem dX5_freeReaders_11 : decode cX5_freeReaders 11 = .ok (.invokevirtual 53, 3) := by decide +kernel
theorem dX5_freeReaders_14 : decode cX5_freeReaders 14 = .ok (.ifCond .eq 9, 3) := by decide +kernel
theorem dX5_freeReaders_17 : decode cX5_freeReaders 17 = .ok (.iload_n 1, 1) := by decide +kernel
theorem dX5_freeReaders_18 : decode cX5_freeReaders 18 = .ok (.iconst 1, 1) := by decide +kernel
theorem dX5_freeReaders_19 : decode cX5_freeReaders 19 = .ok (.iload_n 2, 1) := by decide +kernel
theorem dX5_freeReaders_20 : decode cX5_freeReaders 20 = .ok (.ishl, 1) := by decide +kernel
theorem dX5_freeReaders_21 : decode cX5_freeReaders 21 = .ok (.ior, 1) := by decide +kernel
theorem dX5_freeReaders_22 : decode cX5_freeReaders 22 = .ok (.istore_n 1, 1) := by decide +kernel
theorem dX5_freeReaders_23 : decode cX5_freeReaders 23 = .ok (.iinc 2 1, 3) := by decide +kernel
theorem dX5_freeReaders_26 : decode cX5_freeReaders 26 = .ok (.goto (-22), 3) := by decide +kernel
theorem dX5_freeReaders_29 : decode cX5_freeReaders 29 = .ok (.iload_n 1, 1) := by decide +kernel
theorem dX5_freeReaders_30 : decode cX5_freeReaders 30 = .ok (.ireturn, 1) := by decide +kernel
theorem dX5_figuresOf_0 : decode cX5_figuresOf 0 = .ok (.iconst 0, 1) := by decide +kernel
theorem dX5_figuresOf_1 : decode cX5_figuresOf 1 = .ok (.istore_n 2, 1) := by decide +kernel
theorem dX5_figuresOf_2 : decode cX5_figuresOf 2 = .ok (.iconst 0, 1) := by decide +kernel
theorem dX5_figuresOf_3 : decode cX5_figuresOf 3 = .ok (.istore_n 3, 1) := by decide +kernel
theorem dX5_figuresOf_4 : decode cX5_figuresOf 4 = .ok (.iload_n 3, 1) := by decide +kernel
theorem dX5_figuresOf_5 : decode cX5_figuresOf 5 = .ok (.bipush 8, 2) := by decide +kernel
theorem dX5_figuresOf_7 : decode cX5_figuresOf 7 = .ok (.if_icmp .ge 27, 3) := by decide +kernel
theorem dX5_figuresOf_10 : decode cX5_figuresOf 10 = .ok (.iload_n 1, 1) := by decide +kernel
theorem dX5_figuresOf_11 : decode cX5_figuresOf 11 = .ok (.iload_n 3, 1) := by decide +kernel
theorem dX5_figuresOf_12 : decode cX5_figuresOf 12 = .ok (.ishr, 1) := by decide +kernel
theorem dX5_figuresOf_13 : decode cX5_figuresOf 13 = .ok (.iconst 1, 1) := by decide +kernel
theorem dX5_figuresOf_14 : decode cX5_figuresOf 14 = .ok (.iand, 1) := by decide +kernel
theorem dX5_figuresOf_15 : decode cX5_figuresOf 15 = .ok (.iconst 1, 1) := by decide +kernel
theorem dX5_figuresOf_16 : decode cX5_figuresOf 16 = .ok (.if_icmp .ne 12, 3) := by decide +kernel
theorem dX5_figuresOf_19 : decode cX5_figuresOf 19 = .ok (.iload_n 2, 1) := by decide +kernel
theorem dX5_figuresOf_20 : decode cX5_figuresOf 20 = .ok (.aload_n 0, 1) := by decide +kernel
theorem dX5_figuresOf_21 : decode cX5_figuresOf 21 = .ok (.getfield 24, 3) := by decide +kernel
theorem dX5_figuresOf_24 : decode cX5_figuresOf 24 = .ok (.iload_n 3, 1) := by decide +kernel
theorem dX5_figuresOf_25 : decode cX5_figuresOf 25 = .ok (.iaload, 1) := by decide +kernel
theorem dX5_figuresOf_26 : decode cX5_figuresOf 26 = .ok (.iadd, 1) := by decide +kernel
theorem dX5_figuresOf_27 : decode cX5_figuresOf 27 = .ok (.istore_n 2, 1) := by decide +kernel
theorem dX5_figuresOf_28 : decode cX5_figuresOf 28 = .ok (.iinc 3 1, 3) := by decide +kernel
theorem dX5_figuresOf_31 : decode cX5_figuresOf 31 = .ok (.goto (-27), 3) := by decide +kernel
theorem dX5_figuresOf_34 : decode cX5_figuresOf 34 = .ok (.iload_n 2, 1) := by decide +kernel
theorem dX5_figuresOf_35 : decode cX5_figuresOf 35 = .ok (.ireturn, 1) := by decide +kernel
set_option maxRecDepth 20000 in
theorem ggX5_figuresAdded_X5_lyingStones : GoodIn wsX5_figuresAdded wsX5_lyingStones := goodIn_r _ [5, 6, 7, 8, 4, 9, 10, 16, 17, 18, 19, 20, 21, 22, 23, 24, 25, 26] (by decide +kernel) (by decide +kernel)
set_option maxRecDepth 20000 in
theorem gX5_figuresAdded_X5_lyingStones : GoodIn wsX5_figuresAdded (wsV RX5 60 RX5 yX5_lyingStones wsX5_lyingStones) := goodIn_app (goodIn_of _ (by decide +kernel)) ggX5_figuresAdded_X5_lyingStones
set_option maxRecDepth 20000 in
theorem ggX5_figuresAdded_X5_figuresOf : GoodIn wsX5_figuresAdded wsX5_figuresOf := goodIn_r _ [14, 15, 16, 17, 18, 19, 20, 21, 22, 23, 24, 25, 26] (by decide +kernel) (by decide +kernel)
set_option maxRecDepth 20000 in
theorem gX5_figuresAdded_X5_figuresOf : GoodIn wsX5_figuresAdded (wsV RX5 64 RX5 yX5_figuresOf wsX5_figuresOf) := goodIn_app (goodIn_of _ (by decide +kernel)) ggX5_figuresAdded_X5_figuresOf
theorem dX5_figuresAdded_0 : decode cX5_figuresAdded 0 = .ok (.aload_n 0, 1) := by decide +kernel
theorem dX5_figuresAdded_1 : decode cX5_figuresAdded 1 = .ok (.aload_n 0, 1) := by decide +kernel
theorem dX5_figuresAdded_2 : decode cX5_figuresAdded 2 = .ok (.invokevirtual 60, 3) := by decide +kernel
theorem dX5_figuresAdded_5 : decode cX5_figuresAdded 5 = .ok (.invokevirtual 64, 3) := by decide +kernel
theorem dX5_figuresAdded_8 : decode cX5_figuresAdded 8 = .ok (.ireturn, 1) := by decide +kernel
theorem dX5_notedAdded_0 : decode cX5_notedAdded 0 = .ok (.iconst 0, 1) := by decide +kernel
theorem dX5_notedAdded_1 : decode cX5_notedAdded 1 = .ok (.istore_n 1, 1) := by decide +kernel
theorem dX5_notedAdded_2 : decode cX5_notedAdded 2 = .ok (.iconst 0, 1) := by decide +kernel
theorem dX5_notedAdded_3 : decode cX5_notedAdded 3 = .ok (.istore_n 2, 1) := by decide +kernel
theorem dX5_notedAdded_4 : decode cX5_notedAdded 4 = .ok (.iload_n 2, 1) := by decide +kernel
theorem dX5_notedAdded_5 : decode cX5_notedAdded 5 = .ok (.bipush 8, 2) := by decide +kernel
theorem dX5_notedAdded_7 : decode cX5_notedAdded 7 = .ok (.if_icmp .ge 18, 3) := by decide +kernel
theorem dX5_notedAdded_10 : decode cX5_notedAdded 10 = .ok (.iload_n 1, 1) := by decide +kernel
theorem dX5_notedAdded_11 : decode cX5_notedAdded 11 = .ok (.aload_n 0, 1) := by decide +kernel
theorem dX5_notedAdded_12 : decode cX5_notedAdded 12 = .ok (.getfield 15, 3) := by decide +kernel
theorem dX5_notedAdded_15 : decode cX5_notedAdded 15 = .ok (.iload_n 2, 1) := by decide +kernel
theorem dX5_notedAdded_16 : decode cX5_notedAdded 16 = .ok (.iaload, 1) := by decide +kernel
theorem dX5_notedAdded_17 : decode cX5_notedAdded 17 = .ok (.iadd, 1) := by decide +kernel
theorem dX5_notedAdded_18 : decode cX5_notedAdded 18 = .ok (.istore_n 1, 1) := by decide +kernel
theorem dX5_notedAdded_19 : decode cX5_notedAdded 19 = .ok (.iinc 2 1, 3) := by decide +kernel
theorem dX5_notedAdded_22 : decode cX5_notedAdded 22 = .ok (.goto (-18), 3) := by decide +kernel
theorem dX5_notedAdded_25 : decode cX5_notedAdded 25 = .ok (.iload_n 1, 1) := by decide +kernel
theorem dX5_notedAdded_26 : decode cX5_notedAdded 26 = .ok (.ireturn, 1) := by decide +kernel
theorem dX5_mostNoted_0 : decode cX5_mostNoted 0 = .ok (.iconst 0, 1) := by decide +kernel
theorem dX5_mostNoted_1 : decode cX5_mostNoted 1 = .ok (.istore_n 1, 1) := by decide +kernel
theorem dX5_mostNoted_2 : decode cX5_mostNoted 2 = .ok (.iconst 1, 1) := by decide +kernel
theorem dX5_mostNoted_3 : decode cX5_mostNoted 3 = .ok (.istore_n 2, 1) := by decide +kernel
theorem dX5_mostNoted_4 : decode cX5_mostNoted 4 = .ok (.iload_n 2, 1) := by decide +kernel
theorem dX5_mostNoted_5 : decode cX5_mostNoted 5 = .ok (.bipush 8, 2) := by decide +kernel
theorem dX5_mostNoted_7 : decode cX5_mostNoted 7 = .ok (.if_icmp .ge 26, 3) := by decide +kernel
theorem dX5_mostNoted_10 : decode cX5_mostNoted 10 = .ok (.aload_n 0, 1) := by decide +kernel
theorem dX5_mostNoted_11 : decode cX5_mostNoted 11 = .ok (.getfield 15, 3) := by decide +kernel
theorem dX5_mostNoted_14 : decode cX5_mostNoted 14 = .ok (.iload_n 2, 1) := by decide +kernel
theorem dX5_mostNoted_15 : decode cX5_mostNoted 15 = .ok (.iaload, 1) := by decide +kernel
theorem dX5_mostNoted_16 : decode cX5_mostNoted 16 = .ok (.aload_n 0, 1) := by decide +kernel
theorem dX5_mostNoted_17 : decode cX5_mostNoted 17 = .ok (.getfield 15, 3) := by decide +kernel
theorem dX5_mostNoted_20 : decode cX5_mostNoted 20 = .ok (.iload_n 1, 1) := by decide +kernel
theorem dX5_mostNoted_21 : decode cX5_mostNoted 21 = .ok (.iaload, 1) := by decide +kernel
theorem dX5_mostNoted_22 : decode cX5_mostNoted 22 = .ok (.if_icmp .le 5, 3) := by decide +kernel
theorem dX5_mostNoted_25 : decode cX5_mostNoted 25 = .ok (.iload_n 2, 1) := by decide +kernel
theorem dX5_mostNoted_26 : decode cX5_mostNoted 26 = .ok (.istore_n 1, 1) := by decide +kernel
theorem dX5_mostNoted_27 : decode cX5_mostNoted 27 = .ok (.iinc 2 1, 3) := by decide +kernel
theorem dX5_mostNoted_30 : decode cX5_mostNoted 30 = .ok (.goto (-26), 3) := by decide +kernel
theorem dX5_mostNoted_33 : decode cX5_mostNoted 33 = .ok (.iload_n 1, 1) := by decide +kernel
theorem dX5_mostNoted_34 : decode cX5_mostNoted 34 = .ok (.ireturn, 1) := by decide +kernel
set_option maxRecDepth 20000 in
theorem ggX5_allNear_X5_lies : GoodIn wsX5_allNear wsX5_lies := goodIn_r _ [6, 1, 17, 18, 19, 20, 21, 22, 23, 24, 25, 26, 27] (by decide +kernel) (by decide +kernel)
set_option maxRecDepth 20000 in
theorem gX5_allNear_X5_lies : GoodIn wsX5_allNear (wsV RX5 57 RX5 yX5_lies wsX5_lies) := goodIn_app (goodIn_of _ (by decide +kernel)) ggX5_allNear_X5_lies
set_option maxRecDepth 20000 in
theorem ggX5_allNear_X5_cellsNear : GoodIn wsX5_allNear wsX5_cellsNear := goodIn_r _ [9, 10, 11, 12, 13, 14, 15, 16] (by decide +kernel) (by decide +kernel)
set_option maxRecDepth 20000 in
theorem gX5_allNear_X5_cellsNear : GoodIn wsX5_allNear (va_wsS RX5 68 yX5_cellsNear wsX5_cellsNear) := goodIn_app (goodIn_of _ (by decide +kernel)) ggX5_allNear_X5_cellsNear
theorem dX5_allNear_0 : decode cX5_allNear 0 = .ok (.iconst 0, 1) := by decide +kernel
theorem dX5_allNear_1 : decode cX5_allNear 1 = .ok (.istore_n 3, 1) := by decide +kernel
theorem dX5_allNear_2 : decode cX5_allNear 2 = .ok (.iload_n 3, 1) := by decide +kernel
theorem dX5_allNear_3 : decode cX5_allNear 3 = .ok (.bipush 8, 2) := by decide +kernel
theorem dX5_allNear_5 : decode cX5_allNear 5 = .ok (.if_icmp .ge 34, 3) := by decide +kernel
theorem dX5_allNear_8 : decode cX5_allNear 8 = .ok (.aload_n 0, 1) := by decide +kernel
theorem dX5_allNear_9 : decode cX5_allNear 9 = .ok (.iload_n 3, 1) := by decide +kernel
theorem dX5_allNear_10 : decode cX5_allNear 10 = .ok (.invokevirtual 57, 3) := by decide +kernel
theorem dX5_allNear_13 : decode cX5_allNear 13 = .ok (.ifCond .eq 20, 3) := by decide +kernel
theorem dX5_allNear_16 : decode cX5_allNear 16 = .ok (.iload_n 1, 1) := by decide +kernel
theorem dX5_allNear_17 : decode cX5_allNear 17 = .ok (.aload_n 0, 1) := by decide +kernel
theorem dX5_allNear_18 : decode cX5_allNear 18 = .ok (.getfield 18, 3) := by decide +kernel
theorem dX5_allNear_21 : decode cX5_allNear 21 = .ok (.iload_n 3, 1) := by decide +kernel
theorem dX5_allNear_22 : decode cX5_allNear 22 = .ok (.iaload, 1) := by decide +kernel
theorem dX5_allNear_23 : decode cX5_allNear 23 = .ok (.iload_n 2, 1) := by decide +kernel
theorem dX5_allNear_24 : decode cX5_allNear 24 = .ok (.invokestatic 68, 3) := by decide +kernel
theorem dX5_allNear_27 : decode cX5_allNear 27 = .ok (.iand, 1) := by decide +kernel
theorem dX5_allNear_28 : decode cX5_allNear 28 = .ok (.ifCond .ne 5, 3) := by decide +kernel
theorem dX5_allNear_31 : decode cX5_allNear 31 = .ok (.iconst 0, 1) := by decide +kernel
theorem dX5_allNear_32 : decode cX5_allNear 32 = .ok (.ireturn, 1) := by decide +kernel
theorem dX5_allNear_33 : decode cX5_allNear 33 = .ok (.iinc 3 1, 3) := by decide +kernel
theorem dX5_allNear_36 : decode cX5_allNear 36 = .ok (.goto (-34), 3) := by decide +kernel
theorem dX5_allNear_39 : decode cX5_allNear 39 = .ok (.iconst 1, 1) := by decide +kernel
theorem dX5_allNear_40 : decode cX5_allNear 40 = .ok (.ireturn, 1) := by decide +kernel
theorem dX5_cellsNear_0 : decode cX5_cellsNear 0 = .ok (.iconst 0, 1) := by decide +kernel
theorem dX5_cellsNear_1 : decode cX5_cellsNear 1 = .ok (.iload_n 0, 1) := by decide +kernel
theorem dX5_cellsNear_2 : decode cX5_cellsNear 2 = .ok (.iload_n 1, 1) := by decide +kernel
theorem dX5_cellsNear_3 : decode cX5_cellsNear 3 = .ok (.isub, 1) := by decide +kernel
