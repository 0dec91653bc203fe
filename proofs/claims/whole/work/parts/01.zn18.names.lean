theorem dJ6_numberOfTrailingZeros_0f7a4_35 : decode cJ6_numberOfTrailingZeros_0f7a4 35 = .ok (.sipush 256, 3) := by decide +kernel
theorem dJ6_numberOfTrailingZeros_0f7a4_38 : decode cJ6_numberOfTrailingZeros_0f7a4 38 = .ok (.if_icmp .le 11, 3) := by decide +kernel
theorem dJ6_numberOfTrailingZeros_0f7a4_41 : decode cJ6_numberOfTrailingZeros_0f7a4 41 = .ok (.iinc 1 8, 3) := by decide +kernel
theorem dJ6_numberOfTrailingZeros_0f7a4_44 : decode cJ6_numberOfTrailingZeros_0f7a4 44 = .ok (.iload_n 0, 1) := by decide +kernel
theorem dJ6_numberOfTrailingZeros_0f7a4_45 : decode cJ6_numberOfTrailingZeros_0f7a4 45 = .ok (.bipush 8, 2) := by decide +kernel
theorem dJ6_numberOfTrailingZeros_0f7a4_47 : decode cJ6_numberOfTrailingZeros_0f7a4 47 = .ok (.iushr, 1) := by decide +kernel
theorem dJ6_numberOfTrailingZeros_0f7a4_48 : decode cJ6_numberOfTrailingZeros_0f7a4 48 = .ok (.istore_n 0, 1) := by decide +kernel
theorem dJ6_numberOfTrailingZeros_0f7a4_49 : decode cJ6_numberOfTrailingZeros_0f7a4 49 = .ok (.iload_n 0, 1) := by decide +kernel
theorem dJ6_numberOfTrailingZeros_0f7a4_50 : decode cJ6_numberOfTrailingZeros_0f7a4 50 = .ok (.bipush 16, 2) := by decide +kernel
theorem dJ6_numberOfTrailingZeros_0f7a4_52 : decode cJ6_numberOfTrailingZeros_0f7a4 52 = .ok (.if_icmp .le 10, 3) := by decide +kernel
theorem dJ6_numberOfTrailingZeros_0f7a4_55 : decode cJ6_numberOfTrailingZeros_0f7a4 55 = .ok (.iinc 1 4, 3) := by decide +kernel
theorem dJ6_numberOfTrailingZeros_0f7a4_58 : decode cJ6_numberOfTrailingZeros_0f7a4 58 = .ok (.iload_n 0, 1) := by decide +kernel
theorem dJ6_numberOfTrailingZeros_0f7a4_59 : decode cJ6_numberOfTrailingZeros_0f7a4 59 = .ok (.iconst 4, 1) := by decide +kernel
theorem dJ6_numberOfTrailingZeros_0f7a4_60 : decode cJ6_numberOfTrailingZeros_0f7a4 60 = .ok (.iushr, 1) := by decide +kernel
theorem dJ6_numberOfTrailingZeros_0f7a4_61 : decode cJ6_numberOfTrailingZeros_0f7a4 61 = .ok (.istore_n 0, 1) := by decide +kernel
theorem dJ6_numberOfTrailingZeros_0f7a4_62 : decode cJ6_numberOfTrailingZeros_0f7a4 62 = .ok (.iload_n 0, 1) := by decide +kernel
theorem dJ6_numberOfTrailingZeros_0f7a4_63 : decode cJ6_numberOfTrailingZeros_0f7a4 63 = .ok (.iconst 4, 1) := by decide +kernel
theorem dJ6_numberOfTrailingZeros_0f7a4_64 : decode cJ6_numberOfTrailingZeros_0f7a4 64 = .ok (.if_icmp .le 10, 3) := by decide +kernel
theorem dJ6_numberOfTrailingZeros_0f7a4_67 : decode cJ6_numberOfTrailingZeros_0f7a4 67 = .ok (.iinc 1 2, 3) := by decide +kernel
theorem dJ6_numberOfTrailingZeros_0f7a4_70 : decode cJ6_numberOfTrailingZeros_0f7a4 70 = .ok (.iload_n 0, 1) := by decide +kernel
theorem dJ6_numberOfTrailingZeros_0f7a4_71 : decode cJ6_numberOfTrailingZeros_0f7a4 71 = .ok (.iconst 2, 1) := by decide +kernel
theorem dJ6_numberOfTrailingZeros_0f7a4_72 : decode cJ6_numberOfTrailingZeros_0f7a4 72 = .ok (.iushr, 1) := by decide +kernel
theorem dJ6_numberOfTrailingZeros_0f7a4_73 : decode cJ6_numberOfTrailingZeros_0f7a4 73 = .ok (.istore_n 0, 1) := by decide +kernel
theorem dJ6_numberOfTrailingZeros_0f7a4_74 : decode cJ6_numberOfTrailingZeros_0f7a4 74 = .ok (.iload_n 1, 1) := by decide +kernel
theorem dJ6_numberOfTrailingZeros_0f7a4_75 : decode cJ6_numberOfTrailingZeros_0f7a4 75 = .ok (.iload_n 0, 1) := by decide +kernel
theorem dJ6_numberOfTrailingZeros_0f7a4_76 : decode cJ6_numberOfTrailingZeros_0f7a4 76 = .ok (.iconst 1, 1) := by decide +kernel
theorem dJ6_numberOfTrailingZeros_0f7a4_77 : decode cJ6_numberOfTrailingZeros_0f7a4 77 = .ok (.iushr, 1) := by decide +kernel
theorem dJ6_numberOfTrailingZeros_0f7a4_78 : decode cJ6_numberOfTrailingZeros_0f7a4 78 = .ok (.iadd, 1) := by decide +kernel
theorem dJ6_numberOfTrailingZeros_0f7a4_79 : decode cJ6_numberOfTrailingZeros_0f7a4 79 = .ok (.ireturn, 1) := by decide +kernel
theorem dJ6_bitCount_0f7a4_0 : decode cJ6_bitCount_0f7a4 0 = .ok (.iload_n 0, 1) := by decide +kernel
theorem dJ6_bitCount_0f7a4_1 : decode cJ6_bitCount_0f7a4 1 = .ok (.iload_n 0, 1) := by decide +kernel
theorem dJ6_bitCount_0f7a4_2 : decode cJ6_bitCount_0f7a4 2 = .ok (.iconst 1, 1) := by decide +kernel
theorem dJ6_bitCount_0f7a4_3 : decode cJ6_bitCount_0f7a4 3 = .ok (.iushr, 1) := by decide +kernel
theorem dJ6_bitCount_0f7a4_4 : decode cJ6_bitCount_0f7a4 4 = .ok (.ldc_w 265, 3) := by decide +kernel
theorem dJ6_bitCount_0f7a4_7 : decode cJ6_bitCount_0f7a4 7 = .ok (.iand, 1) := by decide +kernel
theorem dJ6_bitCount_0f7a4_8 : decode cJ6_bitCount_0f7a4 8 = .ok (.isub, 1) := by decide +kernel
theorem dJ6_bitCount_0f7a4_9 : decode cJ6_bitCount_0f7a4 9 = .ok (.istore_n 0, 1) := by decide +kernel
theorem dJ6_bitCount_0f7a4_10 : decode cJ6_bitCount_0f7a4 10 = .ok (.iload_n 0, 1) := by decide +kernel
theorem dJ6_bitCount_0f7a4_11 : decode cJ6_bitCount_0f7a4 11 = .ok (.ldc_w 266, 3) := by decide +kernel
theorem dJ6_bitCount_0f7a4_14 : decode cJ6_bitCount_0f7a4 14 = .ok (.iand, 1) := by decide +kernel
theorem dJ6_bitCount_0f7a4_15 : decode cJ6_bitCount_0f7a4 15 = .ok (.iload_n 0, 1) := by decide +kernel
theorem dJ6_bitCount_0f7a4_16 : decode cJ6_bitCount_0f7a4 16 = .ok (.iconst 2, 1) := by decide +kernel
theorem dJ6_bitCount_0f7a4_17 : decode cJ6_bitCount_0f7a4 17 = .ok (.iushr, 1) := by decide +kernel
theorem dJ6_bitCount_0f7a4_18 : decode cJ6_bitCount_0f7a4 18 = .ok (.ldc_w 266, 3) := by decide +kernel
theorem dJ6_bitCount_0f7a4_21 : decode cJ6_bitCount_0f7a4 21 = .ok (.iand, 1) := by decide +kernel
theorem dJ6_bitCount_0f7a4_22 : decode cJ6_bitCount_0f7a4 22 = .ok (.iadd, 1) := by decide +kernel
theorem dJ6_bitCount_0f7a4_23 : decode cJ6_bitCount_0f7a4 23 = .ok (.istore_n 0, 1) := by decide +kernel
theorem dJ6_bitCount_0f7a4_24 : decode cJ6_bitCount_0f7a4 24 = .ok (.iload_n 0, 1) := by decide +kernel
theorem dJ6_bitCount_0f7a4_25 : decode cJ6_bitCount_0f7a4 25 = .ok (.iload_n 0, 1) := by decide +kernel
theorem dJ6_bitCount_0f7a4_26 : decode cJ6_bitCount_0f7a4 26 = .ok (.iconst 4, 1) := by decide +kernel
theorem dJ6_bitCount_0f7a4_27 : decode cJ6_bitCount_0f7a4 27 = .ok (.iushr, 1) := by decide +kernel
theorem dJ6_bitCount_0f7a4_28 : decode cJ6_bitCount_0f7a4 28 = .ok (.iadd, 1) := by decide +kernel
theorem dJ6_bitCount_0f7a4_29 : decode cJ6_bitCount_0f7a4 29 = .ok (.ldc_w 267, 3) := by decide +kernel
theorem dJ6_bitCount_0f7a4_32 : decode cJ6_bitCount_0f7a4 32 = .ok (.iand, 1) := by decide +kernel
theorem dJ6_bitCount_0f7a4_33 : decode cJ6_bitCount_0f7a4 33 = .ok (.istore_n 0, 1) := by decide +kernel
theorem dJ6_bitCount_0f7a4_34 : decode cJ6_bitCount_0f7a4 34 = .ok (.iload_n 0, 1) := by decide +kernel
theorem dJ6_bitCount_0f7a4_35 : decode cJ6_bitCount_0f7a4 35 = .ok (.iload_n 0, 1) := by decide +kernel
theorem dJ6_bitCount_0f7a4_36 : decode cJ6_bitCount_0f7a4 36 = .ok (.bipush 8, 2) := by decide +kernel
theorem dJ6_bitCount_0f7a4_38 : decode cJ6_bitCount_0f7a4 38 = .ok (.iushr, 1) := by decide +kernel
theorem dJ6_bitCount_0f7a4_39 : decode cJ6_bitCount_0f7a4 39 = .ok (.iadd, 1) := by decide +kernel
theorem dJ6_bitCount_0f7a4_40 : decode cJ6_bitCount_0f7a4 40 = .ok (.istore_n 0, 1) := by decide +kernel
theorem dJ6_bitCount_0f7a4_41 : decode cJ6_bitCount_0f7a4 41 = .ok (.iload_n 0, 1) := by decide +kernel
theorem dJ6_bitCount_0f7a4_42 : decode cJ6_bitCount_0f7a4 42 = .ok (.iload_n 0, 1) := by decide +kernel
theorem dJ6_bitCount_0f7a4_43 : decode cJ6_bitCount_0f7a4 43 = .ok (.bipush 16, 2) := by decide +kernel
theorem dJ6_bitCount_0f7a4_45 : decode cJ6_bitCount_0f7a4 45 = .ok (.iushr, 1) := by decide +kernel
theorem dJ6_bitCount_0f7a4_46 : decode cJ6_bitCount_0f7a4 46 = .ok (.iadd, 1) := by decide +kernel
theorem dJ6_bitCount_0f7a4_47 : decode cJ6_bitCount_0f7a4 47 = .ok (.istore_n 0, 1) := by decide +kernel
theorem dJ6_bitCount_0f7a4_48 : decode cJ6_bitCount_0f7a4 48 = .ok (.iload_n 0, 1) := by decide +kernel
theorem dJ6_bitCount_0f7a4_49 : decode cJ6_bitCount_0f7a4 49 = .ok (.bipush 63, 2) := by decide +kernel
theorem dJ6_bitCount_0f7a4_51 : decode cJ6_bitCount_0f7a4 51 = .ok (.iand, 1) := by decide +kernel
theorem dJ6_bitCount_0f7a4_52 : decode cJ6_bitCount_0f7a4 52 = .ok (.ireturn, 1) := by decide +kernel
theorem dJ9_abs_0f7a4_0 : decode cJ9_abs_0f7a4 0 = .ok (.iload_n 0, 1) := by decide +kernel
theorem dJ9_abs_0f7a4_1 : decode cJ9_abs_0f7a4 1 = .ok (.ifCond .ge 8, 3) := by decide +kernel
theorem dJ9_abs_0f7a4_4 : decode cJ9_abs_0f7a4 4 = .ok (.iload_n 0, 1) := by decide +kernel
theorem dJ9_abs_0f7a4_5 : decode cJ9_abs_0f7a4 5 = .ok (.ineg, 1) := by decide +kernel
theorem dJ9_abs_0f7a4_6 : decode cJ9_abs_0f7a4 6 = .ok (.goto 4, 3) := by decide +kernel
theorem dJ9_abs_0f7a4_9 : decode cJ9_abs_0f7a4 9 = .ok (.iload_n 0, 1) := by decide +kernel
theorem dJ9_abs_0f7a4_10 : decode cJ9_abs_0f7a4 10 = .ok (.ireturn, 1) := by decide +kernel
theorem dJ9_max_7cf53_0 : decode cJ9_max_7cf53 0 = .ok (.iload_n 0, 1) := by decide +kernel
theorem dJ9_max_7cf53_1 : decode cJ9_max_7cf53 1 = .ok (.iload_n 1, 1) := by decide +kernel
theorem dJ9_max_7cf53_2 : decode cJ9_max_7cf53 2 = .ok (.if_icmp .lt 7, 3) := by decide +kernel
theorem dJ9_max_7cf53_5 : decode cJ9_max_7cf53 5 = .ok (.iload_n 0, 1) := by decide +kernel
theorem dJ9_max_7cf53_6 : decode cJ9_max_7cf53 6 = .ok (.goto 4, 3) := by decide +kernel
theorem dJ9_max_7cf53_9 : decode cJ9_max_7cf53 9 = .ok (.iload_n 1, 1) := by decide +kernel
theorem dJ9_max_7cf53_10 : decode cJ9_max_7cf53 10 = .ok (.ireturn, 1) := by decide +kernel
theorem dJ9_max_f86c9_0 : decode cJ9_max_f86c9 0 = .ok (.lload_n 0, 1) := by decide +kernel
theorem dJ9_max_f86c9_1 : decode cJ9_max_f86c9 1 = .ok (.lload_n 2, 1) := by decide +kernel
theorem dJ9_max_f86c9_2 : decode cJ9_max_f86c9 2 = .ok (.lcmp, 1) := by decide +kernel
theorem dJ9_max_f86c9_3 : decode cJ9_max_f86c9 3 = .ok (.ifCond .lt 7, 3) := by decide +kernel
theorem dJ9_max_f86c9_6 : decode cJ9_max_f86c9 6 = .ok (.lload_n 0, 1) := by decide +kernel
theorem dJ9_max_f86c9_7 : decode cJ9_max_f86c9 7 = .ok (.goto 4, 3) := by decide +kernel
theorem dJ9_max_f86c9_10 : decode cJ9_max_f86c9 10 = .ok (.lload_n 2, 1) := by decide +kernel
theorem dJ9_max_f86c9_11 : decode cJ9_max_f86c9 11 = .ok (.lreturn, 1) := by decide +kernel
theorem dJ9_min_7cf53_0 : decode cJ9_min_7cf53 0 = .ok (.iload_n 0, 1) := by decide +kernel
theorem dJ9_min_7cf53_1 : decode cJ9_min_7cf53 1 = .ok (.iload_n 1, 1) := by decide +kernel
theorem dJ9_min_7cf53_2 : decode cJ9_min_7cf53 2 = .ok (.if_icmp .gt 7, 3) := by decide +kernel
theorem dJ9_min_7cf53_5 : decode cJ9_min_7cf53 5 = .ok (.iload_n 0, 1) := by decide +kernel
theorem dJ9_min_7cf53_6 : decode cJ9_min_7cf53 6 = .ok (.goto 4, 3) := by decide +kernel
theorem dJ9_min_7cf53_9 : decode cJ9_min_7cf53 9 = .ok (.iload_n 1, 1) := by decide +kernel
theorem dJ9_min_7cf53_10 : decode cJ9_min_7cf53 10 = .ok (.ireturn, 1) := by decide +kernel
set_option maxRecDepth 20000 in
theorem ggL_law_X8_init : GoodIn wsL_law wsX8_init := goodIn_r _ [8, 9, 10, 11, 12, 13, 14, 15, 16, 17, 18, 19, 20, 21, 22, 23, 24, 25, 26, 27, 28, 29, 30, 31, 32, 33, 34, 35, 36, 37, 38, 39, 40, 41, 42, 43, 44, 45, 46, 47, 48, 49, 50, 51, 52, 53, 54, 55, 56, 57, 58, 59, 60, 61, 62, 63, 64, 65, 66, 67, 68, 69, 70, 71, 72, 73, 74, 75, 76, 77, 78, 79, 80, 81, 82, 83, 84, 85, 86, 87, 88, 89, 90, 91, 92, 93, 94, 95, 96, 97, 98, 99, 100, 101, 102, 103, 104, 105, 106, 107, 108, 109, 110, 111, 112, 961, 962, 963, 964, 965, 966, 967, 968, 969, 970, 971, 917, 918, 919, 920, 921, 922, 923, 972, 973, 974, 975, 976, 977, 978, 979, 980, 981, 982, 983, 984, 985, 986, 987, 988, 989, 990, 991, 992, 993, 994, 995, 996, 997, 998] (by decide +kernel) (by decide +kernel)
set_option maxRecDepth 20000 in
theorem gL_law_X8_init : GoodIn wsL_law (wsX8_init) := ggL_law_X8_init
set_option maxRecDepth 20000 in
theorem ggL_law_X9_init : GoodIn wsL_law wsX9_init := goodIn_r _ [115, 116, 10, 11, 44, 117, 118, 119, 120, 121, 122, 123, 124, 125, 126, 127, 128, 129, 130, 131, 132, 133, 134, 135, 53, 136, 137, 138, 139, 924, 925, 926, 927, 928, 929, 930, 931, 932, 933, 934, 935, 936, 937, 938, 939, 940, 941, 942, 943, 944, 945, 946, 947, 948, 949, 950, 951, 952, 953, 954, 955, 956, 957, 958, 959, 960] (by decide +kernel) (by decide +kernel)
set_option maxRecDepth 20000 in
theorem gL_law_X9_init : GoodIn wsL_law (wsX9_init) := ggL_law_X9_init
set_option maxRecDepth 20000 in
theorem ggL_law_X8_person : GoodIn wsL_law wsX8_person := goodIn_r _ [143, 15, 144, 145, 146, 147, 2, 148, 149, 150, 151, 917, 918, 919, 920, 921, 922, 923, 961, 962, 963, 964, 965, 966, 967, 968, 969, 970, 971] (by decide +kernel) (by decide +kernel)
set_option maxRecDepth 20000 in
theorem gL_law_X8_person : GoodIn wsL_law (wsV RL 13 RX8 yX8_person wsX8_person) := goodIn_app (goodIn_of _ (by decide +kernel)) ggL_law_X8_person
set_option maxRecDepth 20000 in
theorem ggL_law_X9_person : GoodIn wsL_law wsX9_person := goodIn_r _ [155, 156, 117, 118, 157, 158, 5, 159, 160, 161, 162, 163, 924, 925, 926, 927, 928, 929, 930, 931, 932, 933, 934, 935, 936, 937, 938, 939, 940, 941, 942, 943, 944, 945, 946, 947, 948, 949, 950, 951, 952, 953, 954, 955, 956, 957, 958, 959, 960] (by decide +kernel) (by decide +kernel)
set_option maxRecDepth 20000 in
theorem gL_law_X9_person : GoodIn wsL_law (wsV RL 17 RX9 yX9_person wsX9_person) := goodIn_app (goodIn_of _ (by decide +kernel)) ggL_law_X9_person
set_option maxRecDepth 20000 in
theorem ggL_law_X8_stone : GoodIn wsL_law wsX8_stone := goodIn_r _ [167, 15, 168, 146, 147, 2, 148, 149, 150, 151, 169, 170, 171, 172, 173, 174, 14, 175, 47, 48, 49, 917, 918, 919, 920, 921, 922, 923, 961, 962, 963, 964, 965, 966, 967, 968, 969, 970, 971] (by decide +kernel) (by decide +kernel)
set_option maxRecDepth 20000 in
theorem gL_law_X8_stone : GoodIn wsL_law (wsV RL 18 RX8 yX8_stone wsX8_stone) := goodIn_app (goodIn_of _ (by decide +kernel)) ggL_law_X8_stone
set_option maxRecDepth 20000 in
theorem ggL_law_X9_stone : GoodIn wsL_law wsX9_stone := goodIn_r _ [179, 180, 181, 119, 157, 158, 5, 159, 160, 161, 162, 163, 182, 183, 184, 185, 120, 121, 924, 925, 926, 927, 928, 929, 930, 931, 932, 933, 934, 935, 936, 937, 938, 939, 940, 941, 942, 943, 944, 945, 946, 947, 948, 949, 950, 951, 952, 953, 954, 955, 956, 957, 958, 959, 960] (by decide +kernel) (by decide +kernel)
set_option maxRecDepth 20000 in
theorem gL_law_X9_stone : GoodIn wsL_law (wsV RL 22 RX9 yX9_stone wsX9_stone) := goodIn_app (goodIn_of _ (by decide +kernel)) ggL_law_X9_stone
set_option maxRecDepth 20000 in
theorem ggL_law_X8_reader : GoodIn wsL_law wsX8_reader := goodIn_r _ [189, 15, 190, 191, 192, 193, 194, 2, 195, 149, 150, 151, 169, 170, 171, 917, 918, 919, 920, 921, 922, 923, 961, 962, 963, 964, 965, 966, 967, 968, 969, 970, 971] (by decide +kernel) (by decide +kernel)
set_option maxRecDepth 20000 in
theorem gL_law_X8_reader : GoodIn wsL_law (wsV RL 23 RX8 yX8_reader wsX8_reader) := goodIn_app (goodIn_of _ (by decide +kernel)) ggL_law_X8_reader
set_option maxRecDepth 20000 in
theorem ggL_law_X9_reader : GoodIn wsL_law wsX9_reader := goodIn_r _ [199, 200, 122, 123, 125, 201, 202, 5, 203, 204, 161, 162, 163, 205, 206, 207, 181, 924, 925, 926, 927, 928, 929, 930, 931, 932, 933, 934, 935, 936, 937, 938, 939, 940, 941, 942, 943, 944, 945, 946, 947, 948, 949, 950, 951, 952, 953, 954, 955, 956, 957, 958, 959, 960] (by decide +kernel) (by decide +kernel)
set_option maxRecDepth 20000 in
theorem gL_law_X9_reader : GoodIn wsL_law (wsV RL 26 RX9 yX9_reader wsX9_reader) := goodIn_app (goodIn_of _ (by decide +kernel)) ggL_law_X9_reader
set_option maxRecDepth 20000 in
theorem ggL_law_X8_melt : GoodIn wsL_law wsX8_melt := goodIn_r _ [211, 15, 212, 149, 150, 2, 151, 917, 918, 919, 920, 921, 922, 923, 961, 962, 963, 964, 965, 966, 967, 968, 969, 970, 971] (by decide +kernel) (by decide +kernel)
set_option maxRecDepth 20000 in
theorem gL_law_X8_melt : GoodIn wsL_law (wsV RL 27 RX8 yX8_melt wsX8_melt) := goodIn_app (goodIn_of _ (by decide +kernel)) ggL_law_X8_melt
set_option maxRecDepth 20000 in
theorem ggL_law_X9_melt : GoodIn wsL_law wsX9_melt := goodIn_r _ [216, 200, 139, 161, 162, 5, 163, 924, 925, 926, 927, 928, 929, 930, 931, 932, 933, 934, 935, 936, 937, 938, 939, 940, 941, 942, 943, 944, 945, 946, 947, 948, 949, 950, 951, 952, 953, 954, 955, 956, 957, 958, 959, 960] (by decide +kernel) (by decide +kernel)
set_option maxRecDepth 20000 in
theorem gL_law_X9_melt : GoodIn wsL_law (wsV RL 31 RX9 yX9_melt wsX9_melt) := goodIn_app (goodIn_of _ (by decide +kernel)) ggL_law_X9_melt
set_option maxRecDepth 20000 in
theorem ggL_law_X8_say : GoodIn wsL_law wsX8_say := goodIn_r _ [220, 19, 221, 149, 150, 2, 151, 222, 223, 224, 18, 225, 61, 60, 917, 918, 919, 920, 921, 922, 923, 972, 973] (by decide +kernel) (by decide +kernel)
set_option maxRecDepth 20000 in
theorem gL_law_X8_say : GoodIn wsL_law (wsV RL 32 RX8 yX8_say wsX8_say) := goodIn_app (goodIn_of _ (by decide +kernel)) ggL_law_X8_say
set_option maxRecDepth 20000 in
theorem ggL_law_X9_say : GoodIn wsL_law wsX9_say := goodIn_r _ [229, 230, 231, 232, 129, 161, 162, 5, 163, 924, 925, 926, 927, 928, 929, 930, 931, 932, 933, 934, 935, 936, 937, 938, 939, 940, 941, 942, 943, 944, 945, 946, 947, 948, 949, 950, 951, 952, 953, 954, 955, 956, 957, 958, 959, 960] (by decide +kernel) (by decide +kernel)
set_option maxRecDepth 20000 in
theorem gL_law_X9_say : GoodIn wsL_law (wsV RL 35 RX9 yX9_say wsX9_say) := goodIn_app (goodIn_of _ (by decide +kernel)) ggL_law_X9_say
set_option maxRecDepth 20000 in
theorem ggL_law_X8_wipe : GoodIn wsL_law wsX8_wipe := goodIn_r _ [236, 19, 237, 238, 239, 18, 240, 61, 917, 918, 919, 920, 921, 922, 923, 972, 973] (by decide +kernel) (by decide +kernel)
set_option maxRecDepth 20000 in
theorem gL_law_X8_wipe : GoodIn wsL_law (wsV RL 36 RX8 yX8_wipe wsX8_wipe) := goodIn_app (goodIn_of _ (by decide +kernel)) ggL_law_X8_wipe
set_option maxRecDepth 20000 in
theorem ggL_law_X9_wipe : GoodIn wsL_law wsX9_wipe := goodIn_r _ [244, 232, 924, 925, 926, 927, 928, 929, 930, 931, 932, 933, 934, 935, 936, 937, 938, 939, 940, 941, 942, 943, 944, 945, 946, 947, 948, 949, 950, 951, 952, 953, 954, 955, 956, 957, 958, 959, 960] (by decide +kernel) (by decide +kernel)
set_option maxRecDepth 20000 in
theorem gL_law_X9_wipe : GoodIn wsL_law (wsV RL 40 RX9 yX9_wipe wsX9_wipe) := goodIn_app (goodIn_of _ (by decide +kernel)) ggL_law_X9_wipe
set_option maxRecDepth 20000 in
theorem ggL_law_X8_fault : GoodIn wsL_law wsX8_fault := goodIn_r _ [248, 19, 249, 250, 251, 18, 252, 61, 253, 254, 255, 256, 257, 258, 259, 260, 60, 147, 2, 148, 149, 150, 151, 261, 262, 263, 264, 170, 171, 194, 195, 265, 266, 267, 268, 269, 270, 271, 272, 917, 918, 919, 920, 921, 922, 923, 972, 973] (by decide +kernel) (by decide +kernel)
set_option maxRecDepth 20000 in
theorem gL_law_X8_fault : GoodIn wsL_law (wsV RL 41 RX8 yX8_fault wsX8_fault) := goodIn_app (goodIn_of _ (by decide +kernel)) ggL_law_X8_fault
set_option maxRecDepth 20000 in
theorem ggL_law_X9_fault : GoodIn wsL_law wsX9_fault := goodIn_r _ [276, 277, 232, 129, 278, 279, 280, 5, 281, 282, 283, 284, 285, 286, 287, 288, 289, 290, 291, 131, 161, 162, 163, 292, 293, 294, 295, 130, 132, 296, 297, 298, 299, 300, 301, 302, 303, 924, 925, 926, 927, 928, 929, 930, 931, 932, 933, 934, 935, 936, 937, 938, 939, 940, 941, 942, 943, 944, 945, 946, 947, 948, 949, 950, 951, 952, 953, 954, 955, 956, 957, 958, 959, 960] (by decide +kernel) (by decide +kernel)
set_option maxRecDepth 20000 in
theorem gL_law_X9_fault : GoodIn wsL_law (wsV RL 44 RX9 yX9_fault wsX9_fault) := goodIn_app (goodIn_of _ (by decide +kernel)) ggL_law_X9_fault
set_option maxRecDepth 20000 in
theorem ggL_law_X8_judge : GoodIn wsL_law wsX8_judge := goodIn_r _ [307, 23, 308, 309, 310, 149, 150, 2, 151, 311, 312, 313, 314, 19, 15, 249, 250, 251, 18, 252, 61, 253, 254, 255, 256, 257, 258, 259, 260, 60, 147, 148, 261, 262, 263, 264, 170, 171, 194, 195, 265, 266, 267, 268, 269, 270, 271, 272, 315, 316, 317, 22, 318, 66, 71, 72, 73, 74, 75, 76, 319, 320, 321, 14, 322, 45, 323, 324, 325, 326, 46, 47, 48, 49, 50, 51, 52, 54, 55, 56, 327, 328, 329, 330, 331, 70, 332, 333, 334, 335, 336, 337, 338, 69, 339, 81, 82, 83, 340, 341, 342, 343, 344, 345, 346, 347, 348, 349, 350, 351, 352, 353, 354, 355, 356, 357, 358, 359, 360, 361, 362, 363, 364, 365, 366, 367, 368, 369, 370, 371, 372, 373, 374, 375, 376, 377, 378, 379, 173, 174, 175, 380, 381, 382, 383, 384, 385, 386, 387, 388, 389, 390, 391, 392, 393, 394, 395, 396, 397, 398, 399, 400, 401, 402, 403, 404, 405, 406, 917, 918, 919, 920, 921, 922, 923, 974, 975, 976, 977, 978, 979, 980, 981, 972, 973, 961, 962, 963, 964, 965, 966, 967, 968, 969, 970, 971, 996, 997, 998] (by decide +kernel) (by decide +kernel)
set_option maxRecDepth 20000 in
theorem gL_law_X8_judge : GoodIn wsL_law (wsV RL 45 RX8 yX8_judge wsX8_judge) := goodIn_app (goodIn_of _ (by decide +kernel)) ggL_law_X8_judge
set_option maxRecDepth 20000 in
theorem ggL_law_X9_judge : GoodIn wsL_law wsX9_judge := goodIn_r _ [410, 411, 412, 413, 414, 161, 162, 5, 163, 415, 416, 417, 418, 419, 420, 421, 422, 423, 424, 425, 117, 118, 119, 120, 121, 122, 123, 124, 125, 426, 427, 428, 429, 133, 430, 431, 432, 433, 434, 274, 275, 276, 277, 232, 129, 278, 279, 280, 281, 282, 283, 284, 285, 286, 287, 288, 289, 290, 291, 131, 292, 293, 294, 295, 130, 132, 296, 297, 298, 299, 300, 301, 302, 303, 435, 436, 437, 438, 439, 440, 441, 442, 443, 444, 445, 446, 447, 448, 449, 450, 451, 452, 205, 206, 207, 181, 453, 454, 455, 456, 457, 458, 459, 460, 461, 462, 463, 464, 465, 182, 183, 184, 185, 466, 467, 468, 469, 470, 471, 472, 473, 474, 475, 476, 477, 478, 479, 480, 481, 482, 483, 484, 139, 485, 486, 487, 488, 924, 925, 926, 927, 928, 929, 930, 931, 932, 933, 934, 935, 936, 937, 938, 939, 940, 941, 942, 943, 944, 945, 946, 947, 948, 949, 950, 951, 952, 953, 954, 955, 956, 957, 958, 959, 960] (by decide +kernel) (by decide +kernel)
set_option maxRecDepth 20000 in
theorem gL_law_X9_judge : GoodIn wsL_law (wsV RL 48 RX9 yX9_judge wsX9_judge) := goodIn_app (goodIn_of _ (by decide +kernel)) ggL_law_X9_judge
set_option maxRecDepth 20000 in
theorem ggL_law_X8_behind : GoodIn wsL_law wsX8_behind := goodIn_r _ [492, 23, 493, 146, 147, 2, 148, 149, 150, 151, 311, 312, 313, 314, 19, 15, 308, 249, 250, 251, 18, 252, 61, 253, 254, 255, 256, 257, 258, 259, 260, 60, 261, 262, 263, 264, 170, 171, 194, 195, 265, 266, 267, 268, 269, 270, 271, 272, 315, 316, 317, 22, 318, 66, 71, 72, 73, 74, 75, 76, 319, 320, 321, 14, 322, 45, 323, 324, 325, 326, 46, 47, 48, 49, 50, 51, 52, 54, 55, 56, 327, 328, 329, 330, 331, 70, 332, 333, 334, 335, 336, 337, 338, 69, 339, 81, 82, 83, 340, 341, 342, 343, 344, 345, 346, 347, 348, 349, 350, 351, 352, 353, 354, 355, 356, 357, 358, 359, 360, 361, 362, 363, 364, 365, 366, 367, 368, 369, 370, 371, 372, 373, 374, 375, 376, 377, 378, 379, 173, 174, 175, 380, 381, 382, 383, 384, 385, 386, 387, 388, 389, 390, 391, 392, 393, 394, 395, 396, 397, 398, 399, 400, 401, 402, 403, 404, 405, 406, 494, 495, 496, 497, 917, 918, 919, 920, 921, 922, 923, 974, 975, 976, 977, 978, 979, 980, 981, 972, 973, 961, 962, 963, 964, 965, 966, 967, 968, 969, 970, 971, 996, 997, 998] (by decide +kernel) (by decide +kernel)
set_option maxRecDepth 20000 in
theorem gL_law_X8_behind : GoodIn wsL_law (wsV RL 49 RX8 yX8_behind wsX8_behind) := goodIn_app (goodIn_of _ (by decide +kernel)) ggL_law_X8_behind
set_option maxRecDepth 20000 in
theorem ggL_law_X9_behind : GoodIn wsL_law wsX9_behind := goodIn_r _ [501, 502, 157, 158, 5, 159, 160, 161, 162, 163, 415, 416, 417, 418, 412, 419, 420, 421, 422, 423, 424, 425, 117, 118, 119, 120, 121, 122, 123, 124, 125, 426, 427, 428, 429, 133, 430, 431, 432, 433, 434, 274, 275, 276, 277, 232, 129, 278, 279, 280, 281, 282, 283, 284, 285, 286, 287, 288, 289, 290, 291, 131, 292, 293, 294, 295, 130, 132, 296, 297, 298, 299, 300, 301, 302, 303, 435, 436, 437, 438, 413, 439, 440, 414, 441, 442, 443, 444, 445, 446, 447, 448, 449, 450, 451, 452, 205, 206, 207, 181, 453, 454, 455, 456, 457, 458, 459, 460, 461, 462, 463, 464, 465, 182, 183, 184, 185, 466, 467, 468, 469, 470, 471, 472, 473, 474, 475, 476, 477, 478, 479, 480, 481, 482, 483, 484, 139, 503, 504, 505, 506, 485, 486, 487, 488, 924, 925, 926, 927, 928, 929, 930, 931, 932, 933, 934, 935, 936, 937, 938, 939, 940, 941, 942, 943, 944, 945, 946, 947, 948, 949, 950, 951, 952, 953, 954, 955, 956, 957, 958, 959, 960] (by decide +kernel) (by decide +kernel)
set_option maxRecDepth 20000 in
theorem gL_law_X9_behind : GoodIn wsL_law (wsV RL 53 RX9 yX9_behind wsX9_behind) := goodIn_app (goodIn_of _ (by decide +kernel)) ggL_law_X9_behind
set_option maxRecDepth 20000 in
theorem ggL_law_X8_reads : GoodIn wsL_law wsX8_reads := goodIn_r _ [510, 23, 493, 193, 194, 2, 195, 149, 150, 151, 311, 312, 313, 314, 19, 15, 308, 249, 250, 251, 18, 252, 61, 253, 254, 255, 256, 257, 258, 259, 260, 60, 147, 148, 261, 262, 263, 264, 170, 171, 265, 266, 267, 268, 269, 270, 271, 272, 315, 316, 317, 22, 318, 66, 71, 72, 73, 74, 75, 76, 319, 320, 321, 14, 322, 45, 323, 324, 325, 326, 46, 47, 48, 49, 50, 51, 52, 54, 55, 56, 327, 328, 329, 330, 331, 70, 332, 333, 334, 335, 336, 337, 338, 69, 339, 81, 82, 83, 340, 341, 342, 343, 344, 345, 346, 347, 348, 349, 350, 351, 352, 353, 354, 355, 356, 357, 358, 359, 360, 361, 362, 363, 364, 365, 366, 367, 368, 369, 370, 371, 372, 373, 374, 375, 376, 377, 378, 379, 173, 174, 175, 380, 381, 382, 383, 384, 385, 386, 387, 388, 389, 390, 391, 392, 393, 394, 395, 396, 397, 398, 399, 400, 401, 402, 403, 404, 405, 406, 511, 512, 513, 514, 917, 918, 919, 920, 921, 922, 923, 974, 975, 976, 977, 978, 979, 980, 981, 972, 973, 961, 962, 963, 964, 965, 966, 967, 968, 969, 970, 971, 996, 997, 998] (by decide +kernel) (by decide +kernel)
set_option maxRecDepth 20000 in
theorem gL_law_X8_reads : GoodIn wsL_law (wsV RL 54 RX8 yX8_reads wsX8_reads) := goodIn_app (goodIn_of _ (by decide +kernel)) ggL_law_X8_reads
set_option maxRecDepth 20000 in
theorem ggL_law_X9_reads : GoodIn wsL_law wsX9_reads := goodIn_r _ [518, 204, 122, 123, 124, 201, 202, 5, 203, 161, 162, 163, 415, 416, 417, 418, 412, 419, 420, 421, 422, 423, 424, 425, 117, 118, 119, 120, 121, 125, 426, 427, 428, 429, 133, 430, 431, 432, 433, 434, 274, 275, 276, 277, 232, 129, 278, 279, 280, 281, 282, 283, 284, 285, 286, 287, 288, 289, 290, 291, 131, 292, 293, 294, 295, 130, 132, 296, 297, 298, 299, 300, 301, 302, 303, 435, 436, 437, 438, 413, 439, 440, 414, 441, 442, 443, 444, 445, 446, 447, 448, 449, 450, 451, 452, 205, 206, 207, 181, 453, 454, 455, 456, 457, 458, 459, 460, 461, 462, 463, 464, 465, 182, 183, 184, 185, 466, 467, 468, 469, 470, 471, 472, 473, 474, 475, 476, 477, 478, 479, 480, 481, 482, 483, 484, 139, 485, 486, 487, 488, 924, 925, 926, 927, 928, 929, 930, 931, 932, 933, 934, 935, 936, 937, 938, 939, 940, 941, 942, 943, 944, 945, 946, 947, 948, 949, 950, 951, 952, 953, 954, 955, 956, 957, 958, 959, 960] (by decide +kernel) (by decide +kernel)
set_option maxRecDepth 20000 in
theorem gL_law_X9_reads : GoodIn wsL_law (wsV RL 57 RX9 yX9_reads wsX9_reads) := goodIn_app (goodIn_of _ (by decide +kernel)) ggL_law_X9_reads
set_option maxRecDepth 20000 in
theorem ggL_law_X8_yard : GoodIn wsL_law wsX8_yard := goodIn_r _ [522, 23, 493, 523, 149, 150, 2, 151, 311, 312, 313, 314, 19, 15, 308, 249, 250, 251, 18, 252, 61, 253, 254, 255, 256, 257, 258, 259, 260, 60, 147, 148, 261, 262, 263, 264, 170, 171, 194, 195, 265, 266, 267, 268, 269, 270, 271, 272, 315, 316, 317, 22, 318, 66, 71, 72, 73, 74, 75, 76, 319, 320, 321, 14, 322, 45, 323, 324, 325, 326, 46, 47, 48, 49, 50, 51, 52, 54, 55, 56, 327, 328, 329, 330, 331, 70, 332, 333, 334, 335, 336, 337, 338, 69, 339, 81, 82, 83, 340, 341, 342, 343, 344, 345, 346, 347, 348, 349, 350, 351, 352, 353, 354, 355, 356, 357, 358, 359, 360, 361, 362, 363, 364, 365, 366, 367, 368, 369, 370, 371, 372, 373, 374, 375, 376, 377, 378, 379, 173, 174, 175, 380, 381, 382, 383, 384, 385, 386, 387, 388, 389, 390, 391, 392, 393, 394, 395, 396, 397, 398, 399, 400, 401, 402, 403, 404, 405, 406, 524, 525, 526, 527, 528, 529, 530, 531, 532, 533, 534, 535, 536, 537, 538, 539, 540, 917, 918, 919, 920, 921, 922, 923, 974, 975, 976, 977, 978, 979, 980, 981, 961, 962, 963, 964, 965, 966, 967, 968, 969, 970, 971, 972, 973, 996, 997, 998] (by decide +kernel) (by decide +kernel)
set_option maxRecDepth 20000 in
theorem gL_law_X8_yard : GoodIn wsL_law (wsV RL 58 RX8 yX8_yard wsX8_yard) := goodIn_app (goodIn_of _ (by decide +kernel)) ggL_law_X8_yard
set_option maxRecDepth 20000 in
theorem ggL_law_X9_yard : GoodIn wsL_law wsX9_yard := goodIn_r _ [544, 204, 425, 161, 162, 5, 163, 415, 416, 417, 418, 412, 419, 420, 421, 422, 423, 424, 117, 118, 119, 120, 121, 122, 123, 124, 125, 426, 427, 428, 429, 133, 430, 431, 432, 433, 434, 274, 275, 276, 277, 232, 129, 278, 279, 280, 281, 282, 283, 284, 285, 286, 287, 288, 289, 290, 291, 131, 292, 293, 294, 295, 130, 132, 296, 297, 298, 299, 300, 301, 302, 303, 435, 436, 437, 438, 413, 439, 440, 414, 441, 442, 443, 444, 445, 446, 447, 448, 449, 450, 451, 452, 205, 206, 207, 181, 453, 454, 455, 456, 457, 458, 459, 460, 461, 462, 463, 464, 465, 182, 183, 184, 185, 466, 467, 468, 469, 470, 471, 472, 473, 474, 475, 476, 477, 478, 479, 480, 481, 482, 483, 484, 139, 545, 546, 547, 548, 549, 550, 551, 552, 553, 554, 555, 556, 485, 486, 487, 488, 924, 925, 926, 927, 928, 929, 930, 931, 932, 933, 934, 935, 936, 937, 938, 939, 940, 941, 942, 943, 944, 945, 946, 947, 948, 949, 950, 951, 952, 953, 954, 955, 956, 957, 958, 959, 960] (by decide +kernel) (by decide +kernel)
set_option maxRecDepth 20000 in
theorem gL_law_X9_yard : GoodIn wsL_law (wsV RL 61 RX9 yX9_yard wsX9_yard) := goodIn_app (goodIn_of _ (by decide +kernel)) ggL_law_X9_yard
set_option maxRecDepth 20000 in
theorem ggL_law_X8_lost : GoodIn wsL_law wsX8_lost := goodIn_r _ [560, 23, 561, 562, 149, 150, 2, 151, 311, 312, 313, 314, 19, 15, 308, 249, 250, 251, 18, 252, 61, 253, 254, 255, 256, 257, 258, 259, 260, 60, 147, 148, 261, 262, 263, 264, 170, 171, 194, 195, 265, 266, 267, 268, 269, 270, 271, 272, 315, 316, 317, 22, 318, 66, 71, 72, 73, 74, 75, 76, 319, 320, 321, 14, 322, 45, 323, 324, 325, 326, 46, 47, 48, 49, 50, 51, 52, 54, 55, 56, 327, 328, 329, 330, 331, 70, 332, 333, 334, 335, 336, 337, 338, 69, 339, 81, 82, 83, 340, 341, 342, 343, 344, 345, 346, 347, 348, 349, 350, 351, 352, 353, 354, 355, 356, 357, 358, 359, 360, 361, 362, 363, 364, 365, 366, 367, 368, 369, 370, 371, 372, 373, 374, 375, 376, 377, 378, 379, 173, 174, 175, 380, 381, 382, 383, 384, 385, 386, 387, 388, 389, 390, 391, 392, 393, 394, 395, 396, 397, 398, 399, 400, 401, 402, 403, 404, 405, 406, 917, 918, 919, 920, 921, 922, 923, 974, 975, 976, 977, 978, 979, 980, 981, 972, 973, 961, 962, 963, 964, 965, 966, 967, 968, 969, 970, 971, 996, 997, 998] (by decide +kernel) (by decide +kernel)
set_option maxRecDepth 20000 in
theorem gL_law_X8_lost : GoodIn wsL_law (wsV RL 62 RX8 yX8_lost wsX8_lost) := goodIn_app (goodIn_of _ (by decide +kernel)) ggL_law_X8_lost
set_option maxRecDepth 20000 in
theorem ggL_law_X9_lost : GoodIn wsL_law wsX9_lost := goodIn_r _ [566, 439, 440, 161, 162, 5, 163, 415, 416, 417, 418, 412, 419, 420, 421, 422, 423, 424, 425, 117, 118, 119, 120, 121, 122, 123, 124, 125, 426, 427, 428, 429, 133, 430, 431, 432, 433, 434, 274, 275, 276, 277, 232, 129, 278, 279, 280, 281, 282, 283, 284, 285, 286, 287, 288, 289, 290, 291, 131, 292, 293, 294, 295, 130, 132, 296, 297, 298, 299, 300, 301, 302, 303, 435, 436, 437, 438, 413, 414, 441, 442, 443, 444, 445, 446, 447, 448, 449, 450, 451, 452, 205, 206, 207, 181, 453, 454, 455, 456, 457, 458, 459, 460, 461, 462, 463, 464, 465, 182, 183, 184, 185, 466, 467, 468, 469, 470, 471, 472, 473, 474, 475, 476, 477, 478, 479, 480, 481, 482, 483, 484, 139, 485, 486, 487, 488, 924, 925, 926, 927, 928, 929, 930, 931, 932, 933, 934, 935, 936, 937, 938, 939, 940, 941, 942, 943, 944, 945, 946, 947, 948, 949, 950, 951, 952, 953, 954, 955, 956, 957, 958, 959, 960] (by decide +kernel) (by decide +kernel)
set_option maxRecDepth 20000 in
theorem gL_law_X9_lost : GoodIn wsL_law (wsV RL 65 RX9 yX9_lost wsX9_lost) := goodIn_app (goodIn_of _ (by decide +kernel)) ggL_law_X9_lost
set_option maxRecDepth 20000 in
theorem ggL_law_X8_done : GoodIn wsL_law wsX8_done := goodIn_r _ [570, 15, 23, 493, 19, 571, 311, 312, 313, 2, 314, 308, 249, 250, 251, 18, 252, 61, 253, 254, 255, 256, 257, 258, 259, 260, 60, 147, 148, 149, 150, 151, 261, 262, 263, 264, 170, 171, 194, 195, 265, 266, 267, 268, 269, 270, 271, 272, 315, 316, 317, 22, 318, 66, 71, 72, 73, 74, 75, 76, 319, 320, 321, 14, 322, 45, 323, 324, 325, 326, 46, 47, 48, 49, 50, 51, 52, 54, 55, 56, 327, 328, 329, 330, 331, 70, 332, 333, 334, 335, 336, 337, 338, 69, 339, 81, 82, 83, 340, 341, 342, 343, 344, 345, 346, 347, 348, 349, 350, 351, 352, 353, 354, 355, 356, 357, 358, 359, 360, 361, 362, 363, 364, 365, 366, 367, 368, 369, 370, 371, 372, 373, 374, 375, 376, 377, 378, 379, 173, 174, 175, 380, 381, 382, 383, 384, 385, 386, 387, 388, 389, 390, 391, 392, 393, 394, 395, 396, 397, 398, 399, 400, 401, 402, 403, 404, 405, 406, 572, 237, 238, 239, 240, 917, 918, 919, 920, 921, 922, 923, 974, 975, 976, 977, 978, 979, 980, 981, 972, 973, 961, 962, 963, 964, 965, 966, 967, 968, 969, 970, 971, 996, 997, 998] (by decide +kernel) (by decide +kernel)
set_option maxRecDepth 20000 in
theorem gL_law_X8_done : GoodIn wsL_law (wsV RL 66 RX8 yX8_done wsX8_done) := goodIn_app (goodIn_of _ (by decide +kernel)) ggL_law_X8_done
set_option maxRecDepth 20000 in
theorem ggL_law_X9_done : GoodIn wsL_law wsX9_done := goodIn_r _ [576, 232, 277, 415, 416, 417, 5, 418, 412, 419, 420, 421, 422, 423, 424, 425, 117, 118, 119, 120, 121, 122, 123, 124, 125, 426, 427, 428, 429, 133, 430, 431, 432, 433, 434, 274, 275, 276, 129, 278, 279, 280, 281, 282, 283, 284, 285, 286, 287, 288, 289, 290, 291, 131, 161, 162, 163, 292, 293, 294, 295, 130, 132, 296, 297, 298, 299, 300, 301, 302, 303, 435, 436, 437, 438, 413, 439, 440, 414, 441, 442, 443, 444, 445, 446, 447, 448, 449, 450, 451, 452, 205, 206, 207, 181, 453, 454, 455, 456, 457, 458, 459, 460, 461, 462, 463, 464, 465, 182, 183, 184, 185, 466, 467, 468, 469, 470, 471, 472, 473, 474, 475, 476, 477, 478, 479, 480, 481, 482, 483, 484, 139, 485, 486, 487, 488, 924, 925, 926, 927, 928, 929, 930, 931, 932, 933, 934, 935, 936, 937, 938, 939, 940, 941, 942, 943, 944, 945, 946, 947, 948, 949, 950, 951, 952, 953, 954, 955, 956, 957, 958, 959, 960] (by decide +kernel) (by decide +kernel)
set_option maxRecDepth 20000 in
theorem gL_law_X9_done : GoodIn wsL_law (wsV RL 69 RX9 yX9_done wsX9_done) := goodIn_app (goodIn_of _ (by decide +kernel)) ggL_law_X9_done
set_option maxRecDepth 20000 in
theorem ggL_law_X8_plan : GoodIn wsL_law wsX8_plan := goodIn_r _ [580, 27, 15, 193, 194, 2, 195, 149, 150, 151, 581, 582, 583, 26, 584, 585, 525, 526, 14, 527, 359, 360, 361, 362, 47, 586, 587, 588, 589, 87, 590, 591, 592, 593, 594, 595, 596, 597, 598, 389, 377, 390, 599, 600, 601, 602, 603, 604, 376, 378, 605, 534, 535, 536, 49, 606, 917, 918, 919, 920, 921, 922, 923, 961, 962, 963, 964, 965, 966, 967, 968, 969, 970, 971, 982] (by decide +kernel) (by decide +kernel)
set_option maxRecDepth 20000 in
theorem gL_law_X8_plan : GoodIn wsL_law (wsV RL 70 RX8 yX8_plan wsX8_plan) := goodIn_app (goodIn_of _ (by decide +kernel)) ggL_law_X8_plan
set_option maxRecDepth 20000 in
theorem ggL_law_X9_plan : GoodIn wsL_law wsX9_plan := goodIn_r _ [610, 201, 202, 5, 203, 204, 161, 162, 163, 611, 612, 613, 614, 134, 615, 616, 617, 545, 546, 547, 548, 119, 618, 619, 620, 621, 123, 125, 122, 622, 623, 624, 625, 139, 120, 626, 627, 628, 466, 467, 468, 629, 630, 631, 632, 121, 924, 925, 926, 927, 928, 929, 930, 931, 932, 933, 934, 935, 936, 937, 938, 939, 940, 941, 942, 943, 944, 945, 946, 947, 948, 949, 950, 951, 952, 953, 954, 955, 956, 957, 958, 959, 960] (by decide +kernel) (by decide +kernel)
set_option maxRecDepth 20000 in
theorem gL_law_X9_plan : GoodIn wsL_law (wsV RL 73 RX9 yX9_plan wsX9_plan) := goodIn_app (goodIn_of _ (by decide +kernel)) ggL_law_X9_plan
set_option maxRecDepth 20000 in
theorem ggL_law_X8_cover : GoodIn wsL_law wsX8_cover := goodIn_r _ [636, 149, 150, 2, 151, 637, 638, 639, 640, 15, 641, 396, 397, 398, 399, 400, 401, 642, 643, 644, 14, 645, 47, 359, 360, 361, 362, 646, 647, 648, 388, 389, 377, 390, 375, 376, 378, 917, 918, 919, 920, 921, 922, 923, 961, 962, 963, 964, 965, 966, 967, 968, 969, 970, 971] (by decide +kernel) (by decide +kernel)
set_option maxRecDepth 20000 in
theorem gL_law_X8_cover : GoodIn wsL_law (wsV RL 74 RX8 yX8_cover wsX8_cover) := goodIn_app (goodIn_of _ (by decide +kernel)) ggL_law_X8_cover
set_option maxRecDepth 20000 in
theorem ggL_law_X9_cover : GoodIn wsL_law wsX9_cover := goodIn_r _ [652, 181, 119, 161, 162, 5, 163, 653, 654, 655, 656, 657, 658, 615, 616, 617, 659, 660, 661, 626, 627, 628, 924, 925, 926, 927, 928, 929, 930, 931, 932, 933, 934, 935, 936, 937, 938, 939, 940, 941, 942, 943, 944, 945, 946, 947, 948, 949, 950, 951, 952, 953, 954, 955, 956, 957, 958, 959, 960] (by decide +kernel) (by decide +kernel)
set_option maxRecDepth 20000 in
theorem gL_law_X9_cover : GoodIn wsL_law (wsV RL 77 RX9 yX9_cover wsX9_cover) := goodIn_app (goodIn_of _ (by decide +kernel)) ggL_law_X9_cover
set_option maxRecDepth 20000 in
theorem ggL_law_X8_seen : GoodIn wsL_law wsX8_seen := goodIn_r _ [665, 31, 666, 149, 150, 2, 151, 667, 668, 669, 30, 670, 94, 91, 92, 93, 917, 918, 919, 920, 921, 922, 923, 983, 984, 985, 986] (by decide +kernel) (by decide +kernel)
set_option maxRecDepth 20000 in
theorem gL_law_X8_seen : GoodIn wsL_law (wsV RL 78 RX8 yX8_seen wsX8_seen) := goodIn_app (goodIn_of _ (by decide +kernel)) ggL_law_X8_seen
set_option maxRecDepth 20000 in
theorem ggL_law_X9_seen : GoodIn wsL_law wsX9_seen := goodIn_r _ [674, 675, 204, 676, 126, 127, 128, 161, 162, 5, 163, 924, 925, 926, 927, 928, 929, 930, 931, 932, 933, 934, 935, 936, 937, 938, 939, 940, 941, 942, 943, 944, 945, 946, 947, 948, 949, 950, 951, 952, 953, 954, 955, 956, 957, 958, 959, 960] (by decide +kernel) (by decide +kernel)
set_option maxRecDepth 20000 in
theorem gL_law_X9_seen : GoodIn wsL_law (wsV RL 81 RX9 yX9_seen wsX9_seen) := goodIn_app (goodIn_of _ (by decide +kernel)) ggL_law_X9_seen
set_option maxRecDepth 20000 in
theorem ggL_law_X8_forget : GoodIn wsL_law wsX8_forget := goodIn_r _ [680, 31, 666, 917, 918, 919, 920, 921, 922, 923, 983, 984, 985, 986] (by decide +kernel) (by decide +kernel)
set_option maxRecDepth 20000 in
theorem gL_law_X8_forget : GoodIn wsL_law (wsV RL 82 RX8 yX8_forget wsX8_forget) := goodIn_app (goodIn_of _ (by decide +kernel)) ggL_law_X8_forget
set_option maxRecDepth 20000 in
theorem ggL_law_X9_forget : GoodIn wsL_law wsX9_forget := goodIn_r _ [684, 676, 924, 925, 926, 927, 928, 929, 930, 931, 932, 933, 934, 935, 936, 937, 938, 939, 940, 941, 942, 943, 944, 945, 946, 947, 948, 949, 950, 951, 952, 953, 954, 955, 956, 957, 958, 959, 960] (by decide +kernel) (by decide +kernel)
set_option maxRecDepth 20000 in
theorem gL_law_X9_forget : GoodIn wsL_law (wsV RL 85 RX9 yX9_forget wsX9_forget) := goodIn_app (goodIn_of _ (by decide +kernel)) ggL_law_X9_forget
set_option maxRecDepth 20000 in
theorem ggL_law_X8_nets : GoodIn wsL_law wsX8_nets := goodIn_r _ [688, 35, 31, 689, 690, 691, 692, 34, 693, 101, 98, 694, 695, 696, 30, 697, 94, 91, 92, 93, 698, 699, 700, 701, 702, 703, 704, 396, 397, 398, 399, 400, 401, 705, 706, 707, 708, 917, 918, 919, 920, 921, 922, 923, 987, 988, 989, 990, 991, 992, 983, 984, 985, 986] (by decide +kernel) (by decide +kernel)
set_option maxRecDepth 20000 in
theorem gL_law_X8_nets : GoodIn wsL_law (wsV RL 86 RX8 yX8_nets wsX8_nets) := goodIn_app (goodIn_of _ (by decide +kernel)) ggL_law_X8_nets
set_option maxRecDepth 20000 in
theorem ggL_law_X9_nets : GoodIn wsL_law wsX9_nets := goodIn_r _ [712, 713, 714, 715, 5, 716, 676, 126, 127, 128, 717, 718, 719, 720, 721, 722, 615, 616, 617, 723, 724, 725, 924, 925, 926, 927, 928, 929, 930, 931, 932, 933, 934, 935, 936, 937, 938, 939, 940, 941, 942, 943, 944, 945, 946, 947, 948, 949, 950, 951, 952, 953, 954, 955, 956, 957, 958, 959, 960] (by decide +kernel) (by decide +kernel)
set_option maxRecDepth 20000 in
theorem gL_law_X9_nets : GoodIn wsL_law (wsV RL 89 RX9 yX9_nets wsX9_nets) := goodIn_app (goodIn_of _ (by decide +kernel)) ggL_law_X9_nets
set_option maxRecDepth 20000 in
theorem ggL_law_X8_ask : GoodIn wsL_law wsX8_ask := goodIn_r _ [729, 35, 31, 689, 730, 731, 149, 150, 2, 151, 690, 691, 692, 34, 693, 101, 98, 694, 695, 696, 30, 697, 94, 91, 92, 93, 698, 699, 700, 701, 702, 703, 704, 396, 397, 398, 399, 400, 401, 732, 733, 734, 735, 102, 103, 736, 737, 738, 739, 99, 740, 741, 742, 743, 744, 100, 745, 389, 377, 390, 746, 917, 918, 919, 920, 921, 922, 923, 987, 988, 989, 990, 991, 992, 983, 984, 985, 986] (by decide +kernel) (by decide +kernel)
set_option maxRecDepth 20000 in
theorem gL_law_X8_ask : GoodIn wsL_law (wsV RL 90 RX8 yX8_ask wsX8_ask) := goodIn_app (goodIn_of _ (by decide +kernel)) ggL_law_X8_ask
set_option maxRecDepth 20000 in
theorem ggL_law_X9_ask : GoodIn wsL_law wsX9_ask := goodIn_r _ [750, 161, 162, 5, 163, 751, 752, 753, 754, 135, 720, 721, 722, 615, 616, 617, 717, 718, 719, 713, 714, 715, 716, 676, 126, 127, 128, 466, 467, 468, 924, 925, 926, 927, 928, 929, 930, 931, 932, 933, 934, 935, 936, 937, 938, 939, 940, 941, 942, 943, 944, 945, 946, 947, 948, 949, 950, 951, 952, 953, 954, 955, 956, 957, 958, 959, 960] (by decide +kernel) (by decide +kernel)
set_option maxRecDepth 20000 in
theorem gL_law_X9_ask : GoodIn wsL_law (wsV RL 93 RX9 yX9_ask wsX9_ask) := goodIn_app (goodIn_of _ (by decide +kernel)) ggL_law_X9_ask
set_option maxRecDepth 20000 in
theorem ggL_law_X8_roots : GoodIn wsL_law wsX8_roots := goodIn_r _ [758, 149, 150, 2, 151, 759, 760, 761] (by decide +kernel) (by decide +kernel)
set_option maxRecDepth 20000 in
theorem gL_law_X8_roots : GoodIn wsL_law (wsV RL 94 RX8 yX8_roots wsX8_roots) := goodIn_app (goodIn_of _ (by decide +kernel)) ggL_law_X8_roots
set_option maxRecDepth 20000 in
theorem ggL_law_X9_roots : GoodIn wsL_law wsX9_roots := goodIn_r _ [765, 766, 136, 161, 162, 5, 163, 767, 768, 769, 770, 924, 925, 926, 927, 928, 929, 930, 931, 932, 933, 934, 935, 936, 937, 938, 939, 940, 941, 942, 943, 944, 945, 946, 947, 948, 949, 950, 951, 952, 953, 954, 955, 956, 957, 958, 959, 960] (by decide +kernel) (by decide +kernel)
set_option maxRecDepth 20000 in
theorem gL_law_X9_roots : GoodIn wsL_law (wsV RL 97 RX9 yX9_roots wsX9_roots) := goodIn_app (goodIn_of _ (by decide +kernel)) ggL_law_X9_roots
set_option maxRecDepth 20000 in
theorem ggL_law_X8_thought : GoodIn wsL_law wsX8_thought := goodIn_r _ [774, 775, 776, 777, 377, 778, 149, 150, 2, 151, 779, 780, 781, 782, 783, 784, 785, 786, 787, 788, 789, 790] (by decide +kernel) (by decide +kernel)
set_option maxRecDepth 20000 in
theorem gL_law_X8_thought : GoodIn wsL_law (wsV RL 98 RX8 yX8_thought wsX8_thought) := goodIn_app (goodIn_of _ (by decide +kernel)) ggL_law_X8_thought
set_option maxRecDepth 20000 in
theorem ggL_law_X9_thought : GoodIn wsL_law wsX9_thought := goodIn_r _ [794, 411, 795, 796, 161, 162, 5, 163, 797, 798, 799, 800, 801, 802, 803, 804, 805, 806, 807, 808] (by decide +kernel) (by decide +kernel)
set_option maxRecDepth 20000 in
theorem gL_law_X9_thought : GoodIn wsL_law (wsV RL 102 RX9 yX9_thought wsX9_thought) := goodIn_app (goodIn_of _ (by decide +kernel)) ggL_law_X9_thought
set_option maxRecDepth 20000 in
theorem ggL_law_X8_storm : GoodIn wsL_law wsX8_storm := goodIn_r _ [812, 23, 15, 493, 310, 149, 150, 2, 151, 315, 316, 317, 22, 318, 66, 71, 72, 73, 74, 75, 76, 319, 320, 321, 14, 322, 45, 323, 324, 325, 326, 46, 47, 48, 49, 50, 51, 52, 54, 55, 56, 813, 814, 815, 816, 817, 70, 818, 819, 820, 69, 821, 822, 337, 338, 339, 81, 82, 83, 340, 341, 342, 343, 344, 345, 346, 347, 147, 148, 170, 171, 194, 195, 348, 349, 350, 351, 352, 353, 354, 355, 356, 357, 358, 359, 360, 361, 362, 363, 364, 365, 366, 367, 368, 369, 370, 371, 372, 373, 374, 375, 376, 377, 378, 379, 173, 174, 175, 380, 381, 382, 383, 384, 385, 386, 387, 388, 389, 390, 391, 392, 393, 394, 395, 396, 397, 398, 399, 400, 401, 402, 403, 404, 405, 524, 525, 526, 527, 823, 824, 825, 826, 917, 918, 919, 920, 921, 922, 923, 974, 975, 976, 977, 978, 979, 980, 981, 961, 962, 963, 964, 965, 966, 967, 968, 969, 970, 971, 996, 997, 998] (by decide +kernel) (by decide +kernel)
set_option maxRecDepth 20000 in
theorem gL_law_X8_storm : GoodIn wsL_law (wsV RL 103 RX8 yX8_storm wsX8_storm) := goodIn_app (goodIn_of _ (by decide +kernel)) ggL_law_X8_storm
set_option maxRecDepth 20000 in
theorem ggL_law_X9_storm : GoodIn wsL_law wsX9_storm := goodIn_r _ [830, 831, 156, 411, 414, 832, 833, 834, 161, 162, 5, 163, 419, 420, 421, 422, 423, 424, 425, 117, 118, 119, 120, 121, 122, 123, 124, 125, 426, 427, 428, 429, 133, 430, 431, 432, 433, 835, 836, 837, 838, 441, 442, 443, 444, 445, 446, 447, 448, 449, 450, 451, 452, 205, 206, 207, 181, 458, 459, 460, 461, 457, 462, 463, 464, 465, 182, 183, 184, 185, 466, 467, 468, 469, 470, 471, 472, 473, 474, 475, 476, 477, 478, 479, 480, 481, 482, 483, 484, 139, 545, 546, 547, 548, 839, 840, 841, 842, 485, 486, 487, 488, 924, 925, 926, 927, 928, 929, 930, 931, 932, 933, 934, 935, 936, 937, 938, 939, 940, 941, 942, 943, 944, 945, 946, 947, 948, 949, 950, 951, 952, 953, 954, 955, 956, 957, 958, 959, 960] (by decide +kernel) (by decide +kernel)
set_option maxRecDepth 20000 in
theorem gL_law_X9_storm : GoodIn wsL_law (wsV RL 106 RX9 yX9_storm wsX9_storm) := goodIn_app (goodIn_of _ (by decide +kernel)) ggL_law_X9_storm
set_option maxRecDepth 20000 in
theorem ggL_law_X8_image : GoodIn wsL_law wsX8_image := goodIn_r _ [846, 37, 847, 15, 848, 31, 849, 149, 150, 2, 151, 572, 320, 321, 14, 322, 45, 323, 324, 325, 326, 46, 47, 48, 49, 50, 51, 52, 54, 55, 56, 850, 851, 852, 30, 853, 91, 854, 92, 93, 94, 917, 918, 919, 920, 921, 922, 923, 993, 994, 995, 961, 962, 963, 964, 965, 966, 967, 968, 969, 970, 971, 983, 984, 985, 986] (by decide +kernel) (by decide +kernel)
set_option maxRecDepth 20000 in
theorem gL_law_X8_image : GoodIn wsL_law (wsV RL 107 RX8 yX8_image wsX8_image) := goodIn_app (goodIn_of _ (by decide +kernel)) ggL_law_X8_image
set_option maxRecDepth 20000 in
theorem ggL_law_X9_image : GoodIn wsL_law wsX9_image := goodIn_r _ [858, 859, 860, 138, 161, 162, 5, 163, 861, 862, 863, 864, 139, 425, 676, 117, 118, 119, 120, 121, 122, 123, 124, 125, 126, 127, 128, 865, 866, 867, 868, 137, 869, 870, 871, 872, 924, 925, 926, 927, 928, 929, 930, 931, 932, 933, 934, 935, 936, 937, 938, 939, 940, 941, 942, 943, 944, 945, 946, 947, 948, 949, 950, 951, 952, 953, 954, 955, 956, 957, 958, 959, 960] (by decide +kernel) (by decide +kernel)
set_option maxRecDepth 20000 in
theorem gL_law_X9_image : GoodIn wsL_law (wsV RL 110 RX9 yX9_image wsX9_image) := goodIn_app (goodIn_of _ (by decide +kernel)) ggL_law_X9_image
set_option maxRecDepth 20000 in
theorem ggL_law_X8_restore : GoodIn wsL_law wsX8_restore := goodIn_r _ [876, 37, 849, 15, 847, 31, 848, 149, 150, 2, 151, 572, 320, 321, 14, 322, 45, 323, 324, 325, 326, 46, 47, 48, 49, 50, 51, 52, 54, 55, 56, 850, 851, 852, 30, 853, 91, 854, 92, 93, 94, 917, 918, 919, 920, 921, 922, 923, 993, 994, 995, 961, 962, 963, 964, 965, 966, 967, 968, 969, 970, 971, 983, 984, 985, 986] (by decide +kernel) (by decide +kernel)
set_option maxRecDepth 20000 in
theorem gL_law_X8_restore : GoodIn wsL_law (wsV RL 111 RX8 yX8_restore wsX8_restore) := goodIn_app (goodIn_of _ (by decide +kernel)) ggL_law_X8_restore
set_option maxRecDepth 20000 in
theorem ggL_law_X9_restore : GoodIn wsL_law wsX9_restore := goodIn_r _ [880, 138, 859, 860, 161, 162, 5, 163, 861, 862, 863, 864, 139, 425, 676, 117, 118, 119, 120, 121, 122, 123, 124, 125, 126, 127, 128, 865, 866, 867, 868, 137, 869, 870, 871, 872, 924, 925, 926, 927, 928, 929, 930, 931, 932, 933, 934, 935, 936, 937, 938, 939, 940, 941, 942, 943, 944, 945, 946, 947, 948, 949, 950, 951, 952, 953, 954, 955, 956, 957, 958, 959, 960] (by decide +kernel) (by decide +kernel)
set_option maxRecDepth 20000 in
theorem gL_law_X9_restore : GoodIn wsL_law (wsV RL 114 RX9 yX9_restore wsX9_restore) := goodIn_app (goodIn_of _ (by decide +kernel)) ggL_law_X9_restore
set_option maxRecDepth 20000 in
theorem ggL_law_X8_told : GoodIn wsL_law wsX8_told := goodIn_r _ [884, 15, 149, 150, 2, 151, 885, 886, 887, 888, 19, 221, 523, 212, 31, 666, 524, 525, 526, 14, 527, 359, 360, 361, 362, 47, 889, 890, 891, 892, 363, 364, 365, 366, 51, 54, 146, 147, 148, 494, 495, 496, 497, 45, 46, 48, 49, 193, 194, 195, 511, 512, 513, 514, 50, 52, 917, 918, 919, 920, 921, 922, 923, 972, 973, 961, 962, 963, 964, 965, 966, 967, 968, 969, 970, 971, 983, 984, 985, 986] (by decide +kernel) (by decide +kernel)
set_option maxRecDepth 20000 in
theorem gL_law_X8_told : GoodIn wsL_law (wsV RL 115 RX8 yX8_told wsX8_told) := goodIn_app (goodIn_of _ (by decide +kernel)) ggL_law_X8_told
set_option maxRecDepth 20000 in
theorem ggL_law_X9_told : GoodIn wsL_law wsX9_told := goodIn_r _ [896, 897, 898, 899, 900, 161, 162, 5, 163, 901, 902, 903, 904, 157, 158, 159, 160, 503, 504, 505, 506, 117, 118, 119, 120, 121, 905, 906, 907, 908, 122, 123, 124, 201, 202, 203, 204, 909, 910, 911, 912, 232, 425, 139, 676, 545, 546, 547, 548, 913, 914, 915, 916, 449, 450, 451, 452, 125, 924, 925, 926, 927, 928, 929, 930, 931, 932, 933, 934, 935, 936, 937, 938, 939, 940, 941, 942, 943, 944, 945, 946, 947, 948, 949, 950, 951, 952, 953, 954, 955, 956, 957, 958, 959, 960] (by decide +kernel) (by decide +kernel)
set_option maxRecDepth 20000 in
theorem gL_law_X9_told : GoodIn wsL_law (wsV RL 118 RX9 yX9_told wsX9_told) := goodIn_app (goodIn_of _ (by decide +kernel)) ggL_law_X9_told
theorem dL_law_0 : decode cL_law 0 = .ok (.new 7, 3) := by decide +kernel
theorem dL_law_3 : decode cL_law 3 = .ok (.dup, 1) := by decide +kernel
theorem dL_law_4 : decode cL_law 4 = .ok (.invokespecial 9, 3) := by decide +kernel
theorem dL_law_7 : decode cL_law 7 = .ok (.astore_n 1, 1) := by decide +kernel
theorem dL_law_8 : decode cL_law 8 = .ok (.new 10, 3) := by decide +kernel
theorem dL_law_11 : decode cL_law 11 = .ok (.dup, 1) := by decide +kernel
theorem dL_law_12 : decode cL_law 12 = .ok (.invokespecial 12, 3) := by decide +kernel
theorem dL_law_15 : decode cL_law 15 = .ok (.astore_n 2, 1) := by decide +kernel
theorem dL_law_16 : decode cL_law 16 = .ok (.iconst 0, 1) := by decide +kernel
theorem dL_law_17 : decode cL_law 17 = .ok (.istore_n 3, 1) := by decide +kernel
theorem dL_law_18 : decode cL_law 18 = .ok (.iload_n 3, 1) := by decide +kernel
theorem dL_law_19 : decode cL_law 19 = .ok (.aload_n 0, 1) := by decide +kernel
theorem dL_law_20 : decode cL_law 20 = .ok (.arraylength, 1) := by decide +kernel
theorem dL_law_21 : decode cL_law 21 = .ok (.iconst 5, 1) := by decide +kernel
theorem dL_law_22 : decode cL_law 22 = .ok (.isub, 1) := by decide +kernel
theorem dL_law_23 : decode cL_law 23 = .ok (.if_icmp .gt 857, 3) := by decide +kernel
theorem dL_law_26 : decode cL_law 26 = .ok (.aload_n 0, 1) := by decide +kernel
theorem dL_law_27 : decode cL_law 27 = .ok (.iload_n 3, 1) := by decide +kernel
theorem dL_law_28 : decode cL_law 28 = .ok (.iaload, 1) := by decide +kernel
theorem dL_law_29 : decode cL_law 29 = .ok (.bipush 31, 2) := by decide +kernel
theorem dL_law_31 : decode cL_law 31 = .ok (.iand, 1) := by decide +kernel
theorem dL_law_32 : decode cL_law 32 = .ok (.tableswitch 842 0 24 #[116, 159, 212, 255, 278, 301, 314, 327, 350, 383, 416, 439, 462, 475, 508, 541, 584, 597, 620, 643, 676, 730, 773, 796, 819], 116) := by decide +kernel
theorem dL_law_148 : decode cL_law 148 = .ok (.aload_n 1, 1) := by decide +kernel
theorem dL_law_149 : decode cL_law 149 = .ok (.aload_n 0, 1) := by decide +kernel
theorem dL_law_150 : decode cL_law 150 = .ok (.iload_n 3, 1) := by decide +kernel
theorem dL_law_151 : decode cL_law 151 = .ok (.iconst 1, 1) := by decide +kernel
theorem dL_law_152 : decode cL_law 152 = .ok (.iadd, 1) := by decide +kernel
theorem dL_law_153 : decode cL_law 153 = .ok (.iaload, 1) := by decide +kernel
theorem dL_law_154 : decode cL_law 154 = .ok (.aload_n 0, 1) := by decide +kernel
theorem dL_law_155 : decode cL_law 155 = .ok (.iload_n 3, 1) := by decide +kernel
theorem dL_law_156 : decode cL_law 156 = .ok (.iconst 2, 1) := by decide +kernel
theorem dL_law_157 : decode cL_law 157 = .ok (.iadd, 1) := by decide +kernel
theorem dL_law_158 : decode cL_law 158 = .ok (.iaload, 1) := by decide +kernel
theorem dL_law_159 : decode cL_law 159 = .ok (.aload_n 0, 1) := by decide +kernel
theorem dL_law_160 : decode cL_law 160 = .ok (.iload_n 3, 1) := by decide +kernel
theorem dL_law_161 : decode cL_law 161 = .ok (.iconst 3, 1) := by decide +kernel
theorem dL_law_162 : decode cL_law 162 = .ok (.iadd, 1) := by decide +kernel
theorem dL_law_163 : decode cL_law 163 = .ok (.iaload, 1) := by decide +kernel
theorem dL_law_164 : decode cL_law 164 = .ok (.invokevirtual 13, 3) := by decide +kernel
theorem dL_law_167 : decode cL_law 167 = .ok (.aload_n 2, 1) := by decide +kernel
theorem dL_law_168 : decode cL_law 168 = .ok (.aload_n 0, 1) := by decide +kernel
theorem dL_law_169 : decode cL_law 169 = .ok (.iload_n 3, 1) := by decide +kernel
theorem dL_law_170 : decode cL_law 170 = .ok (.iconst 1, 1) := by decide +kernel
theorem dL_law_171 : decode cL_law 171 = .ok (.iadd, 1) := by decide +kernel
theorem dL_law_172 : decode cL_law 172 = .ok (.iaload, 1) := by decide +kernel
theorem dL_law_173 : decode cL_law 173 = .ok (.aload_n 0, 1) := by decide +kernel
theorem dL_law_174 : decode cL_law 174 = .ok (.iload_n 3, 1) := by decide +kernel
theorem dL_law_175 : decode cL_law 175 = .ok (.iconst 2, 1) := by decide +kernel
theorem dL_law_176 : decode cL_law 176 = .ok (.iadd, 1) := by decide +kernel
theorem dL_law_177 : decode cL_law 177 = .ok (.iaload, 1) := by decide +kernel
theorem dL_law_178 : decode cL_law 178 = .ok (.aload_n 0, 1) := by decide +kernel
theorem dL_law_179 : decode cL_law 179 = .ok (.iload_n 3, 1) := by decide +kernel
theorem dL_law_180 : decode cL_law 180 = .ok (.iconst 3, 1) := by decide +kernel
theorem dL_law_181 : decode cL_law 181 = .ok (.iadd, 1) := by decide +kernel
theorem dL_law_182 : decode cL_law 182 = .ok (.iaload, 1) := by decide +kernel
theorem dL_law_183 : decode cL_law 183 = .ok (.invokevirtual 17, 3) := by decide +kernel
theorem dL_law_186 : decode cL_law 186 = .ok (.if_icmp .eq 688, 3) := by decide +kernel
theorem dL_law_189 : decode cL_law 189 = .ok (.iconst 0, 1) := by decide +kernel
theorem dL_law_190 : decode cL_law 190 = .ok (.ireturn, 1) := by decide +kernel
theorem dL_law_191 : decode cL_law 191 = .ok (.aload_n 1, 1) := by decide +kernel
theorem dL_law_192 : decode cL_law 192 = .ok (.aload_n 0, 1) := by decide +kernel
theorem dL_law_193 : decode cL_law 193 = .ok (.iload_n 3, 1) := by decide +kernel
theorem dL_law_194 : decode cL_law 194 = .ok (.iconst 1, 1) := by decide +kernel
theorem dL_law_195 : decode cL_law 195 = .ok (.iadd, 1) := by decide +kernel
theorem dL_law_196 : decode cL_law 196 = .ok (.iaload, 1) := by decide +kernel
theorem dL_law_197 : decode cL_law 197 = .ok (.aload_n 0, 1) := by decide +kernel
theorem dL_law_198 : decode cL_law 198 = .ok (.iload_n 3, 1) := by decide +kernel
theorem dL_law_199 : decode cL_law 199 = .ok (.iconst 2, 1) := by decide +kernel
theorem dL_law_200 : decode cL_law 200 = .ok (.iadd, 1) := by decide +kernel
theorem dL_law_201 : decode cL_law 201 = .ok (.iaload, 1) := by decide +kernel
theorem dL_law_202 : decode cL_law 202 = .ok (.aload_n 0, 1) := by decide +kernel
theorem dL_law_203 : decode cL_law 203 = .ok (.iload_n 3, 1) := by decide +kernel
theorem dL_law_204 : decode cL_law 204 = .ok (.iconst 3, 1) := by decide +kernel
theorem dL_law_205 : decode cL_law 205 = .ok (.iadd, 1) := by decide +kernel
theorem dL_law_206 : decode cL_law 206 = .ok (.iaload, 1) := by decide +kernel
theorem dL_law_207 : decode cL_law 207 = .ok (.aload_n 0, 1) := by decide +kernel
theorem dL_law_208 : decode cL_law 208 = .ok (.iload_n 3, 1) := by decide +kernel
theorem dL_law_209 : decode cL_law 209 = .ok (.iconst 4, 1) := by decide +kernel
theorem dL_law_210 : decode cL_law 210 = .ok (.iadd, 1) := by decide +kernel
theorem dL_law_211 : decode cL_law 211 = .ok (.iaload, 1) := by decide +kernel
theorem dL_law_212 : decode cL_law 212 = .ok (.invokevirtual 18, 3) := by decide +kernel
theorem dL_law_215 : decode cL_law 215 = .ok (.aload_n 2, 1) := by decide +kernel
theorem dL_law_216 : decode cL_law 216 = .ok (.aload_n 0, 1) := by decide +kernel
theorem dL_law_217 : decode cL_law 217 = .ok (.iload_n 3, 1) := by decide +kernel
theorem dL_law_218 : decode cL_law 218 = .ok (.iconst 1, 1) := by decide +kernel
theorem dL_law_219 : decode cL_law 219 = .ok (.iadd, 1) := by decide +kernel
theorem dL_law_220 : decode cL_law 220 = .ok (.iaload, 1) := by decide +kernel
theorem dL_law_221 : decode cL_law 221 = .ok (.aload_n 0, 1) := by decide +kernel
theorem dL_law_222 : decode cL_law 222 = .ok (.iload_n 3, 1) := by decide +kernel
theorem dL_law_223 : decode cL_law 223 = .ok (.iconst 2, 1) := by decide +kernel
theorem dL_law_224 : decode cL_law 224 = .ok (.iadd, 1) := by decide +kernel
theorem dL_law_225 : decode cL_law 225 = .ok (.iaload, 1) := by decide +kernel
theorem dL_law_226 : decode cL_law 226 = .ok (.aload_n 0, 1) := by decide +kernel
theorem dL_law_227 : decode cL_law 227 = .ok (.iload_n 3, 1) := by decide +kernel
theorem dL_law_228 : decode cL_law 228 = .ok (.iconst 3, 1) := by decide +kernel
theorem dL_law_229 : decode cL_law 229 = .ok (.iadd, 1) := by decide +kernel
theorem dL_law_230 : decode cL_law 230 = .ok (.iaload, 1) := by decide +kernel
theorem dL_law_231 : decode cL_law 231 = .ok (.aload_n 0, 1) := by decide +kernel
theorem dL_law_232 : decode cL_law 232 = .ok (.iload_n 3, 1) := by decide +kernel
theorem dL_law_233 : decode cL_law 233 = .ok (.iconst 4, 1) := by decide +kernel
theorem dL_law_234 : decode cL_law 234 = .ok (.iadd, 1) := by decide +kernel
theorem dL_law_235 : decode cL_law 235 = .ok (.iaload, 1) := by decide +kernel
theorem dL_law_236 : decode cL_law 236 = .ok (.invokevirtual 22, 3) := by decide +kernel
theorem dL_law_239 : decode cL_law 239 = .ok (.if_icmp .eq 635, 3) := by decide +kernel
theorem dL_law_242 : decode cL_law 242 = .ok (.iconst 0, 1) := by decide +kernel
theorem dL_law_243 : decode cL_law 243 = .ok (.ireturn, 1) := by decide +kernel
theorem dL_law_244 : decode cL_law 244 = .ok (.aload_n 1, 1) := by decide +kernel
theorem dL_law_245 : decode cL_law 245 = .ok (.aload_n 0, 1) := by decide +kernel
theorem dL_law_246 : decode cL_law 246 = .ok (.iload_n 3, 1) := by decide +kernel
theorem dL_law_247 : decode cL_law 247 = .ok (.iconst 1, 1) := by decide +kernel
theorem dL_law_248 : decode cL_law 248 = .ok (.iadd, 1) := by decide +kernel
theorem dL_law_249 : decode cL_law 249 = .ok (.iaload, 1) := by decide +kernel
theorem dL_law_250 : decode cL_law 250 = .ok (.aload_n 0, 1) := by decide +kernel
theorem dL_law_251 : decode cL_law 251 = .ok (.iload_n 3, 1) := by decide +kernel
theorem dL_law_252 : decode cL_law 252 = .ok (.iconst 2, 1) := by decide +kernel
theorem dL_law_253 : decode cL_law 253 = .ok (.iadd, 1) := by decide +kernel
theorem dL_law_254 : decode cL_law 254 = .ok (.iaload, 1) := by decide +kernel
theorem dL_law_255 : decode cL_law 255 = .ok (.aload_n 0, 1) := by decide +kernel
theorem dL_law_256 : decode cL_law 256 = .ok (.iload_n 3, 1) := by decide +kernel
theorem dL_law_257 : decode cL_law 257 = .ok (.iconst 3, 1) := by decide +kernel
theorem dL_law_258 : decode cL_law 258 = .ok (.iadd, 1) := by decide +kernel
theorem dL_law_259 : decode cL_law 259 = .ok (.iaload, 1) := by decide +kernel
theorem dL_law_260 : decode cL_law 260 = .ok (.invokevirtual 23, 3) := by decide +kernel
theorem dL_law_263 : decode cL_law 263 = .ok (.aload_n 2, 1) := by decide +kernel
theorem dL_law_264 : decode cL_law 264 = .ok (.aload_n 0, 1) := by decide +kernel
theorem dL_law_265 : decode cL_law 265 = .ok (.iload_n 3, 1) := by decide +kernel
theorem dL_law_266 : decode cL_law 266 = .ok (.iconst 1, 1) := by decide +kernel
theorem dL_law_267 : decode cL_law 267 = .ok (.iadd, 1) := by decide +kernel
theorem dL_law_268 : decode cL_law 268 = .ok (.iaload, 1) := by decide +kernel
theorem dL_law_269 : decode cL_law 269 = .ok (.aload_n 0, 1) := by decide +kernel
theorem dL_law_270 : decode cL_law 270 = .ok (.iload_n 3, 1) := by decide +kernel
theorem dL_law_271 : decode cL_law 271 = .ok (.iconst 2, 1) := by decide +kernel
theorem dL_law_272 : decode cL_law 272 = .ok (.iadd, 1) := by decide +kernel
theorem dL_law_273 : decode cL_law 273 = .ok (.iaload, 1) := by decide +kernel
theorem dL_law_274 : decode cL_law 274 = .ok (.aload_n 0, 1) := by decide +kernel
theorem dL_law_275 : decode cL_law 275 = .ok (.iload_n 3, 1) := by decide +kernel
theorem dL_law_276 : decode cL_law 276 = .ok (.iconst 3, 1) := by decide +kernel
theorem dL_law_277 : decode cL_law 277 = .ok (.iadd, 1) := by decide +kernel
theorem dL_law_278 : decode cL_law 278 = .ok (.iaload, 1) := by decide +kernel
theorem dL_law_279 : decode cL_law 279 = .ok (.invokevirtual 26, 3) := by decide +kernel
theorem dL_law_282 : decode cL_law 282 = .ok (.if_icmp .eq 592, 3) := by decide +kernel
theorem dL_law_285 : decode cL_law 285 = .ok (.iconst 0, 1) := by decide +kernel
