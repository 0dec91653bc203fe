set_option maxRecDepth 20000 in
theorem ggL_law_X9_storm : GoodIn wsL_law wsX9_storm := goodIn_r _ [830, 831, 156, 411, 414, 832, 833, 834, 161, 162, 5, 163, 419, 420, 421, 422, 423, 424, 425, 117, 118, 119, 120, 121, 122, 123, 124, 125, 426, 427, 428, 429, 133, 430, 431, 432, 433, 835, 836, 837, 838, 441, 442, 443, 444, 445, 446, 447, 448, 449, 450, 451, 452, 205, 206, 207, 181, 458, 459, 460, 461, 457, 462, 463, 464, 465, 182, 183, 184, 185, 466, 467, 468, 469, 470, 471, 472, 473, 474, 475, 476, 477, 478, 479, 480, 481, 482, 483, 484, 139, 545, 546, 547, 548, 839, 840, 841, 842, 485, 486, 487, 488, 924, 925, 926, 927, 928, 929, 930, 931, 932, 933, 934, 935, 936, 937, 938, 939, 940, 941, 942, 943, 944, 945, 946, 947, 948, 949, 950, 951, 952, 953, 954, 955, 956, 957, 958, 959, 960] (by decide +kernel) (by decide +kernel)
set_option maxRecDepth 20000 in
theorem gL_law_X9_storm : GoodIn wsL_law (wsV RL 106 RX9 yX9_storm wsX9_storm) := goodIn_app (goodIn_r _ [827, 828, 829, 5] (by decide +kernel) (by decide +kernel)) ggL_law_X9_storm
set_option maxRecDepth 20000 in
theorem ggL_law_X8_image : GoodIn wsL_law wsX8_image := goodIn_r _ [846, 37, 847, 15, 848, 31, 849, 149, 150, 2, 151, 572, 320, 321, 14, 322, 45, 323, 324, 325, 326, 46, 47, 48, 49, 50, 51, 52, 54, 55, 56, 850, 851, 852, 30, 853, 91, 854, 92, 93, 94, 917, 918, 919, 920, 921, 922, 923, 993, 994, 995, 961, 962, 963, 964, 965, 966, 967, 968, 969, 970, 971, 983, 984, 985, 986] (by decide +kernel) (by decide +kernel)
set_option maxRecDepth 20000 in
theorem gL_law_X8_image : GoodIn wsL_law (wsV RL 107 RX8 yX8_image wsX8_image) := goodIn_app (goodIn_r _ [843, 844, 845, 2] (by decide +kernel) (by decide +kernel)) ggL_law_X8_image
set_option maxRecDepth 20000 in
theorem ggL_law_X9_image : GoodIn wsL_law wsX9_image := goodIn_r _ [858, 859, 860, 138, 161, 162, 5, 163, 861, 862, 863, 864, 139, 425, 676, 117, 118, 119, 120, 121, 122, 123, 124, 125, 126, 127, 128, 865, 866, 867, 868, 137, 869, 870, 871, 872, 924, 925, 926, 927, 928, 929, 930, 931, 932, 933, 934, 935, 936, 937, 938, 939, 940, 941, 942, 943, 944, 945, 946, 947, 948, 949, 950, 951, 952, 953, 954, 955, 956, 957, 958, 959, 960] (by decide +kernel) (by decide +kernel)
set_option maxRecDepth 20000 in
theorem gL_law_X9_image : GoodIn wsL_law (wsV RL 110 RX9 yX9_image wsX9_image) := goodIn_app (goodIn_r _ [855, 856, 857, 5] (by decide +kernel) (by decide +kernel)) ggL_law_X9_image
set_option maxRecDepth 20000 in
theorem ggL_law_X8_restore : GoodIn wsL_law wsX8_restore := goodIn_r _ [876, 37, 849, 15, 847, 31, 848, 149, 150, 2, 151, 572, 320, 321, 14, 322, 45, 323, 324, 325, 326, 46, 47, 48, 49, 50, 51, 52, 54, 55, 56, 850, 851, 852, 30, 853, 91, 854, 92, 93, 94, 917, 918, 919, 920, 921, 922, 923, 993, 994, 995, 961, 962, 963, 964, 965, 966, 967, 968, 969, 970, 971, 983, 984, 985, 986] (by decide +kernel) (by decide +kernel)
set_option maxRecDepth 20000 in
theorem gL_law_X8_restore : GoodIn wsL_law (wsV RL 111 RX8 yX8_restore wsX8_restore) := goodIn_app (goodIn_r _ [873, 874, 875, 2] (by decide +kernel) (by decide +kernel)) ggL_law_X8_restore
set_option maxRecDepth 20000 in
theorem ggL_law_X9_restore : GoodIn wsL_law wsX9_restore := goodIn_r _ [880, 138, 859, 860, 161, 162, 5, 163, 861, 862, 863, 864, 139, 425, 676, 117, 118, 119, 120, 121, 122, 123, 124, 125, 126, 127, 128, 865, 866, 867, 868, 137, 869, 870, 871, 872, 924, 925, 926, 927, 928, 929, 930, 931, 932, 933, 934, 935, 936, 937, 938, 939, 940, 941, 942, 943, 944, 945, 946, 947, 948, 949, 950, 951, 952, 953, 954, 955, 956, 957, 958, 959, 960] (by decide +kernel) (by decide +kernel)
set_option maxRecDepth 20000 in
theorem gL_law_X9_restore : GoodIn wsL_law (wsV RL 114 RX9 yX9_restore wsX9_restore) := goodIn_app (goodIn_r _ [877, 878, 879, 5] (by decide +kernel) (by decide +kernel)) ggL_law_X9_restore
set_option maxRecDepth 20000 in
theorem ggL_law_X8_told : GoodIn wsL_law wsX8_told := goodIn_r _ [884, 15, 149, 150, 2, 151, 885, 886, 887, 888, 19, 221, 523, 212, 31, 666, 524, 525, 526, 14, 527, 359, 360, 361, 362, 47, 889, 890, 891, 892, 363, 364, 365, 366, 51, 54, 146, 147, 148, 494, 495, 496, 497, 45, 46, 48, 49, 193, 194, 195, 511, 512, 513, 514, 50, 52, 917, 918, 919, 920, 921, 922, 923, 972, 973, 961, 962, 963, 964, 965, 966, 967, 968, 969, 970, 971, 983, 984, 985, 986] (by decide +kernel) (by decide +kernel)
set_option maxRecDepth 20000 in
theorem gL_law_X8_told : GoodIn wsL_law (wsV RL 115 RX8 yX8_told wsX8_told) := goodIn_app (goodIn_r _ [881, 882, 883, 2] (by decide +kernel) (by decide +kernel)) ggL_law_X8_told
set_option maxRecDepth 20000 in
theorem ggL_law_X9_told : GoodIn wsL_law wsX9_told := goodIn_r _ [896, 897, 898, 899, 900, 161, 162, 5, 163, 901, 902, 903, 904, 157, 158, 159, 160, 503, 504, 505, 506, 117, 118, 119, 120, 121, 905, 906, 907, 908, 122, 123, 124, 201, 202, 203, 204, 909, 910, 911, 912, 232, 425, 139, 676, 545, 546, 547, 548, 913, 914, 915, 916, 449, 450, 451, 452, 125, 924, 925, 926, 927, 928, 929, 930, 931, 932, 933, 934, 935, 936, 937, 938, 939, 940, 941, 942, 943, 944, 945, 946, 947, 948, 949, 950, 951, 952, 953, 954, 955, 956, 957, 958, 959, 960] (by decide +kernel) (by decide +kernel)
set_option maxRecDepth 20000 in
theorem gL_law_X9_told : GoodIn wsL_law (wsV RL 118 RX9 yX9_told wsX9_told) := goodIn_app (goodIn_r _ [893, 894, 895, 5] (by decide +kernel) (by decide +kernel)) ggL_law_X9_told
theorem dL_law_0 : decode cL_law 0 = .ok (.new 7, 3) := by decide +kernel
theorem dL_law_3 : decode cL_law 3 = .ok (.dup, 1) := by decide +kernel
theorem dL_law_4 : decode cL_law 4 = .ok (.invokespecial 9, 3) := by decide +kernel
theorem dL_law_7 : decode cL_law 7 = .ok (.astore_n 1, 1) := by decide +kernel
theorem dL_law_8 : decode cL_law 8 = .ok (.new 10, 3) := by decide +kernel
theorem dL_law_11 : decode cL_law 11 = .ok (.dup, 1) := by decide +kernel
theorem dL_law_12 : decode cL_law 12 = .ok (.invokespecial 12, 3) := by decide +kernel
theorem dL_law_15 : decode cL_law 15 = .ok (.astore_n 2, 1) := by decide +kernel
theorem dL_law_16 : decode cL_law 16 = .ok (.iconst 0, 1) := by decide +kernel
theorem dL_law_17 : decode cL_law 17 = .ok (.istore_n 3, 1) := by decide +kernel
theorem dL_law_18 : decode cL_law 18 = .ok (.iload_n 3, 1) := by decide +kernel
theorem dL_law_19 : decode cL_law 19 = .ok (.aload_n 0, 1) := by decide +kernel
theorem dL_law_20 : decode cL_law 20 = .ok (.arraylength, 1) := by decide +kernel
theorem dL_law_21 : decode cL_law 21 = .ok (.iconst 5, 1) := by decide +kernel
theorem dL_law_22 : decode cL_law 22 = .ok (.isub, 1) := by decide +kernel
theorem dL_law_23 : decode cL_law 23 = .ok (.if_icmp .gt 857, 3) := by decide +kernel
theorem dL_law_26 : decode cL_law 26 = .ok (.aload_n 0, 1) := by decide +kernel
theorem dL_law_27 : decode cL_law 27 = .ok (.iload_n 3, 1) := by decide +kernel
theorem dL_law_28 : decode cL_law 28 = .ok (.iaload, 1) := by decide +kernel
theorem dL_law_29 : decode cL_law 29 = .ok (.bipush 31, 2) := by decide +kernel
theorem dL_law_31 : decode cL_law 31 = .ok (.iand, 1) := by decide +kernel
theorem dL_law_32 : decode cL_law 32 = .ok (.tableswitch 842 0 24 #[116, 159, 212, 255, 278, 301, 314, 327, 350, 383, 416, 439, 462, 475, 508, 541, 584, 597, 620, 643, 676, 730, 773, 796, 819], 116) := by decide +kernel
theorem dL_law_148 : decode cL_law 148 = .ok (.aload_n 1, 1) := by decide +kernel
theorem dL_law_149 : decode cL_law 149 = .ok (.aload_n 0, 1) := by decide +kernel
theorem dL_law_150 : decode cL_law 150 = .ok (.iload_n 3, 1) := by decide +kernel
theorem dL_law_151 : decode cL_law 151 = .ok (.iconst 1, 1) := by decide +kernel
theorem dL_law_152 : decode cL_law 152 = .ok (.iadd, 1) := by decide +kernel
theorem dL_law_153 : decode cL_law 153 = .ok (.iaload, 1) := by decide +kernel
theorem dL_law_154 : decode cL_law 154 = .ok (.aload_n 0, 1) := by decide +kernel
theorem dL_law_155 : decode cL_law 155 = .ok (.iload_n 3, 1) := by decide +kernel
theorem dL_law_156 : decode cL_law 156 = .ok (.iconst 2, 1) := by decide +kernel
theorem dL_law_157 : decode cL_law 157 = .ok (.iadd, 1) := by decide +kernel
