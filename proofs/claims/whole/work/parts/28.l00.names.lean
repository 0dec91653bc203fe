set_option maxRecDepth 20000 in
theorem ggL_law_X8_init : GoodIn wsL_law wsX8_init := goodIn_r _ [8, 9, 10, 11, 12, 13, 14, 15, 16, 17, 18, 19, 20, 21, 22, 23, 24, 25, 26, 27, 28, 29, 30, 31, 32, 33, 34, 35, 36, 37, 38, 39, 40, 41, 42, 43, 44, 45, 46, 47, 48, 49, 50, 51, 52, 53, 54, 55, 56, 57, 58, 59, 60, 61, 62, 63, 64, 65, 66, 67, 68, 69, 70, 71, 72, 73, 74, 75, 76, 77, 78, 79, 80, 81, 82, 83, 84, 85, 86, 87, 88, 89, 90, 91, 92, 93, 94, 95, 96, 97, 98, 99, 100, 101, 102, 103, 104, 105, 106, 107, 108, 109, 110, 111, 112, 961, 962, 963, 964, 965, 966, 967, 968, 969, 970, 971, 917, 918, 919, 920, 921, 922, 923, 972, 973, 974, 975, 976, 977, 978, 979, 980, 981, 982, 983, 984, 985, 986, 987, 988, 989, 990, 991, 992, 993, 994, 995, 996, 997, 998] (by decide +kernel) (by decide +kernel)
set_option maxRecDepth 20000 in
theorem gL_law_X8_init : GoodIn wsL_law (wsX8_init) := ggL_law_X8_init
set_option maxRecDepth 20000 in
theorem ggL_law_X9_init : GoodIn wsL_law wsX9_init := goodIn_r _ [115, 116, 10, 11, 44, 117, 118, 119, 120, 121, 122, 123, 124, 125, 126, 127, 128, 129, 130, 131, 132, 133, 134, 135, 53, 136, 137, 138, 139, 924, 925, 926, 927, 928, 929, 930, 931, 932, 933, 934, 935, 936, 937, 938, 939, 940, 941, 942, 943, 944, 945, 946, 947, 948, 949, 950, 951, 952, 953, 954, 955, 956, 957, 958, 959, 960] (by decide +kernel) (by decide +kernel)
set_option maxRecDepth 20000 in
theorem gL_law_X9_init : GoodIn wsL_law (wsX9_init) := ggL_law_X9_init
set_option maxRecDepth 20000 in
theorem ggL_law_X8_person : GoodIn wsL_law wsX8_person := goodIn_r _ [143, 15, 144, 145, 146, 147, 2, 148, 149, 150, 151, 917, 918, 919, 920, 921, 922, 923, 961, 962, 963, 964, 965, 966, 967, 968, 969, 970, 971] (by decide +kernel) (by decide +kernel)
set_option maxRecDepth 20000 in
theorem gL_law_X8_person : GoodIn wsL_law (wsV RL 13 RX8 yX8_person wsX8_person) := goodIn_app (goodIn_r _ [140, 141, 142, 2] (by decide +kernel) (by decide +kernel)) ggL_law_X8_person
set_option maxRecDepth 20000 in
theorem ggL_law_X9_person : GoodIn wsL_law wsX9_person := goodIn_r _ [155, 156, 117, 118, 157, 158, 5, 159, 160, 161, 162, 163, 924, 925, 926, 927, 928, 929, 930, 931, 932, 933, 934, 935, 936, 937, 938, 939, 940, 941, 942, 943, 944, 945, 946, 947, 948, 949, 950, 951, 952, 953, 954, 955, 956, 957, 958, 959, 960] (by decide +kernel) (by decide +kernel)
set_option maxRecDepth 20000 in
theorem gL_law_X9_person : GoodIn wsL_law (wsV RL 17 RX9 yX9_person wsX9_person) := goodIn_app (goodIn_r _ [152, 153, 154, 5] (by decide +kernel) (by decide +kernel)) ggL_law_X9_person
set_option maxRecDepth 20000 in
theorem ggL_law_X8_stone : GoodIn wsL_law wsX8_stone := goodIn_r _ [167, 15, 168, 146, 147, 2, 148, 149, 150, 151, 169, 170, 171, 172, 173, 174, 14, 175, 47, 48, 49, 917, 918, 919, 920, 921, 922, 923, 961, 962, 963, 964, 965, 966, 967, 968, 969, 970, 971] (by decide +kernel) (by decide +kernel)
set_option maxRecDepth 20000 in
theorem gL_law_X8_stone : GoodIn wsL_law (wsV RL 18 RX8 yX8_stone wsX8_stone) := goodIn_app (goodIn_r _ [164, 165, 166, 2] (by decide +kernel) (by decide +kernel)) ggL_law_X8_stone
set_option maxRecDepth 20000 in
theorem ggL_law_X9_stone : GoodIn wsL_law wsX9_stone := goodIn_r _ [179, 180, 181, 119, 157, 158, 5, 159, 160, 161, 162, 163, 182, 183, 184, 185, 120, 121, 924, 925, 926, 927, 928, 929, 930, 931, 932, 933, 934, 935, 936, 937, 938, 939, 940, 941, 942, 943, 944, 945, 946, 947, 948, 949, 950, 951, 952, 953, 954, 955, 956, 957, 958, 959, 960] (by decide +kernel) (by decide +kernel)
set_option maxRecDepth 20000 in
theorem gL_law_X9_stone : GoodIn wsL_law (wsV RL 22 RX9 yX9_stone wsX9_stone) := goodIn_app (goodIn_r _ [176, 177, 178, 5] (by decide +kernel) (by decide +kernel)) ggL_law_X9_stone
set_option maxRecDepth 20000 in
theorem ggL_law_X8_reader : GoodIn wsL_law wsX8_reader := goodIn_r _ [189, 15, 190, 191, 192, 193, 194, 2, 195, 149, 150, 151, 169, 170, 171, 917, 918, 919, 920, 921, 922, 923, 961, 962, 963, 964, 965, 966, 967, 968, 969, 970, 971] (by decide +kernel) (by decide +kernel)
set_option maxRecDepth 20000 in
theorem gL_law_X8_reader : GoodIn wsL_law (wsV RL 23 RX8 yX8_reader wsX8_reader) := goodIn_app (goodIn_r _ [186, 187, 188, 2] (by decide +kernel) (by decide +kernel)) ggL_law_X8_reader
set_option maxRecDepth 20000 in
theorem ggL_law_X9_reader : GoodIn wsL_law wsX9_reader := goodIn_r _ [199, 200, 122, 123, 125, 201, 202, 5, 203, 204, 161, 162, 163, 205, 206, 207, 181, 924, 925, 926, 927, 928, 929, 930, 931, 932, 933, 934, 935, 936, 937, 938, 939, 940, 941, 942, 943, 944, 945, 946, 947, 948, 949, 950, 951, 952, 953, 954, 955, 956, 957, 958, 959, 960] (by decide +kernel) (by decide +kernel)
set_option maxRecDepth 20000 in
theorem gL_law_X9_reader : GoodIn wsL_law (wsV RL 26 RX9 yX9_reader wsX9_reader) := goodIn_app (goodIn_r _ [196, 197, 198, 5] (by decide +kernel) (by decide +kernel)) ggL_law_X9_reader
set_option maxRecDepth 20000 in
theorem ggL_law_X8_melt : GoodIn wsL_law wsX8_melt := goodIn_r _ [211, 15, 212, 149, 150, 2, 151, 917, 918, 919, 920, 921, 922, 923, 961, 962, 963, 964, 965, 966, 967, 968, 969, 970, 971] (by decide +kernel) (by decide +kernel)
set_option maxRecDepth 20000 in
theorem gL_law_X8_melt : GoodIn wsL_law (wsV RL 27 RX8 yX8_melt wsX8_melt) := goodIn_app (goodIn_r _ [208, 209, 210, 2] (by decide +kernel) (by decide +kernel)) ggL_law_X8_melt
set_option maxRecDepth 20000 in
theorem ggL_law_X9_melt : GoodIn wsL_law wsX9_melt := goodIn_r _ [216, 200, 139, 161, 162, 5, 163, 924, 925, 926, 927, 928, 929, 930, 931, 932, 933, 934, 935, 936, 937, 938, 939, 940, 941, 942, 943, 944, 945, 946, 947, 948, 949, 950, 951, 952, 953, 954, 955, 956, 957, 958, 959, 960] (by decide +kernel) (by decide +kernel)
set_option maxRecDepth 20000 in
theorem gL_law_X9_melt : GoodIn wsL_law (wsV RL 31 RX9 yX9_melt wsX9_melt) := goodIn_app (goodIn_r _ [213, 214, 215, 5] (by decide +kernel) (by decide +kernel)) ggL_law_X9_melt
set_option maxRecDepth 20000 in
theorem ggL_law_X8_say : GoodIn wsL_law wsX8_say := goodIn_r _ [220, 19, 221, 149, 150, 2, 151, 222, 223, 224, 18, 225, 61, 60, 917, 918, 919, 920, 921, 922, 923, 972, 973] (by decide +kernel) (by decide +kernel)
set_option maxRecDepth 20000 in
theorem gL_law_X8_say : GoodIn wsL_law (wsV RL 32 RX8 yX8_say wsX8_say) := goodIn_app (goodIn_r _ [217, 218, 219, 2] (by decide +kernel) (by decide +kernel)) ggL_law_X8_say
set_option maxRecDepth 20000 in
theorem ggL_law_X9_say : GoodIn wsL_law wsX9_say := goodIn_r _ [229, 230, 231, 232, 129, 161, 162, 5, 163, 924, 925, 926, 927, 928, 929, 930, 931, 932, 933, 934, 935, 936, 937, 938, 939, 940, 941, 942, 943, 944, 945, 946, 947, 948, 949, 950, 951, 952, 953, 954, 955, 956, 957, 958, 959, 960] (by decide +kernel) (by decide +kernel)
set_option maxRecDepth 20000 in
theorem gL_law_X9_say : GoodIn wsL_law (wsV RL 35 RX9 yX9_say wsX9_say) := goodIn_app (goodIn_r _ [226, 227, 228, 5] (by decide +kernel) (by decide +kernel)) ggL_law_X9_say
set_option maxRecDepth 20000 in
theorem ggL_law_X8_wipe : GoodIn wsL_law wsX8_wipe := goodIn_r _ [236, 19, 237, 238, 239, 18, 240, 61, 917, 918, 919, 920, 921, 922, 923, 972, 973] (by decide +kernel) (by decide +kernel)
set_option maxRecDepth 20000 in
theorem gL_law_X8_wipe : GoodIn wsL_law (wsV RL 36 RX8 yX8_wipe wsX8_wipe) := goodIn_app (goodIn_r _ [233, 234, 235, 2] (by decide +kernel) (by decide +kernel)) ggL_law_X8_wipe
set_option maxRecDepth 20000 in
theorem ggL_law_X9_wipe : GoodIn wsL_law wsX9_wipe := goodIn_r _ [244, 232, 924, 925, 926, 927, 928, 929, 930, 931, 932, 933, 934, 935, 936, 937, 938, 939, 940, 941, 942, 943, 944, 945, 946, 947, 948, 949, 950, 951, 952, 953, 954, 955, 956, 957, 958, 959, 960] (by decide +kernel) (by decide +kernel)
set_option maxRecDepth 20000 in
theorem gL_law_X9_wipe : GoodIn wsL_law (wsV RL 40 RX9 yX9_wipe wsX9_wipe) := goodIn_app (goodIn_r _ [241, 242, 243, 5] (by decide +kernel) (by decide +kernel)) ggL_law_X9_wipe
set_option maxRecDepth 20000 in
theorem ggL_law_X8_fault : GoodIn wsL_law wsX8_fault := goodIn_r _ [248, 19, 249, 250, 251, 18, 252, 61, 253, 254, 255, 256, 257, 258, 259, 260, 60, 147, 2, 148, 149, 150, 151, 261, 262, 263, 264, 170, 171, 194, 195, 265, 266, 267, 268, 269, 270, 271, 272, 917, 918, 919, 920, 921, 922, 923, 972, 973] (by decide +kernel) (by decide +kernel)
set_option maxRecDepth 20000 in
theorem gL_law_X8_fault : GoodIn wsL_law (wsV RL 41 RX8 yX8_fault wsX8_fault) := goodIn_app (goodIn_r _ [245, 246, 247, 2] (by decide +kernel) (by decide +kernel)) ggL_law_X8_fault
