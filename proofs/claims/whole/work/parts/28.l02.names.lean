set_option maxRecDepth 20000 in
theorem ggL_law_X8_cover : GoodIn wsL_law wsX8_cover := goodIn_r _ [636, 149, 150, 2, 151, 637, 638, 639, 640, 15, 641, 396, 397, 398, 399, 400, 401, 642, 643, 644, 14, 645, 47, 359, 360, 361, 362, 646, 647, 648, 388, 389, 377, 390, 375, 376, 378, 917, 918, 919, 920, 921, 922, 923, 961, 962, 963, 964, 965, 966, 967, 968, 969, 970, 971] (by decide +kernel) (by decide +kernel)
set_option maxRecDepth 20000 in
theorem gL_law_X8_cover : GoodIn wsL_law (wsV RL 74 RX8 yX8_cover wsX8_cover) := goodIn_app (goodIn_r _ [633, 634, 635, 2] (by decide +kernel) (by decide +kernel)) ggL_law_X8_cover
set_option maxRecDepth 20000 in
theorem ggL_law_X9_cover : GoodIn wsL_law wsX9_cover := goodIn_r _ [652, 181, 119, 161, 162, 5, 163, 653, 654, 655, 656, 657, 658, 615, 616, 617, 659, 660, 661, 626, 627, 628, 924, 925, 926, 927, 928, 929, 930, 931, 932, 933, 934, 935, 936, 937, 938, 939, 940, 941, 942, 943, 944, 945, 946, 947, 948, 949, 950, 951, 952, 953, 954, 955, 956, 957, 958, 959, 960] (by decide +kernel) (by decide +kernel)
set_option maxRecDepth 20000 in
theorem gL_law_X9_cover : GoodIn wsL_law (wsV RL 77 RX9 yX9_cover wsX9_cover) := goodIn_app (goodIn_r _ [649, 650, 651, 5] (by decide +kernel) (by decide +kernel)) ggL_law_X9_cover
set_option maxRecDepth 20000 in
theorem ggL_law_X8_seen : GoodIn wsL_law wsX8_seen := goodIn_r _ [665, 31, 666, 149, 150, 2, 151, 667, 668, 669, 30, 670, 94, 91, 92, 93, 917, 918, 919, 920, 921, 922, 923, 983, 984, 985, 986] (by decide +kernel) (by decide +kernel)
set_option maxRecDepth 20000 in
theorem gL_law_X8_seen : GoodIn wsL_law (wsV RL 78 RX8 yX8_seen wsX8_seen) := goodIn_app (goodIn_r _ [662, 663, 664, 2] (by decide +kernel) (by decide +kernel)) ggL_law_X8_seen
set_option maxRecDepth 20000 in
theorem ggL_law_X9_seen : GoodIn wsL_law wsX9_seen := goodIn_r _ [674, 675, 204, 676, 126, 127, 128, 161, 162, 5, 163, 924, 925, 926, 927, 928, 929, 930, 931, 932, 933, 934, 935, 936, 937, 938, 939, 940, 941, 942, 943, 944, 945, 946, 947, 948, 949, 950, 951, 952, 953, 954, 955, 956, 957, 958, 959, 960] (by decide +kernel) (by decide +kernel)
set_option maxRecDepth 20000 in
theorem gL_law_X9_seen : GoodIn wsL_law (wsV RL 81 RX9 yX9_seen wsX9_seen) := goodIn_app (goodIn_r _ [671, 672, 673, 5] (by decide +kernel) (by decide +kernel)) ggL_law_X9_seen
set_option maxRecDepth 20000 in
theorem ggL_law_X8_forget : GoodIn wsL_law wsX8_forget := goodIn_r _ [680, 31, 666, 917, 918, 919, 920, 921, 922, 923, 983, 984, 985, 986] (by decide +kernel) (by decide +kernel)
set_option maxRecDepth 20000 in
theorem gL_law_X8_forget : GoodIn wsL_law (wsV RL 82 RX8 yX8_forget wsX8_forget) := goodIn_app (goodIn_r _ [677, 678, 679, 2] (by decide +kernel) (by decide +kernel)) ggL_law_X8_forget
set_option maxRecDepth 20000 in
theorem ggL_law_X9_forget : GoodIn wsL_law wsX9_forget := goodIn_r _ [684, 676, 924, 925, 926, 927, 928, 929, 930, 931, 932, 933, 934, 935, 936, 937, 938, 939, 940, 941, 942, 943, 944, 945, 946, 947, 948, 949, 950, 951, 952, 953, 954, 955, 956, 957, 958, 959, 960] (by decide +kernel) (by decide +kernel)
set_option maxRecDepth 20000 in
theorem gL_law_X9_forget : GoodIn wsL_law (wsV RL 85 RX9 yX9_forget wsX9_forget) := goodIn_app (goodIn_r _ [681, 682, 683, 5] (by decide +kernel) (by decide +kernel)) ggL_law_X9_forget
set_option maxRecDepth 20000 in
theorem ggL_law_X8_nets : GoodIn wsL_law wsX8_nets := goodIn_r _ [688, 35, 31, 689, 690, 691, 692, 34, 693, 101, 98, 694, 695, 696, 30, 697, 94, 91, 92, 93, 698, 699, 700, 701, 702, 703, 704, 396, 397, 398, 399, 400, 401, 705, 706, 707, 708, 917, 918, 919, 920, 921, 922, 923, 987, 988, 989, 990, 991, 992, 983, 984, 985, 986] (by decide +kernel) (by decide +kernel)
set_option maxRecDepth 20000 in
theorem gL_law_X8_nets : GoodIn wsL_law (wsV RL 86 RX8 yX8_nets wsX8_nets) := goodIn_app (goodIn_r _ [685, 686, 687, 2] (by decide +kernel) (by decide +kernel)) ggL_law_X8_nets
set_option maxRecDepth 20000 in
theorem ggL_law_X9_nets : GoodIn wsL_law wsX9_nets := goodIn_r _ [712, 713, 714, 715, 5, 716, 676, 126, 127, 128, 717, 718, 719, 720, 721, 722, 615, 616, 617, 723, 724, 725, 924, 925, 926, 927, 928, 929, 930, 931, 932, 933, 934, 935, 936, 937, 938, 939, 940, 941, 942, 943, 944, 945, 946, 947, 948, 949, 950, 951, 952, 953, 954, 955, 956, 957, 958, 959, 960] (by decide +kernel) (by decide +kernel)
set_option maxRecDepth 20000 in
theorem gL_law_X9_nets : GoodIn wsL_law (wsV RL 89 RX9 yX9_nets wsX9_nets) := goodIn_app (goodIn_r _ [709, 710, 711, 5] (by decide +kernel) (by decide +kernel)) ggL_law_X9_nets
set_option maxRecDepth 20000 in
theorem ggL_law_X8_ask : GoodIn wsL_law wsX8_ask := goodIn_r _ [729, 35, 31, 689, 730, 731, 149, 150, 2, 151, 690, 691, 692, 34, 693, 101, 98, 694, 695, 696, 30, 697, 94, 91, 92, 93, 698, 699, 700, 701, 702, 703, 704, 396, 397, 398, 399, 400, 401, 732, 733, 734, 735, 102, 103, 736, 737, 738, 739, 99, 740, 741, 742, 743, 744, 100, 745, 389, 377, 390, 746, 917, 918, 919, 920, 921, 922, 923, 987, 988, 989, 990, 991, 992, 983, 984, 985, 986] (by decide +kernel) (by decide +kernel)
set_option maxRecDepth 20000 in
theorem gL_law_X8_ask : GoodIn wsL_law (wsV RL 90 RX8 yX8_ask wsX8_ask) := goodIn_app (goodIn_r _ [726, 727, 728, 2] (by decide +kernel) (by decide +kernel)) ggL_law_X8_ask
set_option maxRecDepth 20000 in
theorem ggL_law_X9_ask : GoodIn wsL_law wsX9_ask := goodIn_r _ [750, 161, 162, 5, 163, 751, 752, 753, 754, 135, 720, 721, 722, 615, 616, 617, 717, 718, 719, 713, 714, 715, 716, 676, 126, 127, 128, 466, 467, 468, 924, 925, 926, 927, 928, 929, 930, 931, 932, 933, 934, 935, 936, 937, 938, 939, 940, 941, 942, 943, 944, 945, 946, 947, 948, 949, 950, 951, 952, 953, 954, 955, 956, 957, 958, 959, 960] (by decide +kernel) (by decide +kernel)
set_option maxRecDepth 20000 in
theorem gL_law_X9_ask : GoodIn wsL_law (wsV RL 93 RX9 yX9_ask wsX9_ask) := goodIn_app (goodIn_r _ [747, 748, 749, 5] (by decide +kernel) (by decide +kernel)) ggL_law_X9_ask
set_option maxRecDepth 20000 in
theorem ggL_law_X8_roots : GoodIn wsL_law wsX8_roots := goodIn_r _ [758, 149, 150, 2, 151, 759, 760, 761] (by decide +kernel) (by decide +kernel)
set_option maxRecDepth 20000 in
theorem gL_law_X8_roots : GoodIn wsL_law (wsV RL 94 RX8 yX8_roots wsX8_roots) := goodIn_app (goodIn_r _ [755, 756, 757, 2] (by decide +kernel) (by decide +kernel)) ggL_law_X8_roots
set_option maxRecDepth 20000 in
theorem ggL_law_X9_roots : GoodIn wsL_law wsX9_roots := goodIn_r _ [765, 766, 136, 161, 162, 5, 163, 767, 768, 769, 770, 924, 925, 926, 927, 928, 929, 930, 931, 932, 933, 934, 935, 936, 937, 938, 939, 940, 941, 942, 943, 944, 945, 946, 947, 948, 949, 950, 951, 952, 953, 954, 955, 956, 957, 958, 959, 960] (by decide +kernel) (by decide +kernel)
set_option maxRecDepth 20000 in
theorem gL_law_X9_roots : GoodIn wsL_law (wsV RL 97 RX9 yX9_roots wsX9_roots) := goodIn_app (goodIn_r _ [762, 763, 764, 5] (by decide +kernel) (by decide +kernel)) ggL_law_X9_roots
set_option maxRecDepth 20000 in
theorem ggL_law_X8_thought : GoodIn wsL_law wsX8_thought := goodIn_r _ [774, 775, 776, 777, 377, 778, 149, 150, 2, 151, 779, 780, 781, 782, 783, 784, 785, 786, 787, 788, 789, 790] (by decide +kernel) (by decide +kernel)
set_option maxRecDepth 20000 in
theorem gL_law_X8_thought : GoodIn wsL_law (wsV RL 98 RX8 yX8_thought wsX8_thought) := goodIn_app (goodIn_r _ [771, 772, 773, 2] (by decide +kernel) (by decide +kernel)) ggL_law_X8_thought
set_option maxRecDepth 20000 in
theorem ggL_law_X9_thought : GoodIn wsL_law wsX9_thought := goodIn_r _ [794, 411, 795, 796, 161, 162, 5, 163, 797, 798, 799, 800, 801, 802, 803, 804, 805, 806, 807, 808] (by decide +kernel) (by decide +kernel)
set_option maxRecDepth 20000 in
theorem gL_law_X9_thought : GoodIn wsL_law (wsV RL 102 RX9 yX9_thought wsX9_thought) := goodIn_app (goodIn_r _ [791, 792, 793, 5] (by decide +kernel) (by decide +kernel)) ggL_law_X9_thought
set_option maxRecDepth 20000 in
theorem ggL_law_X8_storm : GoodIn wsL_law wsX8_storm := goodIn_r _ [812, 23, 15, 493, 310, 149, 150, 2, 151, 315, 316, 317, 22, 318, 66, 71, 72, 73, 74, 75, 76, 319, 320, 321, 14, 322, 45, 323, 324, 325, 326, 46, 47, 48, 49, 50, 51, 52, 54, 55, 56, 813, 814, 815, 816, 817, 70, 818, 819, 820, 69, 821, 822, 337, 338, 339, 81, 82, 83, 340, 341, 342, 343, 344, 345, 346, 347, 147, 148, 170, 171, 194, 195, 348, 349, 350, 351, 352, 353, 354, 355, 356, 357, 358, 359, 360, 361, 362, 363, 364, 365, 366, 367, 368, 369, 370, 371, 372, 373, 374, 375, 376, 377, 378, 379, 173, 174, 175, 380, 381, 382, 383, 384, 385, 386, 387, 388, 389, 390, 391, 392, 393, 394, 395, 396, 397, 398, 399, 400, 401, 402, 403, 404, 405, 524, 525, 526, 527, 823, 824, 825, 826, 917, 918, 919, 920, 921, 922, 923, 974, 975, 976, 977, 978, 979, 980, 981, 961, 962, 963, 964, 965, 966, 967, 968, 969, 970, 971, 996, 997, 998] (by decide +kernel) (by decide +kernel)
set_option maxRecDepth 20000 in
theorem gL_law_X8_storm : GoodIn wsL_law (wsV RL 103 RX8 yX8_storm wsX8_storm) := goodIn_app (goodIn_r _ [809, 810, 811, 2] (by decide +kernel) (by decide +kernel)) ggL_law_X8_storm
