theorem dX0_setByDraw_110 : decode cX0_setByDraw 110 = .ok (.aload_n 0, 1) := by decide +kernel
theorem dX0_setByDraw_111 : decode cX0_setByDraw 111 = .ok (.iconst 3, 1) := by decide +kernel
theorem dX0_setByDraw_112 : decode cX0_setByDraw 112 = .ok (.iload_n 2, 1) := by decide +kernel
theorem dX0_setByDraw_113 : decode cX0_setByDraw 113 = .ok (.iconst 4, 1) := by decide +kernel
theorem dX0_setByDraw_114 : decode cX0_setByDraw 114 = .ok (.irem, 1) := by decide +kernel
theorem dX0_setByDraw_115 : decode cX0_setByDraw 115 = .ok (.iload_n 2, 1) := by decide +kernel
theorem dX0_setByDraw_116 : decode cX0_setByDraw 116 = .ok (.iconst 4, 1) := by decide +kernel
theorem dX0_setByDraw_117 : decode cX0_setByDraw 117 = .ok (.idiv, 1) := by decide +kernel
theorem dX0_setByDraw_118 : decode cX0_setByDraw 118 = .ok (.bipush 8, 2) := by decide +kernel
theorem dX0_setByDraw_120 : decode cX0_setByDraw 120 = .ok (.irem, 1) := by decide +kernel
theorem dX0_setByDraw_121 : decode cX0_setByDraw 121 = .ok (.invokevirtual 31, 3) := by decide +kernel
theorem dX0_setByDraw_124 : decode cX0_setByDraw 124 = .ok (.goto 10, 3) := by decide +kernel
theorem dX0_setByDraw_127 : decode cX0_setByDraw 127 = .ok (.aload_n 0, 1) := by decide +kernel
theorem dX0_setByDraw_128 : decode cX0_setByDraw 128 = .ok (.iconst 4, 1) := by decide +kernel
theorem dX0_setByDraw_129 : decode cX0_setByDraw 129 = .ok (.iconst 0, 1) := by decide +kernel
theorem dX0_setByDraw_130 : decode cX0_setByDraw 130 = .ok (.iconst 0, 1) := by decide +kernel
theorem dX0_setByDraw_131 : decode cX0_setByDraw 131 = .ok (.invokevirtual 31, 3) := by decide +kernel
theorem dX0_setByDraw_134 : decode cX0_setByDraw 134 = .ok (.return_, 1) := by decide +kernel
set_option maxRecDepth 20000 in
theorem ggX1_init_X5_init : GoodIn wsX1_init wsX5_init := goodIn_r _ [15, 16, 2, 3, 17, 18, 19, 20, 21, 22, 23, 24, 25, 26, 27, 28, 29, 37, 38, 39, 40, 41, 42, 43, 44, 45, 46, 47] (by decide +kernel) (by decide +kernel)
set_option maxRecDepth 20000 in
theorem gX1_init_X5_init : GoodIn wsX1_init (wsX5_init) := ggX1_init_X5_init
set_option maxRecDepth 20000 in
theorem ggX1_init_X7_init : GoodIn wsX1_init wsX7_init := goodIn_r _ [31, 32, 2, 3, 17, 33, 34, 35, 36, 51, 52, 53, 54] (by decide +kernel) (by decide +kernel)
set_option maxRecDepth 20000 in
theorem gX1_init_X7_init_n18 : GoodIn wsX1_init (wsX7_init) := ggX1_init_X7_init
theorem dX1_init_0 : decode cX1_init 0 = .ok (.aload_n 0, 1) := by decide +kernel
theorem dX1_init_1 : decode cX1_init 1 = .ok (.invokespecial 1, 3) := by decide +kernel
theorem dX1_init_4 : decode cX1_init 4 = .ok (.aload_n 0, 1) := by decide +kernel
theorem dX1_init_5 : decode cX1_init 5 = .ok (.new 7, 3) := by decide +kernel
theorem dX1_init_8 : decode cX1_init 8 = .ok (.dup, 1) := by decide +kernel
theorem dX1_init_9 : decode cX1_init 9 = .ok (.invokespecial 9, 3) := by decide +kernel
theorem dX1_init_12 : decode cX1_init 12 = .ok (.putfield 10, 3) := by decide +kernel
theorem dX1_init_15 : decode cX1_init 15 = .ok (.aload_n 0, 1) := by decide +kernel
theorem dX1_init_16 : decode cX1_init 16 = .ok (.new 16, 3) := by decide +kernel
theorem dX1_init_19 : decode cX1_init 19 = .ok (.dup, 1) := by decide +kernel
theorem dX1_init_20 : decode cX1_init 20 = .ok (.invokespecial 18, 3) := by decide +kernel
theorem dX1_init_23 : decode cX1_init 23 = .ok (.putfield 19, 3) := by decide +kernel
theorem dX1_init_26 : decode cX1_init 26 = .ok (.aload_n 0, 1) := by decide +kernel
theorem dX1_init_27 : decode cX1_init 27 = .ok (.iconst 0, 1) := by decide +kernel
theorem dX1_init_28 : decode cX1_init 28 = .ok (.putfield 23, 3) := by decide +kernel
theorem dX1_init_31 : decode cX1_init 31 = .ok (.return_, 1) := by decide +kernel
theorem dX2_init_0 : decode cX2_init 0 = .ok (.aload_n 0, 1) := by decide +kernel
theorem dX2_init_1 : decode cX2_init 1 = .ok (.invokespecial 3, 3) := by decide +kernel
theorem dX2_init_4 : decode cX2_init 4 = .ok (.aload_n 0, 1) := by decide +kernel
theorem dX2_init_5 : decode cX2_init 5 = .ok (.bipush 81, 2) := by decide +kernel
theorem dX2_init_7 : decode cX2_init 7 = .ok (.newarray .int, 2) := by decide +kernel
theorem dX2_init_9 : decode cX2_init 9 = .ok (.putfield 9, 3) := by decide +kernel
theorem dX2_init_12 : decode cX2_init 12 = .ok (.aload_n 0, 1) := by decide +kernel
theorem dX2_init_13 : decode cX2_init 13 = .ok (.bipush 16, 2) := by decide +kernel
theorem dX2_init_15 : decode cX2_init 15 = .ok (.newarray .int, 2) := by decide +kernel
theorem dX2_init_17 : decode cX2_init 17 = .ok (.putfield 15, 3) := by decide +kernel
theorem dX2_init_20 : decode cX2_init 20 = .ok (.aload_n 0, 1) := by decide +kernel
theorem dX2_init_21 : decode cX2_init 21 = .ok (.iconst 5, 1) := by decide +kernel
theorem dX2_init_22 : decode cX2_init 22 = .ok (.newarray .int, 2) := by decide +kernel
theorem dX2_init_24 : decode cX2_init 24 = .ok (.putfield 18, 3) := by decide +kernel
theorem dX2_init_27 : decode cX2_init 27 = .ok (.aload_n 0, 1) := by decide +kernel
theorem dX2_init_28 : decode cX2_init 28 = .ok (.iconst 0, 1) := by decide +kernel
theorem dX2_init_29 : decode cX2_init 29 = .ok (.putfield 21, 3) := by decide +kernel
theorem dX2_init_32 : decode cX2_init 32 = .ok (.aload_n 0, 1) := by decide +kernel
theorem dX2_init_33 : decode cX2_init 33 = .ok (.bipush (-6), 2) := by decide +kernel
theorem dX2_init_35 : decode cX2_init 35 = .ok (.putfield 25, 3) := by decide +kernel
theorem dX2_init_38 : decode cX2_init 38 = .ok (.aload_n 0, 1) := by decide +kernel
theorem dX2_init_39 : decode cX2_init 39 = .ok (.bipush (-6), 2) := by decide +kernel
theorem dX2_init_41 : decode cX2_init 41 = .ok (.putfield 28, 3) := by decide +kernel
theorem dX2_init_44 : decode cX2_init 44 = .ok (.return_, 1) := by decide +kernel
set_option maxRecDepth 20000 in
theorem ggX2_findNets_X7_allow : GoodIn wsX2_findNets wsX7_allow := goodIn_r _ [7, 8, 9, 10, 11, 12, 13, 14, 15, 16, 17, 18, 19, 20, 21, 22, 23, 24, 25, 32, 33, 34, 35] (by decide +kernel) (by decide +kernel)
set_option maxRecDepth 20000 in
theorem gX2_findNets_X7_allow : GoodIn wsX2_findNets (wsV RX2 31 RX7 yX7_allow wsX7_allow) := goodIn_app (goodIn_of _ (by decide +kernel)) ggX2_findNets_X7_allow
theorem dX2_findNets_0 : decode cX2_findNets 0 = .ok (.aload_n 0, 1) := by decide +kernel
theorem dX2_findNets_1 : decode cX2_findNets 1 = .ok (.iconst 0, 1) := by decide +kernel
theorem dX2_findNets_2 : decode cX2_findNets 2 = .ok (.putfield 21, 3) := by decide +kernel
theorem dX2_findNets_5 : decode cX2_findNets 5 = .ok (.iconst 0, 1) := by decide +kernel
theorem dX2_findNets_6 : decode cX2_findNets 6 = .ok (.istore_n 2, 1) := by decide +kernel
theorem dX2_findNets_7 : decode cX2_findNets 7 = .ok (.iload_n 2, 1) := by decide +kernel
theorem dX2_findNets_8 : decode cX2_findNets 8 = .ok (.bipush 81, 2) := by decide +kernel
theorem dX2_findNets_10 : decode cX2_findNets 10 = .ok (.if_icmp .ge 37, 3) := by decide +kernel
theorem dX2_findNets_13 : decode cX2_findNets 13 = .ok (.aload_n 1, 1) := by decide +kernel
theorem dX2_findNets_14 : decode cX2_findNets 14 = .ok (.iload_n 2, 1) := by decide +kernel
theorem dX2_findNets_15 : decode cX2_findNets 15 = .ok (.invokevirtual 31, 3) := by decide +kernel
theorem dX2_findNets_18 : decode cX2_findNets 18 = .ok (.ifCond .eq 23, 3) := by decide +kernel
theorem dX2_findNets_21 : decode cX2_findNets 21 = .ok (.aload_n 0, 1) := by decide +kernel
theorem dX2_findNets_22 : decode cX2_findNets 22 = .ok (.getfield 9, 3) := by decide +kernel
theorem dX2_findNets_25 : decode cX2_findNets 25 = .ok (.aload_n 0, 1) := by decide +kernel
theorem dX2_findNets_26 : decode cX2_findNets 26 = .ok (.getfield 21, 3) := by decide +kernel
theorem dX2_findNets_29 : decode cX2_findNets 29 = .ok (.iload_n 2, 1) := by decide +kernel
theorem dX2_findNets_30 : decode cX2_findNets 30 = .ok (.iastore, 1) := by decide +kernel
theorem dX2_findNets_31 : decode cX2_findNets 31 = .ok (.aload_n 0, 1) := by decide +kernel
theorem dX2_findNets_32 : decode cX2_findNets 32 = .ok (.dup, 1) := by decide +kernel
theorem dX2_findNets_33 : decode cX2_findNets 33 = .ok (.getfield 21, 3) := by decide +kernel
theorem dX2_findNets_36 : decode cX2_findNets 36 = .ok (.iconst 1, 1) := by decide +kernel
theorem dX2_findNets_37 : decode cX2_findNets 37 = .ok (.iadd, 1) := by decide +kernel
theorem dX2_findNets_38 : decode cX2_findNets 38 = .ok (.putfield 21, 3) := by decide +kernel
theorem dX2_findNets_41 : decode cX2_findNets 41 = .ok (.iinc 2 1, 3) := by decide +kernel
theorem dX2_findNets_44 : decode cX2_findNets 44 = .ok (.goto (-37), 3) := by decide +kernel
theorem dX2_findNets_47 : decode cX2_findNets 47 = .ok (.return_, 1) := by decide +kernel
theorem dX2_aimOf_0 : decode cX2_aimOf 0 = .ok (.iload_n 1, 1) := by decide +kernel
theorem dX2_aimOf_1 : decode cX2_aimOf 1 = .ok (.iload_n 0, 1) := by decide +kernel
theorem dX2_aimOf_2 : decode cX2_aimOf 2 = .ok (.if_icmp .ge 7, 3) := by decide +kernel
theorem dX2_aimOf_5 : decode cX2_aimOf 5 = .ok (.iload_n 1, 1) := by decide +kernel
theorem dX2_aimOf_6 : decode cX2_aimOf 6 = .ok (.goto 6, 3) := by decide +kernel
theorem dX2_aimOf_9 : decode cX2_aimOf 9 = .ok (.iload_n 1, 1) := by decide +kernel
theorem dX2_aimOf_10 : decode cX2_aimOf 10 = .ok (.iconst 1, 1) := by decide +kernel
theorem dX2_aimOf_11 : decode cX2_aimOf 11 = .ok (.iadd, 1) := by decide +kernel
theorem dX2_aimOf_12 : decode cX2_aimOf 12 = .ok (.ireturn, 1) := by decide +kernel
set_option maxRecDepth 20000 in
theorem ggX2_thinkersOf_X2_aimOf : GoodIn wsX2_thinkersOf wsX2_aimOf := goodIn_r _ [4] (by decide +kernel) (by decide +kernel)
set_option maxRecDepth 20000 in
theorem gX2_thinkersOf_X2_aimOf : GoodIn wsX2_thinkersOf (va_wsS RX2 37 yX2_aimOf wsX2_aimOf) := goodIn_app (goodIn_of _ (by decide +kernel)) ggX2_thinkersOf_X2_aimOf
theorem dX2_thinkersOf_0 : decode cX2_thinkersOf 0 = .ok (.iconst 0, 1) := by decide +kernel
theorem dX2_thinkersOf_1 : decode cX2_thinkersOf 1 = .ok (.istore_n 2, 1) := by decide +kernel
theorem dX2_thinkersOf_2 : decode cX2_thinkersOf 2 = .ok (.iload_n 0, 1) := by decide +kernel
theorem dX2_thinkersOf_3 : decode cX2_thinkersOf 3 = .ok (.istore_n 3, 1) := by decide +kernel
theorem dX2_thinkersOf_4 : decode cX2_thinkersOf 4 = .ok (.iconst 3, 1) := by decide +kernel
theorem dX2_thinkersOf_5 : decode cX2_thinkersOf 5 = .ok (.istore 4, 2) := by decide +kernel
theorem dX2_thinkersOf_7 : decode cX2_thinkersOf 7 = .ok (.iload 4, 2) := by decide +kernel
theorem dX2_thinkersOf_9 : decode cX2_thinkersOf 9 = .ok (.ifCond .lt 32, 3) := by decide +kernel
theorem dX2_thinkersOf_12 : decode cX2_thinkersOf 12 = .ok (.iload 4, 2) := by decide +kernel
theorem dX2_thinkersOf_14 : decode cX2_thinkersOf 14 = .ok (.iload_n 3, 1) := by decide +kernel
theorem dX2_thinkersOf_15 : decode cX2_thinkersOf 15 = .ok (.iconst 3, 1) := by decide +kernel
theorem dX2_thinkersOf_16 : decode cX2_thinkersOf 16 = .ok (.irem, 1) := by decide +kernel
theorem dX2_thinkersOf_17 : decode cX2_thinkersOf 17 = .ok (.invokestatic 37, 3) := by decide +kernel
theorem dX2_thinkersOf_20 : decode cX2_thinkersOf 20 = .ok (.iload_n 1, 1) := by decide +kernel
theorem dX2_thinkersOf_21 : decode cX2_thinkersOf 21 = .ok (.if_icmp .ne 10, 3) := by decide +kernel
theorem dX2_thinkersOf_24 : decode cX2_thinkersOf 24 = .ok (.iload_n 2, 1) := by decide +kernel
theorem dX2_thinkersOf_25 : decode cX2_thinkersOf 25 = .ok (.iconst 1, 1) := by decide +kernel
theorem dX2_thinkersOf_26 : decode cX2_thinkersOf 26 = .ok (.iload 4, 2) := by decide +kernel
theorem dX2_thinkersOf_28 : decode cX2_thinkersOf 28 = .ok (.ishl, 1) := by decide +kernel
theorem dX2_thinkersOf_29 : decode cX2_thinkersOf 29 = .ok (.ior, 1) := by decide +kernel
theorem dX2_thinkersOf_30 : decode cX2_thinkersOf 30 = .ok (.istore_n 2, 1) := by decide +kernel
theorem dX2_thinkersOf_31 : decode cX2_thinkersOf 31 = .ok (.iload_n 3, 1) := by decide +kernel
theorem dX2_thinkersOf_32 : decode cX2_thinkersOf 32 = .ok (.iconst 3, 1) := by decide +kernel
theorem dX2_thinkersOf_33 : decode cX2_thinkersOf 33 = .ok (.idiv, 1) := by decide +kernel
theorem dX2_thinkersOf_34 : decode cX2_thinkersOf 34 = .ok (.istore_n 3, 1) := by decide +kernel
theorem dX2_thinkersOf_35 : decode cX2_thinkersOf 35 = .ok (.iinc 4 (-1), 3) := by decide +kernel
theorem dX2_thinkersOf_38 : decode cX2_thinkersOf 38 = .ok (.goto (-31), 3) := by decide +kernel
theorem dX2_thinkersOf_41 : decode cX2_thinkersOf 41 = .ok (.iload_n 2, 1) := by decide +kernel
theorem dX2_thinkersOf_42 : decode cX2_thinkersOf 42 = .ok (.ireturn, 1) := by decide +kernel
set_option maxRecDepth 20000 in
theorem ggX2_figuresOfNet_X2_aimOf : GoodIn wsX2_figuresOfNet wsX2_aimOf := goodIn_r _ [6] (by decide +kernel) (by decide +kernel)
set_option maxRecDepth 20000 in
theorem gX2_figuresOfNet_X2_aimOf : GoodIn wsX2_figuresOfNet (va_wsS RX2 37 yX2_aimOf wsX2_aimOf) := goodIn_app (goodIn_of _ (by decide +kernel)) ggX2_figuresOfNet_X2_aimOf
theorem dX2_figuresOfNet_0 : decode cX2_figuresOfNet 0 = .ok (.iload_n 1, 1) := by decide +kernel
theorem dX2_figuresOfNet_1 : decode cX2_figuresOfNet 1 = .ok (.ifCond .lt 17, 3) := by decide +kernel
theorem dX2_figuresOfNet_4 : decode cX2_figuresOfNet 4 = .ok (.iload_n 1, 1) := by decide +kernel
theorem dX2_figuresOfNet_5 : decode cX2_figuresOfNet 5 = .ok (.aload_n 0, 1) := by decide +kernel
theorem dX2_figuresOfNet_6 : decode cX2_figuresOfNet 6 = .ok (.getfield 21, 3) := by decide +kernel
theorem dX2_figuresOfNet_9 : decode cX2_figuresOfNet 9 = .ok (.if_icmp .ge 9, 3) := by decide +kernel
theorem dX2_figuresOfNet_12 : decode cX2_figuresOfNet 12 = .ok (.iload_n 1, 1) := by decide +kernel
theorem dX2_figuresOfNet_13 : decode cX2_figuresOfNet 13 = .ok (.bipush 81, 2) := by decide +kernel
theorem dX2_figuresOfNet_15 : decode cX2_figuresOfNet 15 = .ok (.if_icmp .lt 6, 3) := by decide +kernel
theorem dX2_figuresOfNet_18 : decode cX2_figuresOfNet 18 = .ok (.bipush (-6), 2) := by decide +kernel
theorem dX2_figuresOfNet_20 : decode cX2_figuresOfNet 20 = .ok (.ireturn, 1) := by decide +kernel
theorem dX2_figuresOfNet_21 : decode cX2_figuresOfNet 21 = .ok (.aload_n 0, 1) := by decide +kernel
theorem dX2_figuresOfNet_22 : decode cX2_figuresOfNet 22 = .ok (.getfield 9, 3) := by decide +kernel
theorem dX2_figuresOfNet_25 : decode cX2_figuresOfNet 25 = .ok (.iload_n 1, 1) := by decide +kernel
theorem dX2_figuresOfNet_26 : decode cX2_figuresOfNet 26 = .ok (.iaload, 1) := by decide +kernel
theorem dX2_figuresOfNet_27 : decode cX2_figuresOfNet 27 = .ok (.istore_n 2, 1) := by decide +kernel
theorem dX2_figuresOfNet_28 : decode cX2_figuresOfNet 28 = .ok (.iconst 0, 1) := by decide +kernel
theorem dX2_figuresOfNet_29 : decode cX2_figuresOfNet 29 = .ok (.istore_n 3, 1) := by decide +kernel
theorem dX2_figuresOfNet_30 : decode cX2_figuresOfNet 30 = .ok (.iconst 1, 1) := by decide +kernel
theorem dX2_figuresOfNet_31 : decode cX2_figuresOfNet 31 = .ok (.istore 4, 2) := by decide +kernel
theorem dX2_figuresOfNet_33 : decode cX2_figuresOfNet 33 = .ok (.iconst 3, 1) := by decide +kernel
theorem dX2_figuresOfNet_34 : decode cX2_figuresOfNet 34 = .ok (.istore 5, 2) := by decide +kernel
theorem dX2_figuresOfNet_36 : decode cX2_figuresOfNet 36 = .ok (.iload 5, 2) := by decide +kernel
theorem dX2_figuresOfNet_38 : decode cX2_figuresOfNet 38 = .ok (.ifCond .lt 34, 3) := by decide +kernel
theorem dX2_figuresOfNet_41 : decode cX2_figuresOfNet 41 = .ok (.iload_n 3, 1) := by decide +kernel
theorem dX2_figuresOfNet_42 : decode cX2_figuresOfNet 42 = .ok (.iload 4, 2) := by decide +kernel
theorem dX2_figuresOfNet_44 : decode cX2_figuresOfNet 44 = .ok (.iload 5, 2) := by decide +kernel
theorem dX2_figuresOfNet_46 : decode cX2_figuresOfNet 46 = .ok (.iload_n 2, 1) := by decide +kernel
theorem dX2_figuresOfNet_47 : decode cX2_figuresOfNet 47 = .ok (.iconst 3, 1) := by decide +kernel
theorem dX2_figuresOfNet_48 : decode cX2_figuresOfNet 48 = .ok (.irem, 1) := by decide +kernel
theorem dX2_figuresOfNet_49 : decode cX2_figuresOfNet 49 = .ok (.invokestatic 37, 3) := by decide +kernel
theorem dX2_figuresOfNet_52 : decode cX2_figuresOfNet 52 = .ok (.imul, 1) := by decide +kernel
theorem dX2_figuresOfNet_53 : decode cX2_figuresOfNet 53 = .ok (.iadd, 1) := by decide +kernel
theorem dX2_figuresOfNet_54 : decode cX2_figuresOfNet 54 = .ok (.istore_n 3, 1) := by decide +kernel
theorem dX2_figuresOfNet_55 : decode cX2_figuresOfNet 55 = .ok (.iload 4, 2) := by decide +kernel
theorem dX2_figuresOfNet_57 : decode cX2_figuresOfNet 57 = .ok (.bipush 10, 2) := by decide +kernel
theorem dX2_figuresOfNet_59 : decode cX2_figuresOfNet 59 = .ok (.imul, 1) := by decide +kernel
theorem dX2_figuresOfNet_60 : decode cX2_figuresOfNet 60 = .ok (.istore 4, 2) := by decide +kernel
theorem dX2_figuresOfNet_62 : decode cX2_figuresOfNet 62 = .ok (.iload_n 2, 1) := by decide +kernel
theorem dX2_figuresOfNet_63 : decode cX2_figuresOfNet 63 = .ok (.iconst 3, 1) := by decide +kernel
theorem dX2_figuresOfNet_64 : decode cX2_figuresOfNet 64 = .ok (.idiv, 1) := by decide +kernel
theorem dX2_figuresOfNet_65 : decode cX2_figuresOfNet 65 = .ok (.istore_n 2, 1) := by decide +kernel
theorem dX2_figuresOfNet_66 : decode cX2_figuresOfNet 66 = .ok (.iinc 5 (-1), 3) := by decide +kernel
theorem dX2_figuresOfNet_69 : decode cX2_figuresOfNet 69 = .ok (.goto (-33), 3) := by decide +kernel
theorem dX2_figuresOfNet_72 : decode cX2_figuresOfNet 72 = .ok (.iload_n 3, 1) := by decide +kernel
theorem dX2_figuresOfNet_73 : decode cX2_figuresOfNet 73 = .ok (.ireturn, 1) := by decide +kernel
set_option maxRecDepth 20000 in
theorem ggX2_findQuestion_X2_countByThinkers : GoodIn wsX2_findQuestion wsX2_countByThinkers := goodIn_r _ [7, 8, 9, 10, 11, 12, 6, 13, 14, 15, 16, 33, 34, 35, 36, 37, 38] (by decide +kernel) (by decide +kernel)
set_option maxRecDepth 20000 in
theorem gX2_findQuestion_X2_countByThinkers : GoodIn wsX2_findQuestion (wsV RX2 41 RX2 yX2_countByThinkers wsX2_countByThinkers) := goodIn_app (goodIn_of _ (by decide +kernel)) ggX2_findQuestion_X2_countByThinkers
set_option maxRecDepth 20000 in
theorem ggX2_findQuestion_X2_leftAtMost : GoodIn wsX2_findQuestion wsX2_leftAtMost := goodIn_r _ [20, 21, 8, 22, 23, 24, 25, 26, 27, 28, 29, 30, 31, 32, 33, 34, 35, 36, 37, 38] (by decide +kernel) (by decide +kernel)
set_option maxRecDepth 20000 in
theorem gX2_findQuestion_X2_leftAtMost : GoodIn wsX2_findQuestion (wsV RX2 45 RX2 yX2_leftAtMost wsX2_leftAtMost) := goodIn_app (goodIn_of _ (by decide +kernel)) ggX2_findQuestion_X2_leftAtMost
theorem dX2_findQuestion_0 : decode cX2_findQuestion 0 = .ok (.aload_n 0, 1) := by decide +kernel
theorem dX2_findQuestion_1 : decode cX2_findQuestion 1 = .ok (.bipush (-6), 2) := by decide +kernel
theorem dX2_findQuestion_3 : decode cX2_findQuestion 3 = .ok (.putfield 25, 3) := by decide +kernel
theorem dX2_findQuestion_6 : decode cX2_findQuestion 6 = .ok (.aload_n 0, 1) := by decide +kernel
theorem dX2_findQuestion_7 : decode cX2_findQuestion 7 = .ok (.bipush 82, 2) := by decide +kernel
theorem dX2_findQuestion_9 : decode cX2_findQuestion 9 = .ok (.putfield 28, 3) := by decide +kernel
theorem dX2_findQuestion_12 : decode cX2_findQuestion 12 = .ok (.iconst 0, 1) := by decide +kernel
theorem dX2_findQuestion_13 : decode cX2_findQuestion 13 = .ok (.istore_n 1, 1) := by decide +kernel
theorem dX2_findQuestion_14 : decode cX2_findQuestion 14 = .ok (.iload_n 1, 1) := by decide +kernel
theorem dX2_findQuestion_15 : decode cX2_findQuestion 15 = .ok (.iconst 4, 1) := by decide +kernel
theorem dX2_findQuestion_16 : decode cX2_findQuestion 16 = .ok (.if_icmp .ge 78, 3) := by decide +kernel
theorem dX2_findQuestion_19 : decode cX2_findQuestion 19 = .ok (.aload_n 0, 1) := by decide +kernel
theorem dX2_findQuestion_20 : decode cX2_findQuestion 20 = .ok (.iload_n 1, 1) := by decide +kernel
theorem dX2_findQuestion_21 : decode cX2_findQuestion 21 = .ok (.invokevirtual 41, 3) := by decide +kernel
theorem dX2_findQuestion_24 : decode cX2_findQuestion 24 = .ok (.iconst 1, 1) := by decide +kernel
theorem dX2_findQuestion_25 : decode cX2_findQuestion 25 = .ok (.istore_n 2, 1) := by decide +kernel
theorem dX2_findQuestion_26 : decode cX2_findQuestion 26 = .ok (.iload_n 2, 1) := by decide +kernel
theorem dX2_findQuestion_27 : decode cX2_findQuestion 27 = .ok (.bipush 15, 2) := by decide +kernel
theorem dX2_findQuestion_29 : decode cX2_findQuestion 29 = .ok (.if_icmp .gt 59, 3) := by decide +kernel
theorem dX2_findQuestion_32 : decode cX2_findQuestion 32 = .ok (.aload_n 0, 1) := by decide +kernel
theorem dX2_findQuestion_33 : decode cX2_findQuestion 33 = .ok (.iload_n 2, 1) := by decide +kernel
theorem dX2_findQuestion_34 : decode cX2_findQuestion 34 = .ok (.invokevirtual 45, 3) := by decide +kernel
theorem dX2_findQuestion_37 : decode cX2_findQuestion 37 = .ok (.istore_n 3, 1) := by decide +kernel
theorem dX2_findQuestion_38 : decode cX2_findQuestion 38 = .ok (.bipush 10, 2) := by decide +kernel
theorem dX2_findQuestion_40 : decode cX2_findQuestion 40 = .ok (.iload_n 2, 1) := by decide +kernel
theorem dX2_findQuestion_41 : decode cX2_findQuestion 41 = .ok (.imul, 1) := by decide +kernel
theorem dX2_findQuestion_42 : decode cX2_findQuestion 42 = .ok (.iload_n 1, 1) := by decide +kernel
theorem dX2_findQuestion_43 : decode cX2_findQuestion 43 = .ok (.iadd, 1) := by decide +kernel
theorem dX2_findQuestion_44 : decode cX2_findQuestion 44 = .ok (.istore 4, 2) := by decide +kernel
theorem dX2_findQuestion_46 : decode cX2_findQuestion 46 = .ok (.iload_n 3, 1) := by decide +kernel
theorem dX2_findQuestion_47 : decode cX2_findQuestion 47 = .ok (.aload_n 0, 1) := by decide +kernel
theorem dX2_findQuestion_48 : decode cX2_findQuestion 48 = .ok (.getfield 28, 3) := by decide +kernel
theorem dX2_findQuestion_51 : decode cX2_findQuestion 51 = .ok (.if_icmp .lt 20, 3) := by decide +kernel
theorem dX2_findQuestion_54 : decode cX2_findQuestion 54 = .ok (.iload_n 3, 1) := by decide +kernel
theorem dX2_findQuestion_55 : decode cX2_findQuestion 55 = .ok (.aload_n 0, 1) := by decide +kernel
theorem dX2_findQuestion_56 : decode cX2_findQuestion 56 = .ok (.getfield 28, 3) := by decide +kernel
theorem dX2_findQuestion_59 : decode cX2_findQuestion 59 = .ok (.if_icmp .ne 23, 3) := by decide +kernel
theorem dX2_findQuestion_62 : decode cX2_findQuestion 62 = .ok (.iload 4, 2) := by decide +kernel
theorem dX2_findQuestion_64 : decode cX2_findQuestion 64 = .ok (.aload_n 0, 1) := by decide +kernel
theorem dX2_findQuestion_65 : decode cX2_findQuestion 65 = .ok (.getfield 25, 3) := by decide +kernel
theorem dX2_findQuestion_68 : decode cX2_findQuestion 68 = .ok (.if_icmp .ge 14, 3) := by decide +kernel
theorem dX2_findQuestion_71 : decode cX2_findQuestion 71 = .ok (.aload_n 0, 1) := by decide +kernel
theorem dX2_findQuestion_72 : decode cX2_findQuestion 72 = .ok (.iload_n 3, 1) := by decide +kernel
theorem dX2_findQuestion_73 : decode cX2_findQuestion 73 = .ok (.putfield 28, 3) := by decide +kernel
theorem dX2_findQuestion_76 : decode cX2_findQuestion 76 = .ok (.aload_n 0, 1) := by decide +kernel
theorem dX2_findQuestion_77 : decode cX2_findQuestion 77 = .ok (.iload 4, 2) := by decide +kernel
theorem dX2_findQuestion_79 : decode cX2_findQuestion 79 = .ok (.putfield 25, 3) := by decide +kernel
theorem dX2_findQuestion_82 : decode cX2_findQuestion 82 = .ok (.iinc 2 1, 3) := by decide +kernel
theorem dX2_findQuestion_85 : decode cX2_findQuestion 85 = .ok (.goto (-59), 3) := by decide +kernel
theorem dX2_findQuestion_88 : decode cX2_findQuestion 88 = .ok (.iinc 1 1, 3) := by decide +kernel
theorem dX2_findQuestion_91 : decode cX2_findQuestion 91 = .ok (.goto (-77), 3) := by decide +kernel
theorem dX2_findQuestion_94 : decode cX2_findQuestion 94 = .ok (.return_, 1) := by decide +kernel
set_option maxRecDepth 20000 in
theorem ggX2_countByThinkers_X2_thinkersOf : GoodIn wsX2_countByThinkers wsX2_thinkersOf := goodIn_r _ [7, 8, 9, 6, 10] (by decide +kernel) (by decide +kernel)
set_option maxRecDepth 20000 in
theorem gX2_countByThinkers_X2_thinkersOf : GoodIn wsX2_countByThinkers (va_wsS RX2 49 yX2_thinkersOf wsX2_thinkersOf) := goodIn_app (goodIn_of _ (by decide +kernel)) ggX2_countByThinkers_X2_thinkersOf
theorem dX2_countByThinkers_0 : decode cX2_countByThinkers 0 = .ok (.iconst 0, 1) := by decide +kernel
theorem dX2_countByThinkers_1 : decode cX2_countByThinkers 1 = .ok (.istore_n 2, 1) := by decide +kernel
theorem dX2_countByThinkers_2 : decode cX2_countByThinkers 2 = .ok (.iload_n 2, 1) := by decide +kernel
theorem dX2_countByThinkers_3 : decode cX2_countByThinkers 3 = .ok (.bipush 15, 2) := by decide +kernel
theorem dX2_countByThinkers_5 : decode cX2_countByThinkers 5 = .ok (.if_icmp .gt 16, 3) := by decide +kernel
theorem dX2_countByThinkers_8 : decode cX2_countByThinkers 8 = .ok (.aload_n 0, 1) := by decide +kernel
theorem dX2_countByThinkers_9 : decode cX2_countByThinkers 9 = .ok (.getfield 15, 3) := by decide +kernel
theorem dX2_countByThinkers_12 : decode cX2_countByThinkers 12 = .ok (.iload_n 2, 1) := by decide +kernel
theorem dX2_countByThinkers_13 : decode cX2_countByThinkers 13 = .ok (.iconst 0, 1) := by decide +kernel
theorem dX2_countByThinkers_14 : decode cX2_countByThinkers 14 = .ok (.iastore, 1) := by decide +kernel
theorem dX2_countByThinkers_15 : decode cX2_countByThinkers 15 = .ok (.iinc 2 1, 3) := by decide +kernel
theorem dX2_countByThinkers_18 : decode cX2_countByThinkers 18 = .ok (.goto (-16), 3) := by decide +kernel
theorem dX2_countByThinkers_21 : decode cX2_countByThinkers 21 = .ok (.iconst 0, 1) := by decide +kernel
theorem dX2_countByThinkers_22 : decode cX2_countByThinkers 22 = .ok (.istore_n 2, 1) := by decide +kernel
theorem dX2_countByThinkers_23 : decode cX2_countByThinkers 23 = .ok (.iload_n 2, 1) := by decide +kernel
theorem dX2_countByThinkers_24 : decode cX2_countByThinkers 24 = .ok (.aload_n 0, 1) := by decide +kernel
theorem dX2_countByThinkers_25 : decode cX2_countByThinkers 25 = .ok (.getfield 21, 3) := by decide +kernel
theorem dX2_countByThinkers_28 : decode cX2_countByThinkers 28 = .ok (.if_icmp .ge 34, 3) := by decide +kernel
theorem dX2_countByThinkers_31 : decode cX2_countByThinkers 31 = .ok (.iload_n 2, 1) := by decide +kernel
theorem dX2_countByThinkers_32 : decode cX2_countByThinkers 32 = .ok (.bipush 81, 2) := by decide +kernel
theorem dX2_countByThinkers_34 : decode cX2_countByThinkers 34 = .ok (.if_icmp .ge 28, 3) := by decide +kernel
theorem dX2_countByThinkers_37 : decode cX2_countByThinkers 37 = .ok (.aload_n 0, 1) := by decide +kernel
theorem dX2_countByThinkers_38 : decode cX2_countByThinkers 38 = .ok (.getfield 15, 3) := by decide +kernel
theorem dX2_countByThinkers_41 : decode cX2_countByThinkers 41 = .ok (.aload_n 0, 1) := by decide +kernel
theorem dX2_countByThinkers_42 : decode cX2_countByThinkers 42 = .ok (.getfield 9, 3) := by decide +kernel
theorem dX2_countByThinkers_45 : decode cX2_countByThinkers 45 = .ok (.iload_n 2, 1) := by decide +kernel
theorem dX2_countByThinkers_46 : decode cX2_countByThinkers 46 = .ok (.iaload, 1) := by decide +kernel
theorem dX2_countByThinkers_47 : decode cX2_countByThinkers 47 = .ok (.iload_n 1, 1) := by decide +kernel
theorem dX2_countByThinkers_48 : decode cX2_countByThinkers 48 = .ok (.invokestatic 49, 3) := by decide +kernel
theorem dX2_countByThinkers_51 : decode cX2_countByThinkers 51 = .ok (.dup2, 1) := by decide +kernel
theorem dX2_countByThinkers_52 : decode cX2_countByThinkers 52 = .ok (.iaload, 1) := by decide +kernel
theorem dX2_countByThinkers_53 : decode cX2_countByThinkers 53 = .ok (.iconst 1, 1) := by decide +kernel
theorem dX2_countByThinkers_54 : decode cX2_countByThinkers 54 = .ok (.iadd, 1) := by decide +kernel
theorem dX2_countByThinkers_55 : decode cX2_countByThinkers 55 = .ok (.iastore, 1) := by decide +kernel
theorem dX2_countByThinkers_56 : decode cX2_countByThinkers 56 = .ok (.iinc 2 1, 3) := by decide +kernel
theorem dX2_countByThinkers_59 : decode cX2_countByThinkers 59 = .ok (.goto (-36), 3) := by decide +kernel
theorem dX2_countByThinkers_62 : decode cX2_countByThinkers 62 = .ok (.return_, 1) := by decide +kernel
set_option maxRecDepth 20000 in
theorem ggX2_leftAtMost_J6_bitCount_0f7a4 : GoodIn wsX2_leftAtMost wsJ6_bitCount_0f7a4 := goodIn_r _ [10, 11, 12, 13] (by decide +kernel) (by decide +kernel)
set_option maxRecDepth 20000 in
theorem gX2_leftAtMost_J6_bitCount_0f7a4 : GoodIn wsX2_leftAtMost (va_wsS RX2 52 yJ6_bitCount_0f7a4 wsJ6_bitCount_0f7a4) := goodIn_app (goodIn_of _ (by decide +kernel)) ggX2_leftAtMost_J6_bitCount_0f7a4
theorem dX2_leftAtMost_0 : decode cX2_leftAtMost 0 = .ok (.iconst 0, 1) := by decide +kernel
theorem dX2_leftAtMost_1 : decode cX2_leftAtMost 1 = .ok (.istore_n 2, 1) := by decide +kernel
theorem dX2_leftAtMost_2 : decode cX2_leftAtMost 2 = .ok (.iload_n 2, 1) := by decide +kernel
theorem dX2_leftAtMost_3 : decode cX2_leftAtMost 3 = .ok (.iconst 4, 1) := by decide +kernel
theorem dX2_leftAtMost_4 : decode cX2_leftAtMost 4 = .ok (.if_icmp .gt 16, 3) := by decide +kernel
theorem dX2_leftAtMost_7 : decode cX2_leftAtMost 7 = .ok (.aload_n 0, 1) := by decide +kernel
theorem dX2_leftAtMost_8 : decode cX2_leftAtMost 8 = .ok (.getfield 18, 3) := by decide +kernel
theorem dX2_leftAtMost_11 : decode cX2_leftAtMost 11 = .ok (.iload_n 2, 1) := by decide +kernel
theorem dX2_leftAtMost_12 : decode cX2_leftAtMost 12 = .ok (.iconst 0, 1) := by decide +kernel
theorem dX2_leftAtMost_13 : decode cX2_leftAtMost 13 = .ok (.iastore, 1) := by decide +kernel
theorem dX2_leftAtMost_14 : decode cX2_leftAtMost 14 = .ok (.iinc 2 1, 3) := by decide +kernel
theorem dX2_leftAtMost_17 : decode cX2_leftAtMost 17 = .ok (.goto (-15), 3) := by decide +kernel
theorem dX2_leftAtMost_20 : decode cX2_leftAtMost 20 = .ok (.iconst 0, 1) := by decide +kernel
theorem dX2_leftAtMost_21 : decode cX2_leftAtMost 21 = .ok (.istore_n 2, 1) := by decide +kernel
theorem dX2_leftAtMost_22 : decode cX2_leftAtMost 22 = .ok (.iconst 0, 1) := by decide +kernel
theorem dX2_leftAtMost_23 : decode cX2_leftAtMost 23 = .ok (.istore_n 3, 1) := by decide +kernel
theorem dX2_leftAtMost_24 : decode cX2_leftAtMost 24 = .ok (.iload_n 3, 1) := by decide +kernel
theorem dX2_leftAtMost_25 : decode cX2_leftAtMost 25 = .ok (.bipush 15, 2) := by decide +kernel
theorem dX2_leftAtMost_27 : decode cX2_leftAtMost 27 = .ok (.if_icmp .gt 45, 3) := by decide +kernel
theorem dX2_leftAtMost_30 : decode cX2_leftAtMost 30 = .ok (.iload_n 1, 1) := by decide +kernel
theorem dX2_leftAtMost_31 : decode cX2_leftAtMost 31 = .ok (.iload_n 3, 1) := by decide +kernel
theorem dX2_leftAtMost_32 : decode cX2_leftAtMost 32 = .ok (.iand, 1) := by decide +kernel
theorem dX2_leftAtMost_33 : decode cX2_leftAtMost 33 = .ok (.invokestatic 52, 3) := by decide +kernel
theorem dX2_leftAtMost_36 : decode cX2_leftAtMost 36 = .ok (.istore 4, 2) := by decide +kernel
theorem dX2_leftAtMost_38 : decode cX2_leftAtMost 38 = .ok (.aload_n 0, 1) := by decide +kernel
theorem dX2_leftAtMost_39 : decode cX2_leftAtMost 39 = .ok (.getfield 18, 3) := by decide +kernel
theorem dX2_leftAtMost_42 : decode cX2_leftAtMost 42 = .ok (.iload 4, 2) := by decide +kernel
theorem dX2_leftAtMost_44 : decode cX2_leftAtMost 44 = .ok (.dup2, 1) := by decide +kernel
theorem dX2_leftAtMost_45 : decode cX2_leftAtMost 45 = .ok (.iaload, 1) := by decide +kernel
theorem dX2_leftAtMost_46 : decode cX2_leftAtMost 46 = .ok (.aload_n 0, 1) := by decide +kernel
theorem dX2_leftAtMost_47 : decode cX2_leftAtMost 47 = .ok (.getfield 15, 3) := by decide +kernel
theorem dX2_leftAtMost_50 : decode cX2_leftAtMost 50 = .ok (.iload_n 3, 1) := by decide +kernel
theorem dX2_leftAtMost_51 : decode cX2_leftAtMost 51 = .ok (.iaload, 1) := by decide +kernel
theorem dX2_leftAtMost_52 : decode cX2_leftAtMost 52 = .ok (.iadd, 1) := by decide +kernel
theorem dX2_leftAtMost_53 : decode cX2_leftAtMost 53 = .ok (.iastore, 1) := by decide +kernel
theorem dX2_leftAtMost_54 : decode cX2_leftAtMost 54 = .ok (.iload_n 2, 1) := by decide +kernel
theorem dX2_leftAtMost_55 : decode cX2_leftAtMost 55 = .ok (.aload_n 0, 1) := by decide +kernel
theorem dX2_leftAtMost_56 : decode cX2_leftAtMost 56 = .ok (.getfield 18, 3) := by decide +kernel
theorem dX2_leftAtMost_59 : decode cX2_leftAtMost 59 = .ok (.iload 4, 2) := by decide +kernel
theorem dX2_leftAtMost_61 : decode cX2_leftAtMost 61 = .ok (.iaload, 1) := by decide +kernel
theorem dX2_leftAtMost_62 : decode cX2_leftAtMost 62 = .ok (.invokestatic 57, 3) := by decide +kernel
theorem dX2_leftAtMost_65 : decode cX2_leftAtMost 65 = .ok (.istore_n 2, 1) := by decide +kernel
theorem dX2_leftAtMost_66 : decode cX2_leftAtMost 66 = .ok (.iinc 3 1, 3) := by decide +kernel
theorem dX2_leftAtMost_69 : decode cX2_leftAtMost 69 = .ok (.goto (-45), 3) := by decide +kernel
theorem dX2_leftAtMost_72 : decode cX2_leftAtMost 72 = .ok (.iload_n 2, 1) := by decide +kernel
theorem dX2_leftAtMost_73 : decode cX2_leftAtMost 73 = .ok (.ireturn, 1) := by decide +kernel
set_option maxRecDepth 20000 in
theorem ggX3_init_X5_init : GoodIn wsX3_init wsX5_init := goodIn_r _ [20, 21, 2, 3, 22, 23, 24, 25, 26, 27, 28, 29, 30, 31, 32, 33, 34, 41, 42, 43, 44, 45, 46, 47, 48, 49, 50, 51] (by decide +kernel) (by decide +kernel)
set_option maxRecDepth 20000 in
theorem gX3_init_X5_init : GoodIn wsX3_init (wsX5_init) := ggX3_init_X5_init
set_option maxRecDepth 20000 in
theorem ggX3_init_X0_init : GoodIn wsX3_init wsX0_init := goodIn_r _ [36, 37, 2, 3, 38, 39, 40, 60, 61, 62] (by decide +kernel) (by decide +kernel)
set_option maxRecDepth 20000 in
theorem gX3_init_X0_init_n20 : GoodIn wsX3_init (wsX0_init) := ggX3_init_X0_init
theorem dX3_init_0 : decode cX3_init 0 = .ok (.aload_n 0, 1) := by decide +kernel
theorem dX3_init_1 : decode cX3_init 1 = .ok (.invokespecial 3, 3) := by decide +kernel
theorem dX3_init_4 : decode cX3_init 4 = .ok (.aload_n 0, 1) := by decide +kernel
theorem dX3_init_5 : decode cX3_init 5 = .ok (.new 9, 3) := by decide +kernel
theorem dX3_init_8 : decode cX3_init 8 = .ok (.dup, 1) := by decide +kernel
theorem dX3_init_9 : decode cX3_init 9 = .ok (.invokespecial 11, 3) := by decide +kernel
theorem dX3_init_12 : decode cX3_init 12 = .ok (.putfield 12, 3) := by decide +kernel
theorem dX3_init_15 : decode cX3_init 15 = .ok (.aload_n 0, 1) := by decide +kernel
theorem dX3_init_16 : decode cX3_init 16 = .ok (.new 18, 3) := by decide +kernel
theorem dX3_init_19 : decode cX3_init 19 = .ok (.dup, 1) := by decide +kernel
theorem dX3_init_20 : decode cX3_init 20 = .ok (.invokespecial 20, 3) := by decide +kernel
theorem dX3_init_23 : decode cX3_init 23 = .ok (.putfield 21, 3) := by decide +kernel
theorem dX3_init_26 : decode cX3_init 26 = .ok (.aload_n 0, 1) := by decide +kernel
theorem dX3_init_27 : decode cX3_init 27 = .ok (.iconst 0, 1) := by decide +kernel
theorem dX3_init_28 : decode cX3_init 28 = .ok (.putfield 25, 3) := by decide +kernel
theorem dX3_init_31 : decode cX3_init 31 = .ok (.aload_n 0, 1) := by decide +kernel
theorem dX3_init_32 : decode cX3_init 32 = .ok (.bipush (-6), 2) := by decide +kernel
theorem dX3_init_34 : decode cX3_init 34 = .ok (.putfield 29, 3) := by decide +kernel
theorem dX3_init_37 : decode cX3_init 37 = .ok (.aload_n 0, 1) := by decide +kernel
theorem dX3_init_38 : decode cX3_init 38 = .ok (.bipush (-6), 2) := by decide +kernel
theorem dX3_init_40 : decode cX3_init 40 = .ok (.putfield 32, 3) := by decide +kernel
theorem dX3_init_43 : decode cX3_init 43 = .ok (.aload_n 0, 1) := by decide +kernel
theorem dX3_init_44 : decode cX3_init 44 = .ok (.iconst 0, 1) := by decide +kernel
theorem dX3_init_45 : decode cX3_init 45 = .ok (.putfield 35, 3) := by decide +kernel
theorem dX3_init_48 : decode cX3_init 48 = .ok (.aload_n 0, 1) := by decide +kernel
theorem dX3_init_49 : decode cX3_init 49 = .ok (.bipush (-6), 2) := by decide +kernel
theorem dX3_init_51 : decode cX3_init 51 = .ok (.putfield 38, 3) := by decide +kernel
theorem dX3_init_54 : decode cX3_init 54 = .ok (.aload_n 0, 1) := by decide +kernel
theorem dX3_init_55 : decode cX3_init 55 = .ok (.bipush (-6), 2) := by decide +kernel
theorem dX3_init_57 : decode cX3_init 57 = .ok (.putfield 41, 3) := by decide +kernel
theorem dX3_init_60 : decode cX3_init 60 = .ok (.return_, 1) := by decide +kernel
set_option maxRecDepth 20000 in
theorem ggX3_startFrom_X5_copyFrom : GoodIn wsX3_startFrom wsX5_copyFrom := goodIn_r _ [12, 13, 14, 15, 16, 17, 18, 19, 20, 21, 22, 23, 24, 25, 26, 27, 36, 37, 38, 39, 40, 41, 42, 43, 44, 45, 46] (by decide +kernel) (by decide +kernel)
set_option maxRecDepth 20000 in
theorem gX3_startFrom_X5_copyFrom : GoodIn wsX3_startFrom (wsV RX3 44 RX5 yX5_copyFrom wsX5_copyFrom) := goodIn_app (goodIn_of _ (by decide +kernel)) ggX3_startFrom_X5_copyFrom
theorem dX3_startFrom_0 : decode cX3_startFrom 0 = .ok (.aload_n 0, 1) := by decide +kernel
theorem dX3_startFrom_1 : decode cX3_startFrom 1 = .ok (.getfield 12, 3) := by decide +kernel
theorem dX3_startFrom_4 : decode cX3_startFrom 4 = .ok (.aload_n 1, 1) := by decide +kernel
theorem dX3_startFrom_5 : decode cX3_startFrom 5 = .ok (.invokevirtual 44, 3) := by decide +kernel
theorem dX3_startFrom_8 : decode cX3_startFrom 8 = .ok (.aload_n 0, 1) := by decide +kernel
theorem dX3_startFrom_9 : decode cX3_startFrom 9 = .ok (.iconst 0, 1) := by decide +kernel
theorem dX3_startFrom_10 : decode cX3_startFrom 10 = .ok (.putfield 25, 3) := by decide +kernel
theorem dX3_startFrom_13 : decode cX3_startFrom 13 = .ok (.aload_n 0, 1) := by decide +kernel
theorem dX3_startFrom_14 : decode cX3_startFrom 14 = .ok (.bipush (-6), 2) := by decide +kernel
theorem dX3_startFrom_16 : decode cX3_startFrom 16 = .ok (.putfield 29, 3) := by decide +kernel
theorem dX3_startFrom_19 : decode cX3_startFrom 19 = .ok (.aload_n 0, 1) := by decide +kernel
theorem dX3_startFrom_20 : decode cX3_startFrom 20 = .ok (.bipush (-6), 2) := by decide +kernel
theorem dX3_startFrom_22 : decode cX3_startFrom 22 = .ok (.putfield 32, 3) := by decide +kernel
theorem dX3_startFrom_25 : decode cX3_startFrom 25 = .ok (.aload_n 0, 1) := by decide +kernel
theorem dX3_startFrom_26 : decode cX3_startFrom 26 = .ok (.iconst 0, 1) := by decide +kernel
theorem dX3_startFrom_27 : decode cX3_startFrom 27 = .ok (.putfield 35, 3) := by decide +kernel
theorem dX3_startFrom_30 : decode cX3_startFrom 30 = .ok (.aload_n 0, 1) := by decide +kernel
theorem dX3_startFrom_31 : decode cX3_startFrom 31 = .ok (.bipush (-6), 2) := by decide +kernel
theorem dX3_startFrom_33 : decode cX3_startFrom 33 = .ok (.putfield 38, 3) := by decide +kernel
theorem dX3_startFrom_36 : decode cX3_startFrom 36 = .ok (.aload_n 0, 1) := by decide +kernel
theorem dX3_startFrom_37 : decode cX3_startFrom 37 = .ok (.bipush (-6), 2) := by decide +kernel
theorem dX3_startFrom_39 : decode cX3_startFrom 39 = .ok (.putfield 41, 3) := by decide +kernel
theorem dX3_startFrom_42 : decode cX3_startFrom 42 = .ok (.return_, 1) := by decide +kernel
set_option maxRecDepth 20000 in
theorem ggX3_follow_X4_actAt : GoodIn wsX3_follow wsX4_actAt := goodIn_r _ [9, 10, 11, 12, 8, 13, 14, 15, 16, 17, 18, 19, 20, 21, 22, 23, 24, 25, 26, 27, 28, 29, 125, 126, 135, 136, 137] (by decide +kernel) (by decide +kernel)
set_option maxRecDepth 20000 in
theorem gX3_follow_X4_actAt : GoodIn wsX3_follow (wsV RX3 53 RX4 yX4_actAt wsX4_actAt) := goodIn_app (goodIn_of _ (by decide +kernel)) ggX3_follow_X4_actAt
set_option maxRecDepth 20000 in
theorem ggX3_follow_X3_tryAct : GoodIn wsX3_follow wsX3_tryAct := goodIn_r _ [34, 3, 35, 36, 37, 38, 39, 19, 40, 21, 22, 23, 41, 25, 42, 27, 28, 29, 43, 44, 24, 26, 45, 46, 47, 48, 49, 50, 51, 52, 53, 54, 55, 56, 57, 58, 59, 60, 61, 62, 63, 64, 65, 66, 67, 68, 69, 70, 71, 72, 73, 74, 75, 76, 77, 78, 79, 80, 81, 82, 83, 84, 85, 86, 87, 88, 89, 90, 91, 92, 93, 94, 95, 96, 97, 98, 99, 100, 101, 102, 103, 104, 105, 33, 106, 107, 108, 109, 110, 111, 112, 113, 114, 115, 116, 117, 118, 119, 120, 127, 128, 129, 130, 131, 132, 133, 134, 135, 136, 137, 138, 139, 140, 141, 142, 143, 144, 145, 146, 147, 148] (by decide +kernel) (by decide +kernel)
set_option maxRecDepth 20000 in
theorem gX3_follow_X3_tryAct : GoodIn wsX3_follow (wsV RX3 57 RX3 yX3_tryAct wsX3_tryAct) := goodIn_app (goodIn_of _ (by decide +kernel)) ggX3_follow_X3_tryAct
set_option maxRecDepth 20000 in
theorem ggX3_follow_X4_signsOfAct : GoodIn wsX3_follow wsX4_signsOfAct := goodIn_r _ [124, 10, 11, 12, 8, 13, 14, 15, 41, 25, 42, 27, 28, 29, 125, 126] (by decide +kernel) (by decide +kernel)
set_option maxRecDepth 20000 in
theorem gX3_follow_X4_signsOfAct : GoodIn wsX3_follow (wsV RX3 61 RX4 yX4_signsOfAct wsX4_signsOfAct) := goodIn_app (goodIn_of _ (by decide +kernel)) ggX3_follow_X4_signsOfAct
theorem dX3_follow_0 : decode cX3_follow 0 = .ok (.iconst 0, 1) := by decide +kernel
theorem dX3_follow_1 : decode cX3_follow 1 = .ok (.istore_n 2, 1) := by decide +kernel
theorem dX3_follow_2 : decode cX3_follow 2 = .ok (.iconst 0, 1) := by decide +kernel
theorem dX3_follow_3 : decode cX3_follow 3 = .ok (.istore_n 3, 1) := by decide +kernel
theorem dX3_follow_4 : decode cX3_follow 4 = .ok (.iload_n 3, 1) := by decide +kernel
theorem dX3_follow_5 : decode cX3_follow 5 = .ok (.bipush 60, 2) := by decide +kernel
theorem dX3_follow_7 : decode cX3_follow 7 = .ok (.if_icmp .ge 65, 3) := by decide +kernel
theorem dX3_follow_10 : decode cX3_follow 10 = .ok (.iload_n 2, 1) := by decide +kernel
theorem dX3_follow_11 : decode cX3_follow 11 = .ok (.aload_n 1, 1) := by decide +kernel
theorem dX3_follow_12 : decode cX3_follow 12 = .ok (.getfield 48, 3) := by decide +kernel
theorem dX3_follow_15 : decode cX3_follow 15 = .ok (.if_icmp .ge 57, 3) := by decide +kernel
theorem dX3_follow_18 : decode cX3_follow 18 = .ok (.aload_n 0, 1) := by decide +kernel
theorem dX3_follow_19 : decode cX3_follow 19 = .ok (.getfield 29, 3) := by decide +kernel
theorem dX3_follow_22 : decode cX3_follow 22 = .ok (.bipush (-6), 2) := by decide +kernel
theorem dX3_follow_24 : decode cX3_follow 24 = .ok (.if_icmp .ne 48, 3) := by decide +kernel
theorem dX3_follow_27 : decode cX3_follow 27 = .ok (.aload_n 1, 1) := by decide +kernel
theorem dX3_follow_28 : decode cX3_follow 28 = .ok (.iload_n 2, 1) := by decide +kernel
theorem dX3_follow_29 : decode cX3_follow 29 = .ok (.aload_n 0, 1) := by decide +kernel
theorem dX3_follow_30 : decode cX3_follow 30 = .ok (.getfield 21, 3) := by decide +kernel
theorem dX3_follow_33 : decode cX3_follow 33 = .ok (.invokevirtual 53, 3) := by decide +kernel
theorem dX3_follow_36 : decode cX3_follow 36 = .ok (.aload_n 0, 1) := by decide +kernel
theorem dX3_follow_37 : decode cX3_follow 37 = .ok (.invokevirtual 57, 3) := by decide +kernel
theorem dX3_follow_40 : decode cX3_follow 40 = .ok (.istore 4, 2) := by decide +kernel
theorem dX3_follow_42 : decode cX3_follow 42 = .ok (.iload 4, 2) := by decide +kernel
theorem dX3_follow_44 : decode cX3_follow 44 = .ok (.ifCond .eq 14, 3) := by decide +kernel
theorem dX3_follow_47 : decode cX3_follow 47 = .ok (.aload_n 0, 1) := by decide +kernel
theorem dX3_follow_48 : decode cX3_follow 48 = .ok (.iload_n 3, 1) := by decide +kernel
theorem dX3_follow_49 : decode cX3_follow 49 = .ok (.putfield 29, 3) := by decide +kernel
theorem dX3_follow_52 : decode cX3_follow 52 = .ok (.aload_n 0, 1) := by decide +kernel
theorem dX3_follow_53 : decode cX3_follow 53 = .ok (.iload 4, 2) := by decide +kernel
theorem dX3_follow_55 : decode cX3_follow 55 = .ok (.putfield 32, 3) := by decide +kernel
theorem dX3_follow_58 : decode cX3_follow 58 = .ok (.iload_n 2, 1) := by decide +kernel
