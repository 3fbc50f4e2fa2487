theorem dX0_init_0 : decode cX0_init 0 = .ok (.aload_n 0, 1) := by decide +kernel
theorem dX0_init_1 : decode cX0_init 1 = .ok (.invokespecial 3, 3) := by decide +kernel
theorem dX0_init_4 : decode cX0_init 4 = .ok (.aload_n 0, 1) := by decide +kernel
theorem dX0_init_5 : decode cX0_init 5 = .ok (.iconst 3, 1) := by decide +kernel
theorem dX0_init_6 : decode cX0_init 6 = .ok (.newarray .int, 2) := by decide +kernel
theorem dX0_init_8 : decode cX0_init 8 = .ok (.putfield 9, 3) := by decide +kernel
theorem dX0_init_11 : decode cX0_init 11 = .ok (.return_, 1) := by decide +kernel
theorem dX0_begin_0 : decode cX0_begin 0 = .ok (.aload_n 0, 1) := by decide +kernel
theorem dX0_begin_1 : decode cX0_begin 1 = .ok (.iload_n 1, 1) := by decide +kernel
theorem dX0_begin_2 : decode cX0_begin 2 = .ok (.putfield 15, 3) := by decide +kernel
theorem dX0_begin_5 : decode cX0_begin 5 = .ok (.aload_n 0, 1) := by decide +kernel
theorem dX0_begin_6 : decode cX0_begin 6 = .ok (.iload_n 2, 1) := by decide +kernel
theorem dX0_begin_7 : decode cX0_begin 7 = .ok (.putfield 19, 3) := by decide +kernel
theorem dX0_begin_10 : decode cX0_begin 10 = .ok (.aload_n 0, 1) := by decide +kernel
theorem dX0_begin_11 : decode cX0_begin 11 = .ok (.iload_n 3, 1) := by decide +kernel
theorem dX0_begin_12 : decode cX0_begin 12 = .ok (.putfield 22, 3) := by decide +kernel
theorem dX0_begin_15 : decode cX0_begin 15 = .ok (.aload_n 0, 1) := by decide +kernel
theorem dX0_begin_16 : decode cX0_begin 16 = .ok (.iload 4, 2) := by decide +kernel
theorem dX0_begin_18 : decode cX0_begin 18 = .ok (.putfield 25, 3) := by decide +kernel
theorem dX0_begin_21 : decode cX0_begin 21 = .ok (.aload_n 0, 1) := by decide +kernel
theorem dX0_begin_22 : decode cX0_begin 22 = .ok (.iconst 0, 1) := by decide +kernel
theorem dX0_begin_23 : decode cX0_begin 23 = .ok (.putfield 28, 3) := by decide +kernel
theorem dX0_begin_26 : decode cX0_begin 26 = .ok (.return_, 1) := by decide +kernel
theorem dX0_add_0 : decode cX0_add 0 = .ok (.aload_n 0, 1) := by decide +kernel
theorem dX0_add_1 : decode cX0_add 1 = .ok (.getfield 28, 3) := by decide +kernel
theorem dX0_add_4 : decode cX0_add 4 = .ok (.ifCond .lt 15, 3) := by decide +kernel
theorem dX0_add_7 : decode cX0_add 7 = .ok (.aload_n 0, 1) := by decide +kernel
theorem dX0_add_8 : decode cX0_add 8 = .ok (.getfield 28, 3) := by decide +kernel
theorem dX0_add_11 : decode cX0_add 11 = .ok (.aload_n 0, 1) := by decide +kernel
theorem dX0_add_12 : decode cX0_add 12 = .ok (.getfield 9, 3) := by decide +kernel
theorem dX0_add_15 : decode cX0_add 15 = .ok (.arraylength, 1) := by decide +kernel
theorem dX0_add_16 : decode cX0_add 16 = .ok (.if_icmp .lt 4, 3) := by decide +kernel
theorem dX0_add_19 : decode cX0_add 19 = .ok (.return_, 1) := by decide +kernel
theorem dX0_add_20 : decode cX0_add 20 = .ok (.aload_n 0, 1) := by decide +kernel
theorem dX0_add_21 : decode cX0_add 21 = .ok (.getfield 9, 3) := by decide +kernel
theorem dX0_add_24 : decode cX0_add 24 = .ok (.aload_n 0, 1) := by decide +kernel
theorem dX0_add_25 : decode cX0_add 25 = .ok (.getfield 28, 3) := by decide +kernel
theorem dX0_add_28 : decode cX0_add 28 = .ok (.iload_n 1, 1) := by decide +kernel
theorem dX0_add_29 : decode cX0_add 29 = .ok (.iastore, 1) := by decide +kernel
theorem dX0_add_30 : decode cX0_add 30 = .ok (.aload_n 0, 1) := by decide +kernel
theorem dX0_add_31 : decode cX0_add 31 = .ok (.dup, 1) := by decide +kernel
theorem dX0_add_32 : decode cX0_add 32 = .ok (.getfield 28, 3) := by decide +kernel
theorem dX0_add_35 : decode cX0_add 35 = .ok (.iconst 1, 1) := by decide +kernel
theorem dX0_add_36 : decode cX0_add 36 = .ok (.iadd, 1) := by decide +kernel
theorem dX0_add_37 : decode cX0_add 37 = .ok (.putfield 28, 3) := by decide +kernel
theorem dX0_add_40 : decode cX0_add 40 = .ok (.return_, 1) := by decide +kernel
theorem dX0_causeAt_0 : decode cX0_causeAt 0 = .ok (.iload_n 1, 1) := by decide +kernel
theorem dX0_causeAt_1 : decode cX0_causeAt 1 = .ok (.ifCond .lt 29, 3) := by decide +kernel
theorem dX0_causeAt_4 : decode cX0_causeAt 4 = .ok (.iload_n 1, 1) := by decide +kernel
theorem dX0_causeAt_5 : decode cX0_causeAt 5 = .ok (.aload_n 0, 1) := by decide +kernel
theorem dX0_causeAt_6 : decode cX0_causeAt 6 = .ok (.getfield 28, 3) := by decide +kernel
theorem dX0_causeAt_9 : decode cX0_causeAt 9 = .ok (.if_icmp .ge 21, 3) := by decide +kernel
theorem dX0_causeAt_12 : decode cX0_causeAt 12 = .ok (.iload_n 1, 1) := by decide +kernel
theorem dX0_causeAt_13 : decode cX0_causeAt 13 = .ok (.aload_n 0, 1) := by decide +kernel
theorem dX0_causeAt_14 : decode cX0_causeAt 14 = .ok (.getfield 9, 3) := by decide +kernel
theorem dX0_causeAt_17 : decode cX0_causeAt 17 = .ok (.arraylength, 1) := by decide +kernel
theorem dX0_causeAt_18 : decode cX0_causeAt 18 = .ok (.if_icmp .ge 12, 3) := by decide +kernel
theorem dX0_causeAt_21 : decode cX0_causeAt 21 = .ok (.aload_n 0, 1) := by decide +kernel
theorem dX0_causeAt_22 : decode cX0_causeAt 22 = .ok (.getfield 9, 3) := by decide +kernel
theorem dX0_causeAt_25 : decode cX0_causeAt 25 = .ok (.iload_n 1, 1) := by decide +kernel
theorem dX0_causeAt_26 : decode cX0_causeAt 26 = .ok (.iaload, 1) := by decide +kernel
theorem dX0_causeAt_27 : decode cX0_causeAt 27 = .ok (.goto 5, 3) := by decide +kernel
theorem dX0_causeAt_30 : decode cX0_causeAt 30 = .ok (.bipush (-2), 2) := by decide +kernel
theorem dX0_causeAt_32 : decode cX0_causeAt 32 = .ok (.ireturn, 1) := by decide +kernel
theorem dX1_init_0 : decode cX1_init 0 = .ok (.aload_n 0, 1) := by decide +kernel
theorem dX1_init_1 : decode cX1_init 1 = .ok (.invokespecial 3, 3) := by decide +kernel
theorem dX1_init_4 : decode cX1_init 4 = .ok (.aload_n 0, 1) := by decide +kernel
theorem dX1_init_5 : decode cX1_init 5 = .ok (.bipush 120, 2) := by decide +kernel
theorem dX1_init_7 : decode cX1_init 7 = .ok (.newarray .long, 2) := by decide +kernel
theorem dX1_init_9 : decode cX1_init 9 = .ok (.putfield 9, 3) := by decide +kernel
theorem dX1_init_12 : decode cX1_init 12 = .ok (.aload_n 0, 1) := by decide +kernel
theorem dX1_init_13 : decode cX1_init 13 = .ok (.sipush 7200, 3) := by decide +kernel
theorem dX1_init_16 : decode cX1_init 16 = .ok (.newarray .int, 2) := by decide +kernel
theorem dX1_init_18 : decode cX1_init 18 = .ok (.putfield 15, 3) := by decide +kernel
theorem dX1_init_21 : decode cX1_init 21 = .ok (.return_, 1) := by decide +kernel
set_option maxRecDepth 20000 in
theorem ggX1_holds_J7_fill_d0a16 : GoodIn wsX1_holds wsJ7_fill_d0a16 := goodIn_r _ [7] (by decide +kernel) (by decide +kernel)
set_option maxRecDepth 20000 in
theorem gX1_holds_J7_fill_d0a16 : GoodIn wsX1_holds (va_wsS RX1 19 yJ7_fill_d0a16 wsJ7_fill_d0a16) := goodIn_app (goodIn_of _ (by decide +kernel)) ggX1_holds_J7_fill_d0a16
set_option maxRecDepth 20000 in
theorem ggX1_holds_X1_add : GoodIn wsX1_holds wsX1_add := goodIn_r _ [12, 1, 2, 3, 47, 48, 49] (by decide +kernel) (by decide +kernel)
set_option maxRecDepth 20000 in
theorem gX1_holds_X1_add : GoodIn wsX1_holds (wsV RX1 29 RX1 yX1_add wsX1_add) := goodIn_app (goodIn_of _ (by decide +kernel)) ggX1_holds_X1_add
set_option maxRecDepth 20000 in
theorem ggX1_holds_X1_spread : GoodIn wsX1_holds wsX1_spread := goodIn_r _ [16, 17, 18, 19, 20, 21, 22, 23, 24, 25, 26, 27, 28, 29, 30, 31, 32, 33, 8, 9, 10, 11, 12, 1, 2, 3, 34, 35, 36, 37, 38, 39, 40, 41, 42, 43, 44, 45, 46, 50, 51, 52, 53, 54, 55, 56, 57, 58, 47, 48, 49] (by decide +kernel) (by decide +kernel)
set_option maxRecDepth 20000 in
theorem gX1_holds_X1_spread : GoodIn wsX1_holds (wsV RX1 33 RX1 yX1_spread wsX1_spread) := goodIn_app (goodIn_of _ (by decide +kernel)) ggX1_holds_X1_spread
theorem dX1_holds_0 : decode cX1_holds 0 = .ok (.aload_n 0, 1) := by decide +kernel
theorem dX1_holds_1 : decode cX1_holds 1 = .ok (.getfield 9, 3) := by decide +kernel
theorem dX1_holds_4 : decode cX1_holds 4 = .ok (.lconst 0, 1) := by decide +kernel
theorem dX1_holds_5 : decode cX1_holds 5 = .ok (.invokestatic 19, 3) := by decide +kernel
theorem dX1_holds_8 : decode cX1_holds 8 = .ok (.aload_n 0, 1) := by decide +kernel
theorem dX1_holds_9 : decode cX1_holds 9 = .ok (.iconst 0, 1) := by decide +kernel
theorem dX1_holds_10 : decode cX1_holds 10 = .ok (.putfield 25, 3) := by decide +kernel
theorem dX1_holds_13 : decode cX1_holds 13 = .ok (.aload_n 0, 1) := by decide +kernel
theorem dX1_holds_14 : decode cX1_holds 14 = .ok (.iconst 0, 1) := by decide +kernel
theorem dX1_holds_15 : decode cX1_holds 15 = .ok (.iload_n 2, 1) := by decide +kernel
theorem dX1_holds_16 : decode cX1_holds 16 = .ok (.iload 4, 2) := by decide +kernel
theorem dX1_holds_18 : decode cX1_holds 18 = .ok (.invokevirtual 29, 3) := by decide +kernel
theorem dX1_holds_21 : decode cX1_holds 21 = .ok (.iconst 0, 1) := by decide +kernel
theorem dX1_holds_22 : decode cX1_holds 22 = .ok (.istore 6, 2) := by decide +kernel
theorem dX1_holds_24 : decode cX1_holds 24 = .ok (.iload 6, 2) := by decide +kernel
theorem dX1_holds_26 : decode cX1_holds 26 = .ok (.aload_n 0, 1) := by decide +kernel
theorem dX1_holds_27 : decode cX1_holds 27 = .ok (.getfield 25, 3) := by decide +kernel
theorem dX1_holds_30 : decode cX1_holds 30 = .ok (.if_icmp .ge 104, 3) := by decide +kernel
theorem dX1_holds_33 : decode cX1_holds 33 = .ok (.iload 6, 2) := by decide +kernel
theorem dX1_holds_35 : decode cX1_holds 35 = .ok (.aload_n 0, 1) := by decide +kernel
theorem dX1_holds_36 : decode cX1_holds 36 = .ok (.getfield 15, 3) := by decide +kernel
theorem dX1_holds_39 : decode cX1_holds 39 = .ok (.arraylength, 1) := by decide +kernel
theorem dX1_holds_40 : decode cX1_holds 40 = .ok (.if_icmp .ge 94, 3) := by decide +kernel
theorem dX1_holds_43 : decode cX1_holds 43 = .ok (.aload_n 0, 1) := by decide +kernel
theorem dX1_holds_44 : decode cX1_holds 44 = .ok (.getfield 15, 3) := by decide +kernel
theorem dX1_holds_47 : decode cX1_holds 47 = .ok (.iload 6, 2) := by decide +kernel
theorem dX1_holds_49 : decode cX1_holds 49 = .ok (.iaload, 1) := by decide +kernel
theorem dX1_holds_50 : decode cX1_holds 50 = .ok (.sipush 3600, 3) := by decide +kernel
theorem dX1_holds_53 : decode cX1_holds 53 = .ok (.idiv, 1) := by decide +kernel
theorem dX1_holds_54 : decode cX1_holds 54 = .ok (.istore 7, 2) := by decide +kernel
theorem dX1_holds_56 : decode cX1_holds 56 = .ok (.aload_n 0, 1) := by decide +kernel
theorem dX1_holds_57 : decode cX1_holds 57 = .ok (.getfield 15, 3) := by decide +kernel
theorem dX1_holds_60 : decode cX1_holds 60 = .ok (.iload 6, 2) := by decide +kernel
theorem dX1_holds_62 : decode cX1_holds 62 = .ok (.iaload, 1) := by decide +kernel
theorem dX1_holds_63 : decode cX1_holds 63 = .ok (.bipush 60, 2) := by decide +kernel
theorem dX1_holds_65 : decode cX1_holds 65 = .ok (.idiv, 1) := by decide +kernel
theorem dX1_holds_66 : decode cX1_holds 66 = .ok (.bipush 60, 2) := by decide +kernel
theorem dX1_holds_68 : decode cX1_holds 68 = .ok (.irem, 1) := by decide +kernel
theorem dX1_holds_69 : decode cX1_holds 69 = .ok (.istore 8, 2) := by decide +kernel
theorem dX1_holds_71 : decode cX1_holds 71 = .ok (.aload_n 0, 1) := by decide +kernel
theorem dX1_holds_72 : decode cX1_holds 72 = .ok (.getfield 15, 3) := by decide +kernel
theorem dX1_holds_75 : decode cX1_holds 75 = .ok (.iload 6, 2) := by decide +kernel
theorem dX1_holds_77 : decode cX1_holds 77 = .ok (.iaload, 1) := by decide +kernel
theorem dX1_holds_78 : decode cX1_holds 78 = .ok (.bipush 60, 2) := by decide +kernel
theorem dX1_holds_80 : decode cX1_holds 80 = .ok (.irem, 1) := by decide +kernel
theorem dX1_holds_81 : decode cX1_holds 81 = .ok (.istore 9, 2) := by decide +kernel
theorem dX1_holds_83 : decode cX1_holds 83 = .ok (.iload 7, 2) := by decide +kernel
theorem dX1_holds_85 : decode cX1_holds 85 = .ok (.ifCond .ne 7, 3) := by decide +kernel
theorem dX1_holds_88 : decode cX1_holds 88 = .ok (.aload_n 1, 1) := by decide +kernel
theorem dX1_holds_89 : decode cX1_holds 89 = .ok (.goto 4, 3) := by decide +kernel
theorem dX1_holds_92 : decode cX1_holds 92 = .ok (.aload_n 3, 1) := by decide +kernel
theorem dX1_holds_93 : decode cX1_holds 93 = .ok (.astore 10, 2) := by decide +kernel
theorem dX1_holds_95 : decode cX1_holds 95 = .ok (.iload 7, 2) := by decide +kernel
theorem dX1_holds_97 : decode cX1_holds 97 = .ok (.ifCond .ne 7, 3) := by decide +kernel
theorem dX1_holds_100 : decode cX1_holds 100 = .ok (.aload_n 3, 1) := by decide +kernel
theorem dX1_holds_101 : decode cX1_holds 101 = .ok (.goto 4, 3) := by decide +kernel
theorem dX1_holds_104 : decode cX1_holds 104 = .ok (.aload_n 1, 1) := by decide +kernel
theorem dX1_holds_105 : decode cX1_holds 105 = .ok (.astore 11, 2) := by decide +kernel
theorem dX1_holds_107 : decode cX1_holds 107 = .ok (.aload_n 0, 1) := by decide +kernel
theorem dX1_holds_108 : decode cX1_holds 108 = .ok (.aload 10, 2) := by decide +kernel
theorem dX1_holds_110 : decode cX1_holds 110 = .ok (.iload 8, 2) := by decide +kernel
theorem dX1_holds_112 : decode cX1_holds 112 = .ok (.aload 11, 2) := by decide +kernel
theorem dX1_holds_114 : decode cX1_holds 114 = .ok (.iload 9, 2) := by decide +kernel
theorem dX1_holds_116 : decode cX1_holds 116 = .ok (.iload 7, 2) := by decide +kernel
theorem dX1_holds_118 : decode cX1_holds 118 = .ok (.iload 5, 2) := by decide +kernel
theorem dX1_holds_120 : decode cX1_holds 120 = .ok (.invokevirtual 33, 3) := by decide +kernel
theorem dX1_holds_123 : decode cX1_holds 123 = .ok (.ifCond .ne 5, 3) := by decide +kernel
theorem dX1_holds_126 : decode cX1_holds 126 = .ok (.iconst 0, 1) := by decide +kernel
theorem dX1_holds_127 : decode cX1_holds 127 = .ok (.ireturn, 1) := by decide +kernel
theorem dX1_holds_128 : decode cX1_holds 128 = .ok (.iinc 6 1, 3) := by decide +kernel
theorem dX1_holds_131 : decode cX1_holds 131 = .ok (.goto (-107), 3) := by decide +kernel
theorem dX1_holds_134 : decode cX1_holds 134 = .ok (.iconst 1, 1) := by decide +kernel
theorem dX1_holds_135 : decode cX1_holds 135 = .ok (.ireturn, 1) := by decide +kernel
set_option maxRecDepth 20000 in
theorem ggX1_spread_X7_kindOf : GoodIn wsX1_spread wsX7_kindOf := goodIn_r _ [5, 6, 39, 40, 41, 42, 43, 44, 45, 46, 47] (by decide +kernel) (by decide +kernel)
set_option maxRecDepth 20000 in
theorem gX1_spread_X7_kindOf : GoodIn wsX1_spread (wsV RX1 37 RX7 yX7_kindOf wsX7_kindOf) := goodIn_app (goodIn_of _ (by decide +kernel)) ggX1_spread_X7_kindOf
set_option maxRecDepth 20000 in
theorem ggX1_spread_X7_sortOf : GoodIn wsX1_spread wsX7_sortOf := goodIn_r _ [10, 11, 39, 40, 41, 42, 43, 44, 45, 46, 47] (by decide +kernel) (by decide +kernel)
set_option maxRecDepth 20000 in
theorem gX1_spread_X7_sortOf : GoodIn wsX1_spread (wsV RX1 43 RX7 yX7_sortOf wsX7_sortOf) := goodIn_app (goodIn_of _ (by decide +kernel)) ggX1_spread_X7_sortOf
set_option maxRecDepth 20000 in
theorem ggX1_spread_X7_innerOf : GoodIn wsX1_spread wsX7_innerOf := goodIn_r _ [15, 16, 17, 39, 40, 41, 42, 43, 44, 45, 46, 47] (by decide +kernel) (by decide +kernel)
set_option maxRecDepth 20000 in
theorem gX1_spread_X7_innerOf : GoodIn wsX1_spread (wsV RX1 46 RX7 yX7_innerOf wsX7_innerOf) := goodIn_app (goodIn_of _ (by decide +kernel)) ggX1_spread_X7_innerOf
set_option maxRecDepth 20000 in
theorem ggX1_spread_X1_add : GoodIn wsX1_spread wsX1_add := goodIn_r _ [22, 23, 24, 25, 48, 49, 50] (by decide +kernel) (by decide +kernel)
set_option maxRecDepth 20000 in
theorem gX1_spread_X1_add : GoodIn wsX1_spread (wsV RX1 29 RX1 yX1_add wsX1_add) := goodIn_app (goodIn_of _ (by decide +kernel)) ggX1_spread_X1_add
set_option maxRecDepth 20000 in
theorem ggX1_spread_X7_stepOf : GoodIn wsX1_spread wsX7_stepOf := goodIn_r _ [29, 30, 17, 39, 40, 41, 42, 43, 44, 45, 46, 47] (by decide +kernel) (by decide +kernel)
set_option maxRecDepth 20000 in
theorem gX1_spread_X7_stepOf : GoodIn wsX1_spread (wsV RX1 49 RX7 yX7_stepOf wsX7_stepOf) := goodIn_app (goodIn_of _ (by decide +kernel)) ggX1_spread_X7_stepOf
set_option maxRecDepth 20000 in
theorem ggX1_spread_X7_labelsOf : GoodIn wsX1_spread wsX7_labelsOf := goodIn_r _ [34, 35, 39, 40, 41, 42, 43, 44, 45, 46, 47] (by decide +kernel) (by decide +kernel)
set_option maxRecDepth 20000 in
theorem gX1_spread_X7_labelsOf : GoodIn wsX1_spread (wsV RX1 53 RX7 yX7_labelsOf wsX7_labelsOf) := goodIn_app (goodIn_of _ (by decide +kernel)) ggX1_spread_X7_labelsOf
set_option maxRecDepth 20000 in
theorem ggX1_spread_X1_labelsFit : GoodIn wsX1_spread wsX1_labelsFit := goodIn_r _ [38] (by decide +kernel) (by decide +kernel)
set_option maxRecDepth 20000 in
theorem gX1_spread_X1_labelsFit : GoodIn wsX1_spread (va_wsS RX1 56 yX1_labelsFit wsX1_labelsFit) := goodIn_app (goodIn_of _ (by decide +kernel)) ggX1_spread_X1_labelsFit
theorem dX1_spread_0 : decode cX1_spread 0 = .ok (.aload_n 1, 1) := by decide +kernel
theorem dX1_spread_1 : decode cX1_spread 1 = .ok (.iload_n 2, 1) := by decide +kernel
theorem dX1_spread_2 : decode cX1_spread 2 = .ok (.invokevirtual 37, 3) := by decide +kernel
theorem dX1_spread_5 : decode cX1_spread 5 = .ok (.istore 7, 2) := by decide +kernel
theorem dX1_spread_7 : decode cX1_spread 7 = .ok (.iload 7, 2) := by decide +kernel
theorem dX1_spread_9 : decode cX1_spread 9 = .ok (.aload_n 3, 1) := by decide +kernel
theorem dX1_spread_10 : decode cX1_spread 10 = .ok (.iload 4, 2) := by decide +kernel
theorem dX1_spread_12 : decode cX1_spread 12 = .ok (.invokevirtual 37, 3) := by decide +kernel
theorem dX1_spread_15 : decode cX1_spread 15 = .ok (.if_icmp .ne 17, 3) := by decide +kernel
theorem dX1_spread_18 : decode cX1_spread 18 = .ok (.aload_n 1, 1) := by decide +kernel
theorem dX1_spread_19 : decode cX1_spread 19 = .ok (.iload_n 2, 1) := by decide +kernel
theorem dX1_spread_20 : decode cX1_spread 20 = .ok (.invokevirtual 43, 3) := by decide +kernel
theorem dX1_spread_23 : decode cX1_spread 23 = .ok (.aload_n 3, 1) := by decide +kernel
theorem dX1_spread_24 : decode cX1_spread 24 = .ok (.iload 4, 2) := by decide +kernel
theorem dX1_spread_26 : decode cX1_spread 26 = .ok (.invokevirtual 43, 3) := by decide +kernel
theorem dX1_spread_29 : decode cX1_spread 29 = .ok (.if_icmp .eq 5, 3) := by decide +kernel
theorem dX1_spread_32 : decode cX1_spread 32 = .ok (.iconst 0, 1) := by decide +kernel
theorem dX1_spread_33 : decode cX1_spread 33 = .ok (.ireturn, 1) := by decide +kernel
theorem dX1_spread_34 : decode cX1_spread 34 = .ok (.iload 7, 2) := by decide +kernel
theorem dX1_spread_36 : decode cX1_spread 36 = .ok (.ifCond .ne 5, 3) := by decide +kernel
theorem dX1_spread_39 : decode cX1_spread 39 = .ok (.iconst 1, 1) := by decide +kernel
theorem dX1_spread_40 : decode cX1_spread 40 = .ok (.ireturn, 1) := by decide +kernel
theorem dX1_spread_41 : decode cX1_spread 41 = .ok (.aload_n 1, 1) := by decide +kernel
theorem dX1_spread_42 : decode cX1_spread 42 = .ok (.iload_n 2, 1) := by decide +kernel
theorem dX1_spread_43 : decode cX1_spread 43 = .ok (.invokevirtual 43, 3) := by decide +kernel
theorem dX1_spread_46 : decode cX1_spread 46 = .ok (.bipush 40, 2) := by decide +kernel
theorem dX1_spread_48 : decode cX1_spread 48 = .ok (.if_icmp .ne 65, 3) := by decide +kernel
theorem dX1_spread_51 : decode cX1_spread 51 = .ok (.iload 7, 2) := by decide +kernel
theorem dX1_spread_53 : decode cX1_spread 53 = .ok (.iconst 1, 1) := by decide +kernel
theorem dX1_spread_54 : decode cX1_spread 54 = .ok (.if_icmp .ne 12, 3) := by decide +kernel
theorem dX1_spread_57 : decode cX1_spread 57 = .ok (.iload 6, 2) := by decide +kernel
theorem dX1_spread_59 : decode cX1_spread 59 = .ok (.ifCond .ne 7, 3) := by decide +kernel
theorem dX1_spread_62 : decode cX1_spread 62 = .ok (.iconst 1, 1) := by decide +kernel
theorem dX1_spread_63 : decode cX1_spread 63 = .ok (.goto 4, 3) := by decide +kernel
theorem dX1_spread_66 : decode cX1_spread 66 = .ok (.iconst 0, 1) := by decide +kernel
theorem dX1_spread_67 : decode cX1_spread 67 = .ok (.istore 8, 2) := by decide +kernel
theorem dX1_spread_69 : decode cX1_spread 69 = .ok (.iload 8, 2) := by decide +kernel
theorem dX1_spread_71 : decode cX1_spread 71 = .ok (.ifCond .eq 25, 3) := by decide +kernel
theorem dX1_spread_74 : decode cX1_spread 74 = .ok (.aload_n 0, 1) := by decide +kernel
theorem dX1_spread_75 : decode cX1_spread 75 = .ok (.iconst 1, 1) := by decide +kernel
theorem dX1_spread_76 : decode cX1_spread 76 = .ok (.iload 5, 2) := by decide +kernel
theorem dX1_spread_78 : decode cX1_spread 78 = .ok (.isub, 1) := by decide +kernel
theorem dX1_spread_79 : decode cX1_spread 79 = .ok (.aload_n 3, 1) := by decide +kernel
theorem dX1_spread_80 : decode cX1_spread 80 = .ok (.iload 4, 2) := by decide +kernel
theorem dX1_spread_82 : decode cX1_spread 82 = .ok (.invokevirtual 46, 3) := by decide +kernel
theorem dX1_spread_85 : decode cX1_spread 85 = .ok (.aload_n 1, 1) := by decide +kernel
theorem dX1_spread_86 : decode cX1_spread 86 = .ok (.iload_n 2, 1) := by decide +kernel
theorem dX1_spread_87 : decode cX1_spread 87 = .ok (.invokevirtual 46, 3) := by decide +kernel
theorem dX1_spread_90 : decode cX1_spread 90 = .ok (.invokevirtual 29, 3) := by decide +kernel
theorem dX1_spread_93 : decode cX1_spread 93 = .ok (.goto 20, 3) := by decide +kernel
theorem dX1_spread_96 : decode cX1_spread 96 = .ok (.aload_n 0, 1) := by decide +kernel
theorem dX1_spread_97 : decode cX1_spread 97 = .ok (.iload 5, 2) := by decide +kernel
theorem dX1_spread_99 : decode cX1_spread 99 = .ok (.aload_n 1, 1) := by decide +kernel
theorem dX1_spread_100 : decode cX1_spread 100 = .ok (.iload_n 2, 1) := by decide +kernel
theorem dX1_spread_101 : decode cX1_spread 101 = .ok (.invokevirtual 46, 3) := by decide +kernel
theorem dX1_spread_104 : decode cX1_spread 104 = .ok (.aload_n 3, 1) := by decide +kernel
theorem dX1_spread_105 : decode cX1_spread 105 = .ok (.iload 4, 2) := by decide +kernel
theorem dX1_spread_107 : decode cX1_spread 107 = .ok (.invokevirtual 46, 3) := by decide +kernel
theorem dX1_spread_110 : decode cX1_spread 110 = .ok (.invokevirtual 29, 3) := by decide +kernel
theorem dX1_spread_113 : decode cX1_spread 113 = .ok (.iload 7, 2) := by decide +kernel
theorem dX1_spread_115 : decode cX1_spread 115 = .ok (.iconst 1, 1) := by decide +kernel
theorem dX1_spread_116 : decode cX1_spread 116 = .ok (.if_icmp .eq 9, 3) := by decide +kernel
theorem dX1_spread_119 : decode cX1_spread 119 = .ok (.iload 7, 2) := by decide +kernel
theorem dX1_spread_121 : decode cX1_spread 121 = .ok (.iconst 2, 1) := by decide +kernel
theorem dX1_spread_122 : decode cX1_spread 122 = .ok (.if_icmp .ne 24, 3) := by decide +kernel
theorem dX1_spread_125 : decode cX1_spread 125 = .ok (.aload_n 0, 1) := by decide +kernel
theorem dX1_spread_126 : decode cX1_spread 126 = .ok (.iload 5, 2) := by decide +kernel
theorem dX1_spread_128 : decode cX1_spread 128 = .ok (.aload_n 1, 1) := by decide +kernel
theorem dX1_spread_129 : decode cX1_spread 129 = .ok (.iload_n 2, 1) := by decide +kernel
theorem dX1_spread_130 : decode cX1_spread 130 = .ok (.iconst 0, 1) := by decide +kernel
theorem dX1_spread_131 : decode cX1_spread 131 = .ok (.invokevirtual 49, 3) := by decide +kernel
theorem dX1_spread_134 : decode cX1_spread 134 = .ok (.aload_n 3, 1) := by decide +kernel
theorem dX1_spread_135 : decode cX1_spread 135 = .ok (.iload 4, 2) := by decide +kernel
theorem dX1_spread_137 : decode cX1_spread 137 = .ok (.iconst 0, 1) := by decide +kernel
theorem dX1_spread_138 : decode cX1_spread 138 = .ok (.invokevirtual 49, 3) := by decide +kernel
theorem dX1_spread_141 : decode cX1_spread 141 = .ok (.invokevirtual 29, 3) := by decide +kernel
theorem dX1_spread_144 : decode cX1_spread 144 = .ok (.iconst 1, 1) := by decide +kernel
theorem dX1_spread_145 : decode cX1_spread 145 = .ok (.ireturn, 1) := by decide +kernel
theorem dX1_spread_146 : decode cX1_spread 146 = .ok (.aload_n 1, 1) := by decide +kernel
theorem dX1_spread_147 : decode cX1_spread 147 = .ok (.iload_n 2, 1) := by decide +kernel
theorem dX1_spread_148 : decode cX1_spread 148 = .ok (.invokevirtual 53, 3) := by decide +kernel
theorem dX1_spread_151 : decode cX1_spread 151 = .ok (.istore 8, 2) := by decide +kernel
theorem dX1_spread_153 : decode cX1_spread 153 = .ok (.aload_n 3, 1) := by decide +kernel
theorem dX1_spread_154 : decode cX1_spread 154 = .ok (.iload 4, 2) := by decide +kernel
theorem dX1_spread_156 : decode cX1_spread 156 = .ok (.invokevirtual 53, 3) := by decide +kernel
theorem dX1_spread_159 : decode cX1_spread 159 = .ok (.istore 9, 2) := by decide +kernel
theorem dX1_spread_161 : decode cX1_spread 161 = .ok (.iload 6, 2) := by decide +kernel
theorem dX1_spread_163 : decode cX1_spread 163 = .ok (.ifCond .eq 13, 3) := by decide +kernel
theorem dX1_spread_166 : decode cX1_spread 166 = .ok (.iload 8, 2) := by decide +kernel
theorem dX1_spread_168 : decode cX1_spread 168 = .ok (.iload 9, 2) := by decide +kernel
theorem dX1_spread_170 : decode cX1_spread 170 = .ok (.if_icmp .eq 20, 3) := by decide +kernel
theorem dX1_spread_173 : decode cX1_spread 173 = .ok (.goto 15, 3) := by decide +kernel
theorem dX1_spread_176 : decode cX1_spread 176 = .ok (.iload 7, 2) := by decide +kernel
theorem dX1_spread_178 : decode cX1_spread 178 = .ok (.iload 8, 2) := by decide +kernel
theorem dX1_spread_180 : decode cX1_spread 180 = .ok (.iload 9, 2) := by decide +kernel
theorem dX1_spread_182 : decode cX1_spread 182 = .ok (.invokestatic 56, 3) := by decide +kernel
theorem dX1_spread_185 : decode cX1_spread 185 = .ok (.ifCond .ne 5, 3) := by decide +kernel
theorem dX1_spread_188 : decode cX1_spread 188 = .ok (.iconst 0, 1) := by decide +kernel
theorem dX1_spread_189 : decode cX1_spread 189 = .ok (.ireturn, 1) := by decide +kernel
theorem dX1_spread_190 : decode cX1_spread 190 = .ok (.iconst 0, 1) := by decide +kernel
theorem dX1_spread_191 : decode cX1_spread 191 = .ok (.istore 10, 2) := by decide +kernel
theorem dX1_spread_193 : decode cX1_spread 193 = .ok (.iconst 0, 1) := by decide +kernel
theorem dX1_spread_194 : decode cX1_spread 194 = .ok (.istore 11, 2) := by decide +kernel
theorem dX1_spread_196 : decode cX1_spread 196 = .ok (.iconst 0, 1) := by decide +kernel
theorem dX1_spread_197 : decode cX1_spread 197 = .ok (.istore 12, 2) := by decide +kernel
theorem dX1_spread_199 : decode cX1_spread 199 = .ok (.iload 12, 2) := by decide +kernel
theorem dX1_spread_201 : decode cX1_spread 201 = .ok (.bipush 26, 2) := by decide +kernel
theorem dX1_spread_203 : decode cX1_spread 203 = .ok (.if_icmp .ge 71, 3) := by decide +kernel
theorem dX1_spread_206 : decode cX1_spread 206 = .ok (.iload 8, 2) := by decide +kernel
theorem dX1_spread_208 : decode cX1_spread 208 = .ok (.iload 12, 2) := by decide +kernel
theorem dX1_spread_210 : decode cX1_spread 210 = .ok (.ishr, 1) := by decide +kernel
theorem dX1_spread_211 : decode cX1_spread 211 = .ok (.iconst 1, 1) := by decide +kernel
theorem dX1_spread_212 : decode cX1_spread 212 = .ok (.iand, 1) := by decide +kernel
theorem dX1_spread_213 : decode cX1_spread 213 = .ok (.istore 13, 2) := by decide +kernel
theorem dX1_spread_215 : decode cX1_spread 215 = .ok (.iload 9, 2) := by decide +kernel
theorem dX1_spread_217 : decode cX1_spread 217 = .ok (.iload 12, 2) := by decide +kernel
theorem dX1_spread_219 : decode cX1_spread 219 = .ok (.ishr, 1) := by decide +kernel
theorem dX1_spread_220 : decode cX1_spread 220 = .ok (.iconst 1, 1) := by decide +kernel
theorem dX1_spread_221 : decode cX1_spread 221 = .ok (.iand, 1) := by decide +kernel
theorem dX1_spread_222 : decode cX1_spread 222 = .ok (.istore 14, 2) := by decide +kernel
theorem dX1_spread_224 : decode cX1_spread 224 = .ok (.iload 13, 2) := by decide +kernel
theorem dX1_spread_226 : decode cX1_spread 226 = .ok (.iload 14, 2) := by decide +kernel
theorem dX1_spread_228 : decode cX1_spread 228 = .ok (.iadd, 1) := by decide +kernel
theorem dX1_spread_229 : decode cX1_spread 229 = .ok (.iconst 2, 1) := by decide +kernel
theorem dX1_spread_230 : decode cX1_spread 230 = .ok (.if_icmp .ne 24, 3) := by decide +kernel
theorem dX1_spread_233 : decode cX1_spread 233 = .ok (.aload_n 0, 1) := by decide +kernel
theorem dX1_spread_234 : decode cX1_spread 234 = .ok (.iload 5, 2) := by decide +kernel
theorem dX1_spread_236 : decode cX1_spread 236 = .ok (.aload_n 1, 1) := by decide +kernel
theorem dX1_spread_237 : decode cX1_spread 237 = .ok (.iload_n 2, 1) := by decide +kernel
theorem dX1_spread_238 : decode cX1_spread 238 = .ok (.iload 10, 2) := by decide +kernel
theorem dX1_spread_240 : decode cX1_spread 240 = .ok (.invokevirtual 49, 3) := by decide +kernel
theorem dX1_spread_243 : decode cX1_spread 243 = .ok (.aload_n 3, 1) := by decide +kernel
theorem dX1_spread_244 : decode cX1_spread 244 = .ok (.iload 4, 2) := by decide +kernel
theorem dX1_spread_246 : decode cX1_spread 246 = .ok (.iload 11, 2) := by decide +kernel
theorem dX1_spread_248 : decode cX1_spread 248 = .ok (.invokevirtual 49, 3) := by decide +kernel
theorem dX1_spread_251 : decode cX1_spread 251 = .ok (.invokevirtual 29, 3) := by decide +kernel
theorem dX1_spread_254 : decode cX1_spread 254 = .ok (.iload 10, 2) := by decide +kernel
theorem dX1_spread_256 : decode cX1_spread 256 = .ok (.iload 13, 2) := by decide +kernel
theorem dX1_spread_258 : decode cX1_spread 258 = .ok (.iadd, 1) := by decide +kernel
theorem dX1_spread_259 : decode cX1_spread 259 = .ok (.istore 10, 2) := by decide +kernel
theorem dX1_spread_261 : decode cX1_spread 261 = .ok (.iload 11, 2) := by decide +kernel
theorem dX1_spread_263 : decode cX1_spread 263 = .ok (.iload 14, 2) := by decide +kernel
theorem dX1_spread_265 : decode cX1_spread 265 = .ok (.iadd, 1) := by decide +kernel
theorem dX1_spread_266 : decode cX1_spread 266 = .ok (.istore 11, 2) := by decide +kernel
theorem dX1_spread_268 : decode cX1_spread 268 = .ok (.iinc 12 1, 3) := by decide +kernel
theorem dX1_spread_271 : decode cX1_spread 271 = .ok (.goto (-72), 3) := by decide +kernel
theorem dX1_spread_274 : decode cX1_spread 274 = .ok (.iconst 1, 1) := by decide +kernel
theorem dX1_spread_275 : decode cX1_spread 275 = .ok (.ireturn, 1) := by decide +kernel
theorem dX1_labelsFit_0 : decode cX1_labelsFit 0 = .ok (.iload_n 0, 1) := by decide +kernel
theorem dX1_labelsFit_1 : decode cX1_labelsFit 1 = .ok (.iconst 3, 1) := by decide +kernel
theorem dX1_labelsFit_2 : decode cX1_labelsFit 2 = .ok (.if_icmp .ne 19, 3) := by decide +kernel
theorem dX1_labelsFit_5 : decode cX1_labelsFit 5 = .ok (.iload_n 1, 1) := by decide +kernel
theorem dX1_labelsFit_6 : decode cX1_labelsFit 6 = .ok (.iload_n 2, 1) := by decide +kernel
theorem dX1_labelsFit_7 : decode cX1_labelsFit 7 = .ok (.iconst (-1), 1) := by decide +kernel
theorem dX1_labelsFit_8 : decode cX1_labelsFit 8 = .ok (.ixor, 1) := by decide +kernel
theorem dX1_labelsFit_9 : decode cX1_labelsFit 9 = .ok (.iand, 1) := by decide +kernel
theorem dX1_labelsFit_10 : decode cX1_labelsFit 10 = .ok (.ifCond .ne 7, 3) := by decide +kernel
theorem dX1_labelsFit_13 : decode cX1_labelsFit 13 = .ok (.iconst 1, 1) := by decide +kernel
theorem dX1_labelsFit_14 : decode cX1_labelsFit 14 = .ok (.goto 20, 3) := by decide +kernel
theorem dX1_labelsFit_17 : decode cX1_labelsFit 17 = .ok (.iconst 0, 1) := by decide +kernel
theorem dX1_labelsFit_18 : decode cX1_labelsFit 18 = .ok (.goto 16, 3) := by decide +kernel
theorem dX1_labelsFit_21 : decode cX1_labelsFit 21 = .ok (.iload_n 2, 1) := by decide +kernel
theorem dX1_labelsFit_22 : decode cX1_labelsFit 22 = .ok (.iload_n 1, 1) := by decide +kernel
theorem dX1_labelsFit_23 : decode cX1_labelsFit 23 = .ok (.iconst (-1), 1) := by decide +kernel
theorem dX1_labelsFit_24 : decode cX1_labelsFit 24 = .ok (.ixor, 1) := by decide +kernel
theorem dX1_labelsFit_25 : decode cX1_labelsFit 25 = .ok (.iand, 1) := by decide +kernel
theorem dX1_labelsFit_26 : decode cX1_labelsFit 26 = .ok (.ifCond .ne 7, 3) := by decide +kernel
theorem dX1_labelsFit_29 : decode cX1_labelsFit 29 = .ok (.iconst 1, 1) := by decide +kernel
theorem dX1_labelsFit_30 : decode cX1_labelsFit 30 = .ok (.goto 4, 3) := by decide +kernel
theorem dX1_labelsFit_33 : decode cX1_labelsFit 33 = .ok (.iconst 0, 1) := by decide +kernel
theorem dX1_labelsFit_34 : decode cX1_labelsFit 34 = .ok (.ireturn, 1) := by decide +kernel
theorem dX1_add_0 : decode cX1_add 0 = .ok (.iload_n 2, 1) := by decide +kernel
theorem dX1_add_1 : decode cX1_add 1 = .ok (.ifCond .lt 28, 3) := by decide +kernel
theorem dX1_add_4 : decode cX1_add 4 = .ok (.iload_n 2, 1) := by decide +kernel
theorem dX1_add_5 : decode cX1_add 5 = .ok (.bipush 60, 2) := by decide +kernel
theorem dX1_add_7 : decode cX1_add 7 = .ok (.if_icmp .ge 22, 3) := by decide +kernel
theorem dX1_add_10 : decode cX1_add 10 = .ok (.iload_n 3, 1) := by decide +kernel
theorem dX1_add_11 : decode cX1_add 11 = .ok (.ifCond .lt 18, 3) := by decide +kernel
theorem dX1_add_14 : decode cX1_add 14 = .ok (.iload_n 3, 1) := by decide +kernel
theorem dX1_add_15 : decode cX1_add 15 = .ok (.bipush 60, 2) := by decide +kernel
theorem dX1_add_17 : decode cX1_add 17 = .ok (.if_icmp .ge 12, 3) := by decide +kernel
theorem dX1_add_20 : decode cX1_add 20 = .ok (.iload_n 1, 1) := by decide +kernel
theorem dX1_add_21 : decode cX1_add 21 = .ok (.ifCond .lt 8, 3) := by decide +kernel
theorem dX1_add_24 : decode cX1_add 24 = .ok (.iload_n 1, 1) := by decide +kernel
theorem dX1_add_25 : decode cX1_add 25 = .ok (.iconst 1, 1) := by decide +kernel
theorem dX1_add_26 : decode cX1_add 26 = .ok (.if_icmp .le 4, 3) := by decide +kernel
theorem dX1_add_29 : decode cX1_add 29 = .ok (.return_, 1) := by decide +kernel
theorem dX1_add_30 : decode cX1_add 30 = .ok (.iload_n 1, 1) := by decide +kernel
theorem dX1_add_31 : decode cX1_add 31 = .ok (.bipush 60, 2) := by decide +kernel
theorem dX1_add_33 : decode cX1_add 33 = .ok (.imul, 1) := by decide +kernel
theorem dX1_add_34 : decode cX1_add 34 = .ok (.iload_n 2, 1) := by decide +kernel
theorem dX1_add_35 : decode cX1_add 35 = .ok (.iadd, 1) := by decide +kernel
theorem dX1_add_36 : decode cX1_add 36 = .ok (.istore 4, 2) := by decide +kernel
theorem dX1_add_38 : decode cX1_add 38 = .ok (.aload_n 0, 1) := by decide +kernel
theorem dX1_add_39 : decode cX1_add 39 = .ok (.getfield 9, 3) := by decide +kernel
theorem dX1_add_42 : decode cX1_add 42 = .ok (.iload 4, 2) := by decide +kernel
theorem dX1_add_44 : decode cX1_add 44 = .ok (.laload, 1) := by decide +kernel
theorem dX1_add_45 : decode cX1_add 45 = .ok (.iload_n 3, 1) := by decide +kernel
theorem dX1_add_46 : decode cX1_add 46 = .ok (.lshr, 1) := by decide +kernel
theorem dX1_add_47 : decode cX1_add 47 = .ok (.lconst 1, 1) := by decide +kernel
theorem dX1_add_48 : decode cX1_add 48 = .ok (.land, 1) := by decide +kernel
theorem dX1_add_49 : decode cX1_add 49 = .ok (.lconst 0, 1) := by decide +kernel
theorem dX1_add_50 : decode cX1_add 50 = .ok (.lcmp, 1) := by decide +kernel
theorem dX1_add_51 : decode cX1_add 51 = .ok (.ifCond .ne 22, 3) := by decide +kernel
theorem dX1_add_54 : decode cX1_add 54 = .ok (.aload_n 0, 1) := by decide +kernel
theorem dX1_add_55 : decode cX1_add 55 = .ok (.getfield 25, 3) := by decide +kernel
theorem dX1_add_58 : decode cX1_add 58 = .ok (.ifCond .lt 15, 3) := by decide +kernel
theorem dX1_add_61 : decode cX1_add 61 = .ok (.aload_n 0, 1) := by decide +kernel
theorem dX1_add_62 : decode cX1_add 62 = .ok (.getfield 25, 3) := by decide +kernel
theorem dX1_add_65 : decode cX1_add 65 = .ok (.aload_n 0, 1) := by decide +kernel
theorem dX1_add_66 : decode cX1_add 66 = .ok (.getfield 15, 3) := by decide +kernel
theorem dX1_add_69 : decode cX1_add 69 = .ok (.arraylength, 1) := by decide +kernel
theorem dX1_add_70 : decode cX1_add 70 = .ok (.if_icmp .lt 4, 3) := by decide +kernel
theorem dX1_add_73 : decode cX1_add 73 = .ok (.return_, 1) := by decide +kernel
theorem dX1_add_74 : decode cX1_add 74 = .ok (.aload_n 0, 1) := by decide +kernel
theorem dX1_add_75 : decode cX1_add 75 = .ok (.getfield 9, 3) := by decide +kernel
theorem dX1_add_78 : decode cX1_add 78 = .ok (.iload 4, 2) := by decide +kernel
theorem dX1_add_80 : decode cX1_add 80 = .ok (.dup2, 1) := by decide +kernel
theorem dX1_add_81 : decode cX1_add 81 = .ok (.laload, 1) := by decide +kernel
theorem dX1_add_82 : decode cX1_add 82 = .ok (.lconst 1, 1) := by decide +kernel
theorem dX1_add_83 : decode cX1_add 83 = .ok (.iload_n 3, 1) := by decide +kernel
theorem dX1_add_84 : decode cX1_add 84 = .ok (.lshl, 1) := by decide +kernel
theorem dX1_add_85 : decode cX1_add 85 = .ok (.lor, 1) := by decide +kernel
theorem dX1_add_86 : decode cX1_add 86 = .ok (.lastore, 1) := by decide +kernel
theorem dX1_add_87 : decode cX1_add 87 = .ok (.aload_n 0, 1) := by decide +kernel
theorem dX1_add_88 : decode cX1_add 88 = .ok (.getfield 15, 3) := by decide +kernel
theorem dX1_add_91 : decode cX1_add 91 = .ok (.aload_n 0, 1) := by decide +kernel
theorem dX1_add_92 : decode cX1_add 92 = .ok (.getfield 25, 3) := by decide +kernel
theorem dX1_add_95 : decode cX1_add 95 = .ok (.iload_n 1, 1) := by decide +kernel
theorem dX1_add_96 : decode cX1_add 96 = .ok (.sipush 3600, 3) := by decide +kernel
theorem dX1_add_99 : decode cX1_add 99 = .ok (.imul, 1) := by decide +kernel
theorem dX1_add_100 : decode cX1_add 100 = .ok (.iload_n 2, 1) := by decide +kernel
theorem dX1_add_101 : decode cX1_add 101 = .ok (.bipush 60, 2) := by decide +kernel
theorem dX1_add_103 : decode cX1_add 103 = .ok (.imul, 1) := by decide +kernel
theorem dX1_add_104 : decode cX1_add 104 = .ok (.iadd, 1) := by decide +kernel
theorem dX1_add_105 : decode cX1_add 105 = .ok (.iload_n 3, 1) := by decide +kernel
theorem dX1_add_106 : decode cX1_add 106 = .ok (.iadd, 1) := by decide +kernel
theorem dX1_add_107 : decode cX1_add 107 = .ok (.iastore, 1) := by decide +kernel
theorem dX1_add_108 : decode cX1_add 108 = .ok (.aload_n 0, 1) := by decide +kernel
theorem dX1_add_109 : decode cX1_add 109 = .ok (.dup, 1) := by decide +kernel
theorem dX1_add_110 : decode cX1_add 110 = .ok (.getfield 25, 3) := by decide +kernel
theorem dX1_add_113 : decode cX1_add 113 = .ok (.iconst 1, 1) := by decide +kernel
theorem dX1_add_114 : decode cX1_add 114 = .ok (.iadd, 1) := by decide +kernel
theorem dX1_add_115 : decode cX1_add 115 = .ok (.putfield 25, 3) := by decide +kernel
theorem dX1_add_118 : decode cX1_add 118 = .ok (.return_, 1) := by decide +kernel
theorem dX2_init_0 : decode cX2_init 0 = .ok (.aload_n 0, 1) := by decide +kernel
theorem dX2_init_1 : decode cX2_init 1 = .ok (.invokespecial 3, 3) := by decide +kernel
theorem dX2_init_4 : decode cX2_init 4 = .ok (.aload_n 0, 1) := by decide +kernel
theorem dX2_init_5 : decode cX2_init 5 = .ok (.bipush 9, 2) := by decide +kernel
theorem dX2_init_7 : decode cX2_init 7 = .ok (.putfield 9, 3) := by decide +kernel
theorem dX2_init_10 : decode cX2_init 10 = .ok (.aload_n 0, 1) := by decide +kernel
theorem dX2_init_11 : decode cX2_init 11 = .ok (.iconst 4, 1) := by decide +kernel
theorem dX2_init_12 : decode cX2_init 12 = .ok (.newarray .int, 2) := by decide +kernel
theorem dX2_init_14 : decode cX2_init 14 = .ok (.putfield 15, 3) := by decide +kernel
theorem dX2_init_17 : decode cX2_init 17 = .ok (.return_, 1) := by decide +kernel
set_option maxRecDepth 20000 in
theorem ggX2_start_X7_beginning : GoodIn wsX2_start wsX7_beginning := goodIn_r _ [12, 13, 22, 23, 24, 25, 26, 27, 28, 29, 30] (by decide +kernel) (by decide +kernel)
set_option maxRecDepth 20000 in
theorem gX2_start_X7_beginning : GoodIn wsX2_start (wsV RX2 23 RX7 yX7_beginning wsX7_beginning) := goodIn_app (goodIn_of _ (by decide +kernel)) ggX2_start_X7_beginning
theorem dX2_start_0 : decode cX2_start 0 = .ok (.aload_n 0, 1) := by decide +kernel
theorem dX2_start_1 : decode cX2_start 1 = .ok (.iload_n 1, 1) := by decide +kernel
theorem dX2_start_2 : decode cX2_start 2 = .ok (.putfield 9, 3) := by decide +kernel
theorem dX2_start_5 : decode cX2_start 5 = .ok (.aload_n 0, 1) := by decide +kernel
theorem dX2_start_6 : decode cX2_start 6 = .ok (.aload_n 2, 1) := by decide +kernel
theorem dX2_start_7 : decode cX2_start 7 = .ok (.putfield 19, 3) := by decide +kernel
theorem dX2_start_10 : decode cX2_start 10 = .ok (.aload_n 0, 1) := by decide +kernel
theorem dX2_start_11 : decode cX2_start 11 = .ok (.aload_n 2, 1) := by decide +kernel
theorem dX2_start_12 : decode cX2_start 12 = .ok (.invokevirtual 23, 3) := by decide +kernel
theorem dX2_start_15 : decode cX2_start 15 = .ok (.putfield 29, 3) := by decide +kernel
theorem dX2_start_18 : decode cX2_start 18 = .ok (.aload_n 0, 1) := by decide +kernel
theorem dX2_start_19 : decode cX2_start 19 = .ok (.iconst 0, 1) := by decide +kernel
theorem dX2_start_20 : decode cX2_start 20 = .ok (.putfield 32, 3) := by decide +kernel
theorem dX2_start_23 : decode cX2_start 23 = .ok (.aload_n 0, 1) := by decide +kernel
theorem dX2_start_24 : decode cX2_start 24 = .ok (.iconst 0, 1) := by decide +kernel
theorem dX2_start_25 : decode cX2_start 25 = .ok (.putfield 36, 3) := by decide +kernel
theorem dX2_start_28 : decode cX2_start 28 = .ok (.aload_n 0, 1) := by decide +kernel
theorem dX2_start_29 : decode cX2_start 29 = .ok (.iconst 0, 1) := by decide +kernel
theorem dX2_start_30 : decode cX2_start 30 = .ok (.putfield 39, 3) := by decide +kernel
theorem dX2_start_33 : decode cX2_start 33 = .ok (.aload_n 0, 1) := by decide +kernel
theorem dX2_start_34 : decode cX2_start 34 = .ok (.iconst 0, 1) := by decide +kernel
theorem dX2_start_35 : decode cX2_start 35 = .ok (.putfield 42, 3) := by decide +kernel
theorem dX2_start_38 : decode cX2_start 38 = .ok (.return_, 1) := by decide +kernel
set_option maxRecDepth 20000 in
theorem ggX2_kind_X7_kindOf : GoodIn wsX2_kind wsX7_kindOf := goodIn_r _ [7, 8, 17, 18, 19, 20, 21, 22, 23, 24, 25] (by decide +kernel) (by decide +kernel)
set_option maxRecDepth 20000 in
theorem gX2_kind_X7_kindOf : GoodIn wsX2_kind (wsV RX2 51 RX7 yX7_kindOf wsX7_kindOf) := goodIn_app (goodIn_of _ (by decide +kernel)) ggX2_kind_X7_kindOf
theorem dX2_kind_0 : decode cX2_kind 0 = .ok (.aload_n 0, 1) := by decide +kernel
theorem dX2_kind_1 : decode cX2_kind 1 = .ok (.getfield 19, 3) := by decide +kernel
theorem dX2_kind_4 : decode cX2_kind 4 = .ok (.ifnonnull 7, 3) := by decide +kernel
theorem dX2_kind_7 : decode cX2_kind 7 = .ok (.iconst 0, 1) := by decide +kernel
theorem dX2_kind_8 : decode cX2_kind 8 = .ok (.goto 14, 3) := by decide +kernel
theorem dX2_kind_11 : decode cX2_kind 11 = .ok (.aload_n 0, 1) := by decide +kernel
theorem dX2_kind_12 : decode cX2_kind 12 = .ok (.getfield 19, 3) := by decide +kernel
theorem dX2_kind_15 : decode cX2_kind 15 = .ok (.aload_n 0, 1) := by decide +kernel
theorem dX2_kind_16 : decode cX2_kind 16 = .ok (.getfield 29, 3) := by decide +kernel
theorem dX2_kind_19 : decode cX2_kind 19 = .ok (.invokevirtual 51, 3) := by decide +kernel
theorem dX2_kind_22 : decode cX2_kind 22 = .ok (.ireturn, 1) := by decide +kernel
set_option maxRecDepth 20000 in
theorem ggX2_labels_X7_labelsOf : GoodIn wsX2_labels wsX7_labelsOf := goodIn_r _ [7, 8, 17, 18, 19, 20, 21, 22, 23, 24, 25] (by decide +kernel) (by decide +kernel)
set_option maxRecDepth 20000 in
theorem gX2_labels_X7_labelsOf : GoodIn wsX2_labels (wsV RX2 55 RX7 yX7_labelsOf wsX7_labelsOf) := goodIn_app (goodIn_of _ (by decide +kernel)) ggX2_labels_X7_labelsOf
theorem dX2_labels_0 : decode cX2_labels 0 = .ok (.aload_n 0, 1) := by decide +kernel
theorem dX2_labels_1 : decode cX2_labels 1 = .ok (.getfield 19, 3) := by decide +kernel
theorem dX2_labels_4 : decode cX2_labels 4 = .ok (.ifnonnull 7, 3) := by decide +kernel
theorem dX2_labels_7 : decode cX2_labels 7 = .ok (.iconst 0, 1) := by decide +kernel
theorem dX2_labels_8 : decode cX2_labels 8 = .ok (.goto 14, 3) := by decide +kernel
theorem dX2_labels_11 : decode cX2_labels 11 = .ok (.aload_n 0, 1) := by decide +kernel
theorem dX2_labels_12 : decode cX2_labels 12 = .ok (.getfield 19, 3) := by decide +kernel
theorem dX2_labels_15 : decode cX2_labels 15 = .ok (.aload_n 0, 1) := by decide +kernel
theorem dX2_labels_16 : decode cX2_labels 16 = .ok (.getfield 29, 3) := by decide +kernel
theorem dX2_labels_19 : decode cX2_labels 19 = .ok (.invokevirtual 55, 3) := by decide +kernel
theorem dX2_labels_22 : decode cX2_labels 22 = .ok (.ireturn, 1) := by decide +kernel
set_option maxRecDepth 20000 in
theorem ggX2_isAtBrackets_X7_sortOf : GoodIn wsX2_isAtBrackets wsX7_sortOf := goodIn_r _ [7, 8, 17, 18, 19, 20, 21, 22, 23, 24, 25] (by decide +kernel) (by decide +kernel)
set_option maxRecDepth 20000 in
theorem gX2_isAtBrackets_X7_sortOf : GoodIn wsX2_isAtBrackets (wsV RX2 58 RX7 yX7_sortOf wsX7_sortOf) := goodIn_app (goodIn_of _ (by decide +kernel)) ggX2_isAtBrackets_X7_sortOf
theorem dX2_isAtBrackets_0 : decode cX2_isAtBrackets 0 = .ok (.aload_n 0, 1) := by decide +kernel
theorem dX2_isAtBrackets_1 : decode cX2_isAtBrackets 1 = .ok (.getfield 19, 3) := by decide +kernel
theorem dX2_isAtBrackets_4 : decode cX2_isAtBrackets 4 = .ok (.ifnull 23, 3) := by decide +kernel
theorem dX2_isAtBrackets_7 : decode cX2_isAtBrackets 7 = .ok (.aload_n 0, 1) := by decide +kernel
theorem dX2_isAtBrackets_8 : decode cX2_isAtBrackets 8 = .ok (.getfield 19, 3) := by decide +kernel
theorem dX2_isAtBrackets_11 : decode cX2_isAtBrackets 11 = .ok (.aload_n 0, 1) := by decide +kernel
theorem dX2_isAtBrackets_12 : decode cX2_isAtBrackets 12 = .ok (.getfield 29, 3) := by decide +kernel
theorem dX2_isAtBrackets_15 : decode cX2_isAtBrackets 15 = .ok (.invokevirtual 58, 3) := by decide +kernel
theorem dX2_isAtBrackets_18 : decode cX2_isAtBrackets 18 = .ok (.bipush 40, 2) := by decide +kernel
theorem dX2_isAtBrackets_20 : decode cX2_isAtBrackets 20 = .ok (.if_icmp .ne 7, 3) := by decide +kernel
theorem dX2_isAtBrackets_23 : decode cX2_isAtBrackets 23 = .ok (.iconst 1, 1) := by decide +kernel
theorem dX2_isAtBrackets_24 : decode cX2_isAtBrackets 24 = .ok (.goto 4, 3) := by decide +kernel
theorem dX2_isAtBrackets_27 : decode cX2_isAtBrackets 27 = .ok (.iconst 0, 1) := by decide +kernel
theorem dX2_isAtBrackets_28 : decode cX2_isAtBrackets 28 = .ok (.ireturn, 1) := by decide +kernel
set_option maxRecDepth 20000 in
theorem ggX2_maySay_X7_sortOf : GoodIn wsX2_maySay wsX7_sortOf := goodIn_r _ [7, 8, 17, 18, 19, 20, 21, 22, 23, 24, 25] (by decide +kernel) (by decide +kernel)
set_option maxRecDepth 20000 in
theorem gX2_maySay_X7_sortOf : GoodIn wsX2_maySay (wsV RX2 58 RX7 yX7_sortOf wsX7_sortOf) := goodIn_app (goodIn_of _ (by decide +kernel)) ggX2_maySay_X7_sortOf
theorem dX2_maySay_0 : decode cX2_maySay 0 = .ok (.aload_n 0, 1) := by decide +kernel
theorem dX2_maySay_1 : decode cX2_maySay 1 = .ok (.getfield 19, 3) := by decide +kernel
theorem dX2_maySay_4 : decode cX2_maySay 4 = .ok (.ifnull 38, 3) := by decide +kernel
theorem dX2_maySay_7 : decode cX2_maySay 7 = .ok (.iload_n 1, 1) := by decide +kernel
theorem dX2_maySay_8 : decode cX2_maySay 8 = .ok (.ifCond .lt 34, 3) := by decide +kernel
theorem dX2_maySay_11 : decode cX2_maySay 11 = .ok (.iload_n 1, 1) := by decide +kernel
theorem dX2_maySay_12 : decode cX2_maySay 12 = .ok (.aload_n 0, 1) := by decide +kernel
theorem dX2_maySay_13 : decode cX2_maySay 13 = .ok (.getfield 19, 3) := by decide +kernel
theorem dX2_maySay_16 : decode cX2_maySay 16 = .ok (.aload_n 0, 1) := by decide +kernel
theorem dX2_maySay_17 : decode cX2_maySay 17 = .ok (.getfield 29, 3) := by decide +kernel
theorem dX2_maySay_20 : decode cX2_maySay 20 = .ok (.invokevirtual 58, 3) := by decide +kernel
theorem dX2_maySay_23 : decode cX2_maySay 23 = .ok (.bipush 98, 2) := by decide +kernel
theorem dX2_maySay_25 : decode cX2_maySay 25 = .ok (.if_icmp .ne 7, 3) := by decide +kernel
theorem dX2_maySay_28 : decode cX2_maySay 28 = .ok (.iconst 1, 1) := by decide +kernel
theorem dX2_maySay_29 : decode cX2_maySay 29 = .ok (.goto 6, 3) := by decide +kernel
theorem dX2_maySay_32 : decode cX2_maySay 32 = .ok (.sipush 999, 3) := by decide +kernel
theorem dX2_maySay_35 : decode cX2_maySay 35 = .ok (.if_icmp .gt 7, 3) := by decide +kernel
theorem dX2_maySay_38 : decode cX2_maySay 38 = .ok (.iconst 1, 1) := by decide +kernel
theorem dX2_maySay_39 : decode cX2_maySay 39 = .ok (.goto 4, 3) := by decide +kernel
theorem dX2_maySay_42 : decode cX2_maySay 42 = .ok (.iconst 0, 1) := by decide +kernel
theorem dX2_maySay_43 : decode cX2_maySay 43 = .ok (.ireturn, 1) := by decide +kernel
set_option maxRecDepth 20000 in
theorem ggX2_mayPick_X2_labels : GoodIn wsX2_mayPick wsX2_labels := goodIn_r _ [5, 6, 7, 8, 9, 10, 11, 12, 13, 14, 15, 16, 17, 18, 19, 20, 21, 22, 23, 24, 25, 26, 27, 28, 29, 30] (by decide +kernel) (by decide +kernel)
set_option maxRecDepth 20000 in
theorem gX2_mayPick_X2_labels : GoodIn wsX2_mayPick (wsV RX2 61 RX2 yX2_labels wsX2_labels) := goodIn_app (goodIn_of _ (by decide +kernel)) ggX2_mayPick_X2_labels
theorem dX2_mayPick_0 : decode cX2_mayPick 0 = .ok (.iload_n 1, 1) := by decide +kernel
theorem dX2_mayPick_1 : decode cX2_mayPick 1 = .ok (.bipush 97, 2) := by decide +kernel
theorem dX2_mayPick_3 : decode cX2_mayPick 3 = .ok (.if_icmp .lt 27, 3) := by decide +kernel
theorem dX2_mayPick_6 : decode cX2_mayPick 6 = .ok (.iload_n 1, 1) := by decide +kernel
theorem dX2_mayPick_7 : decode cX2_mayPick 7 = .ok (.bipush 122, 2) := by decide +kernel
theorem dX2_mayPick_9 : decode cX2_mayPick 9 = .ok (.if_icmp .gt 21, 3) := by decide +kernel
theorem dX2_mayPick_12 : decode cX2_mayPick 12 = .ok (.aload_n 0, 1) := by decide +kernel
theorem dX2_mayPick_13 : decode cX2_mayPick 13 = .ok (.invokevirtual 61, 3) := by decide +kernel
theorem dX2_mayPick_16 : decode cX2_mayPick 16 = .ok (.iload_n 1, 1) := by decide +kernel
theorem dX2_mayPick_17 : decode cX2_mayPick 17 = .ok (.bipush 97, 2) := by decide +kernel
theorem dX2_mayPick_19 : decode cX2_mayPick 19 = .ok (.isub, 1) := by decide +kernel
theorem dX2_mayPick_20 : decode cX2_mayPick 20 = .ok (.ishr, 1) := by decide +kernel
theorem dX2_mayPick_21 : decode cX2_mayPick 21 = .ok (.iconst 1, 1) := by decide +kernel
theorem dX2_mayPick_22 : decode cX2_mayPick 22 = .ok (.iand, 1) := by decide +kernel
theorem dX2_mayPick_23 : decode cX2_mayPick 23 = .ok (.ifCond .eq 7, 3) := by decide +kernel
theorem dX2_mayPick_26 : decode cX2_mayPick 26 = .ok (.iconst 1, 1) := by decide +kernel
theorem dX2_mayPick_27 : decode cX2_mayPick 27 = .ok (.goto 4, 3) := by decide +kernel
theorem dX2_mayPick_30 : decode cX2_mayPick 30 = .ok (.iconst 0, 1) := by decide +kernel
theorem dX2_mayPick_31 : decode cX2_mayPick 31 = .ok (.ireturn, 1) := by decide +kernel
theorem dX2_put_0 : decode cX2_put 0 = .ok (.aload_n 0, 1) := by decide +kernel
theorem dX2_put_1 : decode cX2_put 1 = .ok (.getfield 39, 3) := by decide +kernel
theorem dX2_put_4 : decode cX2_put 4 = .ok (.ifCond .lt 15, 3) := by decide +kernel
theorem dX2_put_7 : decode cX2_put 7 = .ok (.aload_n 0, 1) := by decide +kernel
theorem dX2_put_8 : decode cX2_put 8 = .ok (.getfield 39, 3) := by decide +kernel
theorem dX2_put_11 : decode cX2_put 11 = .ok (.aload_n 0, 1) := by decide +kernel
theorem dX2_put_12 : decode cX2_put 12 = .ok (.getfield 15, 3) := by decide +kernel
theorem dX2_put_15 : decode cX2_put 15 = .ok (.arraylength, 1) := by decide +kernel
theorem dX2_put_16 : decode cX2_put 16 = .ok (.if_icmp .lt 4, 3) := by decide +kernel
theorem dX2_put_19 : decode cX2_put 19 = .ok (.return_, 1) := by decide +kernel
theorem dX2_put_20 : decode cX2_put 20 = .ok (.aload_n 0, 1) := by decide +kernel
theorem dX2_put_21 : decode cX2_put 21 = .ok (.getfield 15, 3) := by decide +kernel
theorem dX2_put_24 : decode cX2_put 24 = .ok (.aload_n 0, 1) := by decide +kernel
theorem dX2_put_25 : decode cX2_put 25 = .ok (.getfield 39, 3) := by decide +kernel
theorem dX2_put_28 : decode cX2_put 28 = .ok (.iload_n 1, 1) := by decide +kernel
theorem dX2_put_29 : decode cX2_put 29 = .ok (.iastore, 1) := by decide +kernel
theorem dX2_put_30 : decode cX2_put 30 = .ok (.aload_n 0, 1) := by decide +kernel
theorem dX2_put_31 : decode cX2_put 31 = .ok (.dup, 1) := by decide +kernel
theorem dX2_put_32 : decode cX2_put 32 = .ok (.getfield 39, 3) := by decide +kernel
theorem dX2_put_35 : decode cX2_put 35 = .ok (.iconst 1, 1) := by decide +kernel
theorem dX2_put_36 : decode cX2_put 36 = .ok (.iadd, 1) := by decide +kernel
theorem dX2_put_37 : decode cX2_put 37 = .ok (.putfield 39, 3) := by decide +kernel
theorem dX2_put_40 : decode cX2_put 40 = .ok (.aload_n 0, 1) := by decide +kernel
theorem dX2_put_41 : decode cX2_put 41 = .ok (.aload_n 0, 1) := by decide +kernel
theorem dX2_put_42 : decode cX2_put 42 = .ok (.getfield 42, 3) := by decide +kernel
theorem dX2_put_45 : decode cX2_put 45 = .ok (.aload_n 0, 1) := by decide +kernel
theorem dX2_put_46 : decode cX2_put 46 = .ok (.getfield 39, 3) := by decide +kernel
theorem dX2_put_49 : decode cX2_put 49 = .ok (.invokestatic 64, 3) := by decide +kernel
theorem dX2_put_52 : decode cX2_put 52 = .ok (.putfield 42, 3) := by decide +kernel
theorem dX2_put_55 : decode cX2_put 55 = .ok (.return_, 1) := by decide +kernel
theorem dX2_draw_0 : decode cX2_draw 0 = .ok (.aload_n 0, 1) := by decide +kernel
theorem dX2_draw_1 : decode cX2_draw 1 = .ok (.getfield 39, 3) := by decide +kernel
theorem dX2_draw_4 : decode cX2_draw 4 = .ok (.ifCond .gt 5, 3) := by decide +kernel
theorem dX2_draw_7 : decode cX2_draw 7 = .ok (.iconst 0, 1) := by decide +kernel
theorem dX2_draw_8 : decode cX2_draw 8 = .ok (.ireturn, 1) := by decide +kernel
theorem dX2_draw_9 : decode cX2_draw 9 = .ok (.aload_n 0, 1) := by decide +kernel
theorem dX2_draw_10 : decode cX2_draw 10 = .ok (.getfield 15, 3) := by decide +kernel
theorem dX2_draw_13 : decode cX2_draw 13 = .ok (.iconst 0, 1) := by decide +kernel
theorem dX2_draw_14 : decode cX2_draw 14 = .ok (.iaload, 1) := by decide +kernel
theorem dX2_draw_15 : decode cX2_draw 15 = .ok (.istore_n 1, 1) := by decide +kernel
theorem dX2_draw_16 : decode cX2_draw 16 = .ok (.iconst 1, 1) := by decide +kernel
theorem dX2_draw_17 : decode cX2_draw 17 = .ok (.istore_n 2, 1) := by decide +kernel
theorem dX2_draw_18 : decode cX2_draw 18 = .ok (.iload_n 2, 1) := by decide +kernel
theorem dX2_draw_19 : decode cX2_draw 19 = .ok (.aload_n 0, 1) := by decide +kernel
theorem dX2_draw_20 : decode cX2_draw 20 = .ok (.getfield 15, 3) := by decide +kernel
theorem dX2_draw_23 : decode cX2_draw 23 = .ok (.arraylength, 1) := by decide +kernel
theorem dX2_draw_24 : decode cX2_draw 24 = .ok (.if_icmp .ge 23, 3) := by decide +kernel
theorem dX2_draw_27 : decode cX2_draw 27 = .ok (.aload_n 0, 1) := by decide +kernel
theorem dX2_draw_28 : decode cX2_draw 28 = .ok (.getfield 15, 3) := by decide +kernel
theorem dX2_draw_31 : decode cX2_draw 31 = .ok (.iload_n 2, 1) := by decide +kernel
theorem dX2_draw_32 : decode cX2_draw 32 = .ok (.iconst 1, 1) := by decide +kernel
theorem dX2_draw_33 : decode cX2_draw 33 = .ok (.isub, 1) := by decide +kernel
theorem dX2_draw_34 : decode cX2_draw 34 = .ok (.aload_n 0, 1) := by decide +kernel
theorem dX2_draw_35 : decode cX2_draw 35 = .ok (.getfield 15, 3) := by decide +kernel
theorem dX2_draw_38 : decode cX2_draw 38 = .ok (.iload_n 2, 1) := by decide +kernel
theorem dX2_draw_39 : decode cX2_draw 39 = .ok (.iaload, 1) := by decide +kernel
theorem dX2_draw_40 : decode cX2_draw 40 = .ok (.iastore, 1) := by decide +kernel
theorem dX2_draw_41 : decode cX2_draw 41 = .ok (.iinc 2 1, 3) := by decide +kernel
theorem dX2_draw_44 : decode cX2_draw 44 = .ok (.goto (-26), 3) := by decide +kernel
theorem dX2_draw_47 : decode cX2_draw 47 = .ok (.aload_n 0, 1) := by decide +kernel
theorem dX2_draw_48 : decode cX2_draw 48 = .ok (.dup, 1) := by decide +kernel
theorem dX2_draw_49 : decode cX2_draw 49 = .ok (.getfield 39, 3) := by decide +kernel
theorem dX2_draw_52 : decode cX2_draw 52 = .ok (.iconst 1, 1) := by decide +kernel
theorem dX2_draw_53 : decode cX2_draw 53 = .ok (.isub, 1) := by decide +kernel
theorem dX2_draw_54 : decode cX2_draw 54 = .ok (.putfield 39, 3) := by decide +kernel
theorem dX2_draw_57 : decode cX2_draw 57 = .ok (.iload_n 1, 1) := by decide +kernel
theorem dX2_draw_58 : decode cX2_draw 58 = .ok (.ireturn, 1) := by decide +kernel
theorem dX3_init_0 : decode cX3_init 0 = .ok (.aload_n 0, 1) := by decide +kernel
theorem dX3_init_1 : decode cX3_init 1 = .ok (.invokespecial 3, 3) := by decide +kernel
theorem dX3_init_4 : decode cX3_init 4 = .ok (.aload_n 0, 1) := by decide +kernel
theorem dX3_init_5 : decode cX3_init 5 = .ok (.sipush 3601, 3) := by decide +kernel
theorem dX3_init_8 : decode cX3_init 8 = .ok (.newarray .int, 2) := by decide +kernel
theorem dX3_init_10 : decode cX3_init 10 = .ok (.putfield 9, 3) := by decide +kernel
theorem dX3_init_13 : decode cX3_init 13 = .ok (.aload_n 0, 1) := by decide +kernel
theorem dX3_init_14 : decode cX3_init 14 = .ok (.bipush 60, 2) := by decide +kernel
theorem dX3_init_16 : decode cX3_init 16 = .ok (.newarray .long, 2) := by decide +kernel
theorem dX3_init_18 : decode cX3_init 18 = .ok (.putfield 15, 3) := by decide +kernel
theorem dX3_init_21 : decode cX3_init 21 = .ok (.aload_n 0, 1) := by decide +kernel
theorem dX3_init_22 : decode cX3_init 22 = .ok (.sipush 3600, 3) := by decide +kernel
theorem dX3_init_25 : decode cX3_init 25 = .ok (.newarray .int, 2) := by decide +kernel
theorem dX3_init_27 : decode cX3_init 27 = .ok (.putfield 19, 3) := by decide +kernel
theorem dX3_init_30 : decode cX3_init 30 = .ok (.aload_n 0, 1) := by decide +kernel
theorem dX3_init_31 : decode cX3_init 31 = .ok (.sipush 3600, 3) := by decide +kernel
theorem dX3_init_34 : decode cX3_init 34 = .ok (.newarray .int, 2) := by decide +kernel
theorem dX3_init_36 : decode cX3_init 36 = .ok (.putfield 22, 3) := by decide +kernel
theorem dX3_init_39 : decode cX3_init 39 = .ok (.aload_n 0, 1) := by decide +kernel
theorem dX3_init_40 : decode cX3_init 40 = .ok (.sipush 3600, 3) := by decide +kernel
theorem dX3_init_43 : decode cX3_init 43 = .ok (.newarray .int, 2) := by decide +kernel
theorem dX3_init_45 : decode cX3_init 45 = .ok (.putfield 25, 3) := by decide +kernel
theorem dX3_init_48 : decode cX3_init 48 = .ok (.aload_n 0, 1) := by decide +kernel
theorem dX3_init_49 : decode cX3_init 49 = .ok (.aload_n 1, 1) := by decide +kernel
theorem dX3_init_50 : decode cX3_init 50 = .ok (.putfield 28, 3) := by decide +kernel
theorem dX3_init_53 : decode cX3_init 53 = .ok (.return_, 1) := by decide +kernel
set_option maxRecDepth 20000 in
theorem ggX3_find_J7_fill_d0a16 : GoodIn wsX3_find wsJ7_fill_d0a16 := goodIn_r _ [9] (by decide +kernel) (by decide +kernel)
set_option maxRecDepth 20000 in
theorem gX3_find_J7_fill_d0a16 : GoodIn wsX3_find (va_wsS RX3 32 yJ7_fill_d0a16 wsJ7_fill_d0a16) := goodIn_app (goodIn_of _ (by decide +kernel)) ggX3_find_J7_fill_d0a16
set_option maxRecDepth 20000 in
theorem ggX3_find_X3_add : GoodIn wsX3_find wsX3_add := goodIn_r _ [14, 2, 4, 1, 15, 16, 96, 97, 98, 99, 100, 101, 102, 103] (by decide +kernel) (by decide +kernel)
set_option maxRecDepth 20000 in
theorem gX3_find_X3_add : GoodIn wsX3_find (wsV RX3 45 RX3 yX3_add wsX3_add) := goodIn_app (goodIn_of _ (by decide +kernel)) ggX3_find_X3_add
set_option maxRecDepth 20000 in
theorem ggX3_find_X3_plainHindrance : GoodIn wsX3_find wsX3_plainHindrance := goodIn_r _ [19, 20, 21, 22, 23, 24, 25, 26, 27, 28, 29, 30, 31, 32, 33, 34, 35, 36, 37, 38, 39, 104, 105, 106, 107, 108, 109, 110, 111, 112] (by decide +kernel) (by decide +kernel)
set_option maxRecDepth 20000 in
theorem gX3_find_X3_plainHindrance : GoodIn wsX3_find (va_wsS RX3 49 yX3_plainHindrance wsX3_plainHindrance) := goodIn_app (goodIn_of _ (by decide +kernel)) ggX3_find_X3_plainHindrance
set_option maxRecDepth 20000 in
theorem ggX3_find_X7_sortOf : GoodIn wsX3_find wsX7_sortOf := goodIn_r _ [29, 30, 104, 105, 106, 107, 108, 109, 110, 111, 112] (by decide +kernel) (by decide +kernel)
set_option maxRecDepth 20000 in
theorem gX3_find_X7_sortOf : GoodIn wsX3_find (wsV RX3 53 RX7 yX7_sortOf wsX7_sortOf) := goodIn_app (goodIn_of _ (by decide +kernel)) ggX3_find_X7_sortOf
set_option maxRecDepth 20000 in
theorem ggX3_find_X7_kindOf : GoodIn wsX3_find wsX7_kindOf := goodIn_r _ [24, 25, 104, 105, 106, 107, 108, 109, 110, 111, 112] (by decide +kernel) (by decide +kernel)
set_option maxRecDepth 20000 in
theorem gX3_find_X7_kindOf : GoodIn wsX3_find (wsV RX3 59 RX7 yX7_kindOf wsX7_kindOf) := goodIn_app (goodIn_of _ (by decide +kernel)) ggX3_find_X7_kindOf
set_option maxRecDepth 20000 in
theorem ggX3_find_X7_innerOf : GoodIn wsX3_find wsX7_innerOf := goodIn_r _ [43, 44, 45, 104, 105, 106, 107, 108, 109, 110, 111, 112] (by decide +kernel) (by decide +kernel)
set_option maxRecDepth 20000 in
theorem gX3_find_X7_innerOf : GoodIn wsX3_find (wsV RX3 62 RX7 yX7_innerOf wsX7_innerOf) := goodIn_app (goodIn_of _ (by decide +kernel)) ggX3_find_X7_innerOf
set_option maxRecDepth 20000 in
theorem ggX3_find_X1_holds : GoodIn wsX3_find wsX1_holds := goodIn_r _ [49, 50, 51, 52, 53, 7, 8, 9, 54, 55, 56, 38, 57, 58, 59, 60, 61, 62, 21, 22, 23, 24, 25, 63, 27, 28, 29, 30, 64, 41, 42, 43, 44, 45, 65, 66, 67, 68, 69, 70, 32, 33, 34, 35, 71, 37, 39, 113, 114, 115, 104, 105, 106, 107, 108, 109, 110, 111, 112] (by decide +kernel) (by decide +kernel)
set_option maxRecDepth 20000 in
theorem gX3_find_X1_holds : GoodIn wsX3_find (wsV RX3 65 RX1 yX1_holds wsX1_holds) := goodIn_app (goodIn_of _ (by decide +kernel)) ggX3_find_X1_holds
set_option maxRecDepth 20000 in
theorem ggX3_find_X3_write : GoodIn wsX3_find wsX3_write := goodIn_r _ [75, 4, 15, 3, 76, 16, 96, 97, 98, 99, 100, 101, 102, 103] (by decide +kernel) (by decide +kernel)
set_option maxRecDepth 20000 in
theorem gX3_find_X3_write : GoodIn wsX3_find (wsV RX3 71 RX3 yX3_write wsX3_write) := goodIn_app (goodIn_of _ (by decide +kernel)) ggX3_find_X3_write
set_option maxRecDepth 20000 in
theorem ggX3_find_X3_follow : GoodIn wsX3_find wsX3_follow := goodIn_r _ [80, 20, 21, 22, 23, 24, 25, 81, 66, 67, 68, 69, 45, 10, 11, 12, 13, 14, 2, 4, 1, 15, 16, 31, 32, 33, 34, 35, 82, 83, 84, 85, 86, 87, 88, 89, 90, 91, 92, 93, 94, 95, 104, 105, 106, 107, 108, 109, 110, 111, 112, 96, 97, 98, 99, 100, 101, 102, 103] (by decide +kernel) (by decide +kernel)
set_option maxRecDepth 20000 in
theorem gX3_find_X3_follow : GoodIn wsX3_find (wsV RX3 75 RX3 yX3_follow wsX3_follow) := goodIn_app (goodIn_of _ (by decide +kernel)) ggX3_find_X3_follow
theorem dX3_find_0 : decode cX3_find 0 = .ok (.aload_n 0, 1) := by decide +kernel
theorem dX3_find_1 : decode cX3_find 1 = .ok (.getfield 15, 3) := by decide +kernel
theorem dX3_find_4 : decode cX3_find 4 = .ok (.lconst 0, 1) := by decide +kernel
theorem dX3_find_5 : decode cX3_find 5 = .ok (.invokestatic 32, 3) := by decide +kernel
theorem dX3_find_8 : decode cX3_find 8 = .ok (.aload_n 0, 1) := by decide +kernel
theorem dX3_find_9 : decode cX3_find 9 = .ok (.iconst 0, 1) := by decide +kernel
theorem dX3_find_10 : decode cX3_find 10 = .ok (.putfield 38, 3) := by decide +kernel
theorem dX3_find_13 : decode cX3_find 13 = .ok (.aload_n 0, 1) := by decide +kernel
theorem dX3_find_14 : decode cX3_find 14 = .ok (.iconst 0, 1) := by decide +kernel
theorem dX3_find_15 : decode cX3_find 15 = .ok (.putfield 42, 3) := by decide +kernel
theorem dX3_find_18 : decode cX3_find 18 = .ok (.aload_n 0, 1) := by decide +kernel
theorem dX3_find_19 : decode cX3_find 19 = .ok (.iload_n 2, 1) := by decide +kernel
theorem dX3_find_20 : decode cX3_find 20 = .ok (.iload 4, 2) := by decide +kernel
theorem dX3_find_22 : decode cX3_find 22 = .ok (.iconst (-1), 1) := by decide +kernel
theorem dX3_find_23 : decode cX3_find 23 = .ok (.iconst 0, 1) := by decide +kernel
theorem dX3_find_24 : decode cX3_find 24 = .ok (.invokevirtual 45, 3) := by decide +kernel
theorem dX3_find_27 : decode cX3_find 27 = .ok (.iconst 0, 1) := by decide +kernel
theorem dX3_find_28 : decode cX3_find 28 = .ok (.istore 5, 2) := by decide +kernel
theorem dX3_find_30 : decode cX3_find 30 = .ok (.iload 5, 2) := by decide +kernel
theorem dX3_find_32 : decode cX3_find 32 = .ok (.aload_n 0, 1) := by decide +kernel
theorem dX3_find_33 : decode cX3_find 33 = .ok (.getfield 38, 3) := by decide +kernel
theorem dX3_find_36 : decode cX3_find 36 = .ok (.if_icmp .ge 167, 3) := by decide +kernel
theorem dX3_find_39 : decode cX3_find 39 = .ok (.iload 5, 2) := by decide +kernel
theorem dX3_find_41 : decode cX3_find 41 = .ok (.aload_n 0, 1) := by decide +kernel
theorem dX3_find_42 : decode cX3_find 42 = .ok (.getfield 19, 3) := by decide +kernel
theorem dX3_find_45 : decode cX3_find 45 = .ok (.arraylength, 1) := by decide +kernel
theorem dX3_find_46 : decode cX3_find 46 = .ok (.if_icmp .ge 157, 3) := by decide +kernel
theorem dX3_find_49 : decode cX3_find 49 = .ok (.aload_n 0, 1) := by decide +kernel
theorem dX3_find_50 : decode cX3_find 50 = .ok (.getfield 19, 3) := by decide +kernel
theorem dX3_find_53 : decode cX3_find 53 = .ok (.iload 5, 2) := by decide +kernel
theorem dX3_find_55 : decode cX3_find 55 = .ok (.iaload, 1) := by decide +kernel
theorem dX3_find_56 : decode cX3_find 56 = .ok (.bipush 60, 2) := by decide +kernel
theorem dX3_find_58 : decode cX3_find 58 = .ok (.idiv, 1) := by decide +kernel
theorem dX3_find_59 : decode cX3_find 59 = .ok (.istore 6, 2) := by decide +kernel
theorem dX3_find_61 : decode cX3_find 61 = .ok (.aload_n 0, 1) := by decide +kernel
theorem dX3_find_62 : decode cX3_find 62 = .ok (.getfield 19, 3) := by decide +kernel
theorem dX3_find_65 : decode cX3_find 65 = .ok (.iload 5, 2) := by decide +kernel
theorem dX3_find_67 : decode cX3_find 67 = .ok (.iaload, 1) := by decide +kernel
theorem dX3_find_68 : decode cX3_find 68 = .ok (.bipush 60, 2) := by decide +kernel
theorem dX3_find_70 : decode cX3_find 70 = .ok (.irem, 1) := by decide +kernel
theorem dX3_find_71 : decode cX3_find 71 = .ok (.istore 7, 2) := by decide +kernel
theorem dX3_find_73 : decode cX3_find 73 = .ok (.aload_n 1, 1) := by decide +kernel
theorem dX3_find_74 : decode cX3_find 74 = .ok (.iload 6, 2) := by decide +kernel
theorem dX3_find_76 : decode cX3_find 76 = .ok (.aload_n 3, 1) := by decide +kernel
theorem dX3_find_77 : decode cX3_find 77 = .ok (.iload 7, 2) := by decide +kernel
theorem dX3_find_79 : decode cX3_find 79 = .ok (.invokestatic 49, 3) := by decide +kernel
theorem dX3_find_82 : decode cX3_find 82 = .ok (.istore 8, 2) := by decide +kernel
theorem dX3_find_84 : decode cX3_find 84 = .ok (.iload 8, 2) := by decide +kernel
theorem dX3_find_86 : decode cX3_find 86 = .ok (.ifCond .ne 81, 3) := by decide +kernel
theorem dX3_find_89 : decode cX3_find 89 = .ok (.aload_n 1, 1) := by decide +kernel
theorem dX3_find_90 : decode cX3_find 90 = .ok (.iload 6, 2) := by decide +kernel
theorem dX3_find_92 : decode cX3_find 92 = .ok (.invokevirtual 53, 3) := by decide +kernel
theorem dX3_find_95 : decode cX3_find 95 = .ok (.bipush 40, 2) := by decide +kernel
theorem dX3_find_97 : decode cX3_find 97 = .ok (.if_icmp .ne 70, 3) := by decide +kernel
theorem dX3_find_100 : decode cX3_find 100 = .ok (.aload_n 1, 1) := by decide +kernel
theorem dX3_find_101 : decode cX3_find 101 = .ok (.iload 6, 2) := by decide +kernel
theorem dX3_find_103 : decode cX3_find 103 = .ok (.invokevirtual 59, 3) := by decide +kernel
theorem dX3_find_106 : decode cX3_find 106 = .ok (.iconst 1, 1) := by decide +kernel
theorem dX3_find_107 : decode cX3_find 107 = .ok (.if_icmp .ne 28, 3) := by decide +kernel
theorem dX3_find_110 : decode cX3_find 110 = .ok (.aload_n 0, 1) := by decide +kernel
theorem dX3_find_111 : decode cX3_find 111 = .ok (.getfield 28, 3) := by decide +kernel
theorem dX3_find_114 : decode cX3_find 114 = .ok (.aload_n 3, 1) := by decide +kernel
theorem dX3_find_115 : decode cX3_find 115 = .ok (.aload_n 3, 1) := by decide +kernel
theorem dX3_find_116 : decode cX3_find 116 = .ok (.iload 7, 2) := by decide +kernel
theorem dX3_find_118 : decode cX3_find 118 = .ok (.invokevirtual 62, 3) := by decide +kernel
theorem dX3_find_121 : decode cX3_find 121 = .ok (.aload_n 1, 1) := by decide +kernel
theorem dX3_find_122 : decode cX3_find 122 = .ok (.aload_n 1, 1) := by decide +kernel
theorem dX3_find_123 : decode cX3_find 123 = .ok (.iload 6, 2) := by decide +kernel
theorem dX3_find_125 : decode cX3_find 125 = .ok (.invokevirtual 62, 3) := by decide +kernel
theorem dX3_find_128 : decode cX3_find 128 = .ok (.iconst 0, 1) := by decide +kernel
theorem dX3_find_129 : decode cX3_find 129 = .ok (.invokevirtual 65, 3) := by decide +kernel
theorem dX3_find_132 : decode cX3_find 132 = .ok (.goto 25, 3) := by decide +kernel
theorem dX3_find_135 : decode cX3_find 135 = .ok (.aload_n 0, 1) := by decide +kernel
theorem dX3_find_136 : decode cX3_find 136 = .ok (.getfield 28, 3) := by decide +kernel
theorem dX3_find_139 : decode cX3_find 139 = .ok (.aload_n 1, 1) := by decide +kernel
theorem dX3_find_140 : decode cX3_find 140 = .ok (.aload_n 1, 1) := by decide +kernel
theorem dX3_find_141 : decode cX3_find 141 = .ok (.iload 6, 2) := by decide +kernel
theorem dX3_find_143 : decode cX3_find 143 = .ok (.invokevirtual 62, 3) := by decide +kernel
theorem dX3_find_146 : decode cX3_find 146 = .ok (.aload_n 3, 1) := by decide +kernel
theorem dX3_find_147 : decode cX3_find 147 = .ok (.aload_n 3, 1) := by decide +kernel
theorem dX3_find_148 : decode cX3_find 148 = .ok (.iload 7, 2) := by decide +kernel
theorem dX3_find_150 : decode cX3_find 150 = .ok (.invokevirtual 62, 3) := by decide +kernel
theorem dX3_find_153 : decode cX3_find 153 = .ok (.iconst 0, 1) := by decide +kernel
theorem dX3_find_154 : decode cX3_find 154 = .ok (.invokevirtual 65, 3) := by decide +kernel
theorem dX3_find_157 : decode cX3_find 157 = .ok (.istore 9, 2) := by decide +kernel
theorem dX3_find_159 : decode cX3_find 159 = .ok (.iload 9, 2) := by decide +kernel
theorem dX3_find_161 : decode cX3_find 161 = .ok (.ifCond .ne 6, 3) := by decide +kernel
theorem dX3_find_164 : decode cX3_find 164 = .ok (.iconst 2, 1) := by decide +kernel
theorem dX3_find_165 : decode cX3_find 165 = .ok (.istore 8, 2) := by decide +kernel
theorem dX3_find_167 : decode cX3_find 167 = .ok (.iload 8, 2) := by decide +kernel
theorem dX3_find_169 : decode cX3_find 169 = .ok (.ifCond .eq 16, 3) := by decide +kernel
theorem dX3_find_172 : decode cX3_find 172 = .ok (.aload_n 0, 1) := by decide +kernel
theorem dX3_find_173 : decode cX3_find 173 = .ok (.iload 5, 2) := by decide +kernel
theorem dX3_find_175 : decode cX3_find 175 = .ok (.iload 8, 2) := by decide +kernel
theorem dX3_find_177 : decode cX3_find 177 = .ok (.invokevirtual 71, 3) := by decide +kernel
theorem dX3_find_180 : decode cX3_find 180 = .ok (.aload_n 0, 1) := by decide +kernel
theorem dX3_find_181 : decode cX3_find 181 = .ok (.getfield 42, 3) := by decide +kernel
theorem dX3_find_184 : decode cX3_find 184 = .ok (.ireturn, 1) := by decide +kernel
theorem dX3_find_185 : decode cX3_find 185 = .ok (.aload_n 0, 1) := by decide +kernel
theorem dX3_find_186 : decode cX3_find 186 = .ok (.aload_n 1, 1) := by decide +kernel
theorem dX3_find_187 : decode cX3_find 187 = .ok (.iload 6, 2) := by decide +kernel
theorem dX3_find_189 : decode cX3_find 189 = .ok (.aload_n 3, 1) := by decide +kernel
theorem dX3_find_190 : decode cX3_find 190 = .ok (.iload 7, 2) := by decide +kernel
theorem dX3_find_192 : decode cX3_find 192 = .ok (.iload 5, 2) := by decide +kernel
theorem dX3_find_194 : decode cX3_find 194 = .ok (.invokevirtual 75, 3) := by decide +kernel
theorem dX3_find_197 : decode cX3_find 197 = .ok (.iinc 5 1, 3) := by decide +kernel
theorem dX3_find_200 : decode cX3_find 200 = .ok (.goto (-170), 3) := by decide +kernel
theorem dX3_find_203 : decode cX3_find 203 = .ok (.iconst 0, 1) := by decide +kernel
theorem dX3_find_204 : decode cX3_find 204 = .ok (.ireturn, 1) := by decide +kernel
set_option maxRecDepth 20000 in
theorem ggX3_plainHindrance_X7_kindOf : GoodIn wsX3_plainHindrance wsX7_kindOf := goodIn_r _ [5, 6, 21, 22, 23, 24, 25, 26, 27, 28, 29] (by decide +kernel) (by decide +kernel)
set_option maxRecDepth 20000 in
theorem gX3_plainHindrance_X7_kindOf : GoodIn wsX3_plainHindrance (wsV RX3 59 RX7 yX7_kindOf wsX7_kindOf) := goodIn_app (goodIn_of _ (by decide +kernel)) ggX3_plainHindrance_X7_kindOf
set_option maxRecDepth 20000 in
theorem ggX3_plainHindrance_X7_sortOf : GoodIn wsX3_plainHindrance wsX7_sortOf := goodIn_r _ [10, 11, 21, 22, 23, 24, 25, 26, 27, 28, 29] (by decide +kernel) (by decide +kernel)
set_option maxRecDepth 20000 in
theorem gX3_plainHindrance_X7_sortOf : GoodIn wsX3_plainHindrance (wsV RX3 53 RX7 yX7_sortOf wsX7_sortOf) := goodIn_app (goodIn_of _ (by decide +kernel)) ggX3_plainHindrance_X7_sortOf
set_option maxRecDepth 20000 in
theorem ggX3_plainHindrance_X7_labelsOf : GoodIn wsX3_plainHindrance wsX7_labelsOf := goodIn_r _ [15, 16, 21, 22, 23, 24, 25, 26, 27, 28, 29] (by decide +kernel) (by decide +kernel)
set_option maxRecDepth 20000 in
theorem gX3_plainHindrance_X7_labelsOf : GoodIn wsX3_plainHindrance (wsV RX3 79 RX7 yX7_labelsOf wsX7_labelsOf) := goodIn_app (goodIn_of _ (by decide +kernel)) ggX3_plainHindrance_X7_labelsOf
set_option maxRecDepth 20000 in
theorem ggX3_plainHindrance_X1_labelsFit : GoodIn wsX3_plainHindrance wsX1_labelsFit := goodIn_r _ [20] (by decide +kernel) (by decide +kernel)
set_option maxRecDepth 20000 in
theorem gX3_plainHindrance_X1_labelsFit : GoodIn wsX3_plainHindrance (va_wsS RX3 82 yX1_labelsFit wsX1_labelsFit) := goodIn_app (goodIn_of _ (by decide +kernel)) ggX3_plainHindrance_X1_labelsFit
theorem dX3_plainHindrance_0 : decode cX3_plainHindrance 0 = .ok (.aload_n 0, 1) := by decide +kernel
theorem dX3_plainHindrance_1 : decode cX3_plainHindrance 1 = .ok (.iload_n 1, 1) := by decide +kernel
theorem dX3_plainHindrance_2 : decode cX3_plainHindrance 2 = .ok (.invokevirtual 59, 3) := by decide +kernel
theorem dX3_plainHindrance_5 : decode cX3_plainHindrance 5 = .ok (.istore 4, 2) := by decide +kernel
theorem dX3_plainHindrance_7 : decode cX3_plainHindrance 7 = .ok (.iload 4, 2) := by decide +kernel
theorem dX3_plainHindrance_9 : decode cX3_plainHindrance 9 = .ok (.aload_n 2, 1) := by decide +kernel
theorem dX3_plainHindrance_10 : decode cX3_plainHindrance 10 = .ok (.iload_n 3, 1) := by decide +kernel
theorem dX3_plainHindrance_11 : decode cX3_plainHindrance 11 = .ok (.invokevirtual 59, 3) := by decide +kernel
theorem dX3_plainHindrance_14 : decode cX3_plainHindrance 14 = .ok (.if_icmp .eq 5, 3) := by decide +kernel
theorem dX3_plainHindrance_17 : decode cX3_plainHindrance 17 = .ok (.iconst 1, 1) := by decide +kernel
theorem dX3_plainHindrance_18 : decode cX3_plainHindrance 18 = .ok (.ireturn, 1) := by decide +kernel
theorem dX3_plainHindrance_19 : decode cX3_plainHindrance 19 = .ok (.aload_n 0, 1) := by decide +kernel
theorem dX3_plainHindrance_20 : decode cX3_plainHindrance 20 = .ok (.iload_n 1, 1) := by decide +kernel
theorem dX3_plainHindrance_21 : decode cX3_plainHindrance 21 = .ok (.invokevirtual 53, 3) := by decide +kernel
theorem dX3_plainHindrance_24 : decode cX3_plainHindrance 24 = .ok (.aload_n 2, 1) := by decide +kernel
theorem dX3_plainHindrance_25 : decode cX3_plainHindrance 25 = .ok (.iload_n 3, 1) := by decide +kernel
theorem dX3_plainHindrance_26 : decode cX3_plainHindrance 26 = .ok (.invokevirtual 53, 3) := by decide +kernel
theorem dX3_plainHindrance_29 : decode cX3_plainHindrance 29 = .ok (.if_icmp .eq 5, 3) := by decide +kernel
theorem dX3_plainHindrance_32 : decode cX3_plainHindrance 32 = .ok (.iconst 2, 1) := by decide +kernel
theorem dX3_plainHindrance_33 : decode cX3_plainHindrance 33 = .ok (.ireturn, 1) := by decide +kernel
theorem dX3_plainHindrance_34 : decode cX3_plainHindrance 34 = .ok (.iload 4, 2) := by decide +kernel
theorem dX3_plainHindrance_36 : decode cX3_plainHindrance 36 = .ok (.iconst 3, 1) := by decide +kernel
theorem dX3_plainHindrance_37 : decode cX3_plainHindrance 37 = .ok (.if_icmp .eq 11, 3) := by decide +kernel
theorem dX3_plainHindrance_40 : decode cX3_plainHindrance 40 = .ok (.iload 4, 2) := by decide +kernel
theorem dX3_plainHindrance_42 : decode cX3_plainHindrance 42 = .ok (.iconst 4, 1) := by decide +kernel
theorem dX3_plainHindrance_43 : decode cX3_plainHindrance 43 = .ok (.if_icmp .eq 5, 3) := by decide +kernel
theorem dX3_plainHindrance_46 : decode cX3_plainHindrance 46 = .ok (.iconst 0, 1) := by decide +kernel
theorem dX3_plainHindrance_47 : decode cX3_plainHindrance 47 = .ok (.ireturn, 1) := by decide +kernel
theorem dX3_plainHindrance_48 : decode cX3_plainHindrance 48 = .ok (.iload 4, 2) := by decide +kernel
theorem dX3_plainHindrance_50 : decode cX3_plainHindrance 50 = .ok (.aload_n 0, 1) := by decide +kernel
theorem dX3_plainHindrance_51 : decode cX3_plainHindrance 51 = .ok (.iload_n 1, 1) := by decide +kernel
theorem dX3_plainHindrance_52 : decode cX3_plainHindrance 52 = .ok (.invokevirtual 79, 3) := by decide +kernel
theorem dX3_plainHindrance_55 : decode cX3_plainHindrance 55 = .ok (.aload_n 2, 1) := by decide +kernel
theorem dX3_plainHindrance_56 : decode cX3_plainHindrance 56 = .ok (.iload_n 3, 1) := by decide +kernel
theorem dX3_plainHindrance_57 : decode cX3_plainHindrance 57 = .ok (.invokevirtual 79, 3) := by decide +kernel
theorem dX3_plainHindrance_60 : decode cX3_plainHindrance 60 = .ok (.invokestatic 82, 3) := by decide +kernel
theorem dX3_plainHindrance_63 : decode cX3_plainHindrance 63 = .ok (.ifCond .eq 7, 3) := by decide +kernel
theorem dX3_plainHindrance_66 : decode cX3_plainHindrance 66 = .ok (.iconst 0, 1) := by decide +kernel
theorem dX3_plainHindrance_67 : decode cX3_plainHindrance 67 = .ok (.goto 4, 3) := by decide +kernel
theorem dX3_plainHindrance_70 : decode cX3_plainHindrance 70 = .ok (.iconst 3, 1) := by decide +kernel
theorem dX3_plainHindrance_71 : decode cX3_plainHindrance 71 = .ok (.ireturn, 1) := by decide +kernel
set_option maxRecDepth 20000 in
theorem ggX3_follow_X7_kindOf : GoodIn wsX3_follow wsX7_kindOf := goodIn_r _ [5, 6, 42, 43, 44, 45, 46, 47, 48, 49, 50] (by decide +kernel) (by decide +kernel)
set_option maxRecDepth 20000 in
theorem gX3_follow_X7_kindOf : GoodIn wsX3_follow (wsV RX3 59 RX7 yX7_kindOf wsX7_kindOf) := goodIn_app (goodIn_of _ (by decide +kernel)) ggX3_follow_X7_kindOf
set_option maxRecDepth 20000 in
theorem ggX3_follow_X7_stepOf : GoodIn wsX3_follow wsX7_stepOf := goodIn_r _ [10, 11, 12, 42, 43, 44, 45, 46, 47, 48, 49, 50] (by decide +kernel) (by decide +kernel)
set_option maxRecDepth 20000 in
theorem gX3_follow_X7_stepOf : GoodIn wsX3_follow (wsV RX3 86 RX7 yX7_stepOf wsX7_stepOf) := goodIn_app (goodIn_of _ (by decide +kernel)) ggX3_follow_X7_stepOf
set_option maxRecDepth 20000 in
theorem ggX3_follow_X3_add : GoodIn wsX3_follow wsX3_add := goodIn_r _ [17, 18, 19, 20, 21, 22, 51, 52, 53, 54, 55, 56, 57, 58] (by decide +kernel) (by decide +kernel)
set_option maxRecDepth 20000 in
theorem gX3_follow_X3_add : GoodIn wsX3_follow (wsV RX3 45 RX3 yX3_add wsX3_add) := goodIn_app (goodIn_of _ (by decide +kernel)) ggX3_follow_X3_add
set_option maxRecDepth 20000 in
theorem ggX3_follow_X7_labelsOf : GoodIn wsX3_follow wsX7_labelsOf := goodIn_r _ [26, 27, 42, 43, 44, 45, 46, 47, 48, 49, 50] (by decide +kernel) (by decide +kernel)
set_option maxRecDepth 20000 in
theorem gX3_follow_X7_labelsOf : GoodIn wsX3_follow (wsV RX3 79 RX7 yX7_labelsOf wsX7_labelsOf) := goodIn_app (goodIn_of _ (by decide +kernel)) ggX3_follow_X7_labelsOf
set_option maxRecDepth 20000 in
theorem ggX3_follow_X7_behind : GoodIn wsX3_follow wsX7_behind := goodIn_r _ [31, 32, 2, 3, 4, 5, 6, 33, 8, 9, 10, 11, 12, 34, 24, 25, 26, 27, 35, 36, 37, 38, 39, 40, 41, 42, 43, 44, 45, 46, 47, 48, 49, 50] (by decide +kernel) (by decide +kernel)
set_option maxRecDepth 20000 in
theorem gX3_follow_X7_behind : GoodIn wsX3_follow (wsV RX3 90 RX7 yX7_behind wsX7_behind) := goodIn_app (goodIn_of _ (by decide +kernel)) ggX3_follow_X7_behind
theorem dX3_follow_0 : decode cX3_follow 0 = .ok (.aload_n 1, 1) := by decide +kernel
theorem dX3_follow_1 : decode cX3_follow 1 = .ok (.iload_n 2, 1) := by decide +kernel
theorem dX3_follow_2 : decode cX3_follow 2 = .ok (.invokevirtual 59, 3) := by decide +kernel
theorem dX3_follow_5 : decode cX3_follow 5 = .ok (.istore 6, 2) := by decide +kernel
theorem dX3_follow_7 : decode cX3_follow 7 = .ok (.iload 6, 2) := by decide +kernel
theorem dX3_follow_9 : decode cX3_follow 9 = .ok (.iconst 1, 1) := by decide +kernel
theorem dX3_follow_10 : decode cX3_follow 10 = .ok (.if_icmp .eq 9, 3) := by decide +kernel
theorem dX3_follow_13 : decode cX3_follow 13 = .ok (.iload 6, 2) := by decide +kernel
theorem dX3_follow_15 : decode cX3_follow 15 = .ok (.iconst 2, 1) := by decide +kernel
theorem dX3_follow_16 : decode cX3_follow 16 = .ok (.if_icmp .ne 24, 3) := by decide +kernel
theorem dX3_follow_19 : decode cX3_follow 19 = .ok (.aload_n 0, 1) := by decide +kernel
theorem dX3_follow_20 : decode cX3_follow 20 = .ok (.aload_n 1, 1) := by decide +kernel
theorem dX3_follow_21 : decode cX3_follow 21 = .ok (.iload_n 2, 1) := by decide +kernel
theorem dX3_follow_22 : decode cX3_follow 22 = .ok (.iconst 0, 1) := by decide +kernel
theorem dX3_follow_23 : decode cX3_follow 23 = .ok (.invokevirtual 86, 3) := by decide +kernel
theorem dX3_follow_26 : decode cX3_follow 26 = .ok (.aload_n 3, 1) := by decide +kernel
theorem dX3_follow_27 : decode cX3_follow 27 = .ok (.iload 4, 2) := by decide +kernel
theorem dX3_follow_29 : decode cX3_follow 29 = .ok (.iconst 0, 1) := by decide +kernel
theorem dX3_follow_30 : decode cX3_follow 30 = .ok (.invokevirtual 86, 3) := by decide +kernel
theorem dX3_follow_33 : decode cX3_follow 33 = .ok (.iload 5, 2) := by decide +kernel
theorem dX3_follow_35 : decode cX3_follow 35 = .ok (.bipush 46, 2) := by decide +kernel
theorem dX3_follow_37 : decode cX3_follow 37 = .ok (.invokevirtual 45, 3) := by decide +kernel
theorem dX3_follow_40 : decode cX3_follow 40 = .ok (.iload 6, 2) := by decide +kernel
theorem dX3_follow_42 : decode cX3_follow 42 = .ok (.iconst 3, 1) := by decide +kernel
theorem dX3_follow_43 : decode cX3_follow 43 = .ok (.if_icmp .eq 10, 3) := by decide +kernel
theorem dX3_follow_46 : decode cX3_follow 46 = .ok (.iload 6, 2) := by decide +kernel
theorem dX3_follow_48 : decode cX3_follow 48 = .ok (.iconst 4, 1) := by decide +kernel
theorem dX3_follow_49 : decode cX3_follow 49 = .ok (.if_icmp .eq 4, 3) := by decide +kernel
theorem dX3_follow_52 : decode cX3_follow 52 = .ok (.return_, 1) := by decide +kernel
theorem dX3_follow_53 : decode cX3_follow 53 = .ok (.aload_n 1, 1) := by decide +kernel
theorem dX3_follow_54 : decode cX3_follow 54 = .ok (.iload_n 2, 1) := by decide +kernel
theorem dX3_follow_55 : decode cX3_follow 55 = .ok (.invokevirtual 79, 3) := by decide +kernel
theorem dX3_follow_58 : decode cX3_follow 58 = .ok (.aload_n 3, 1) := by decide +kernel
theorem dX3_follow_59 : decode cX3_follow 59 = .ok (.iload 4, 2) := by decide +kernel
theorem dX3_follow_61 : decode cX3_follow 61 = .ok (.invokevirtual 79, 3) := by decide +kernel
theorem dX3_follow_64 : decode cX3_follow 64 = .ok (.iand, 1) := by decide +kernel
theorem dX3_follow_65 : decode cX3_follow 65 = .ok (.istore 7, 2) := by decide +kernel
theorem dX3_follow_67 : decode cX3_follow 67 = .ok (.iconst 0, 1) := by decide +kernel
theorem dX3_follow_68 : decode cX3_follow 68 = .ok (.istore 8, 2) := by decide +kernel
theorem dX3_follow_70 : decode cX3_follow 70 = .ok (.iload 8, 2) := by decide +kernel
theorem dX3_follow_72 : decode cX3_follow 72 = .ok (.bipush 26, 2) := by decide +kernel
theorem dX3_follow_74 : decode cX3_follow 74 = .ok (.if_icmp .ge 48, 3) := by decide +kernel
theorem dX3_follow_77 : decode cX3_follow 77 = .ok (.iload 7, 2) := by decide +kernel
theorem dX3_follow_79 : decode cX3_follow 79 = .ok (.iload 8, 2) := by decide +kernel
theorem dX3_follow_81 : decode cX3_follow 81 = .ok (.ishr, 1) := by decide +kernel
theorem dX3_follow_82 : decode cX3_follow 82 = .ok (.iconst 1, 1) := by decide +kernel
theorem dX3_follow_83 : decode cX3_follow 83 = .ok (.iand, 1) := by decide +kernel
theorem dX3_follow_84 : decode cX3_follow 84 = .ok (.ifCond .ne 6, 3) := by decide +kernel
theorem dX3_follow_87 : decode cX3_follow 87 = .ok (.goto 29, 3) := by decide +kernel
theorem dX3_follow_90 : decode cX3_follow 90 = .ok (.aload_n 0, 1) := by decide +kernel
theorem dX3_follow_91 : decode cX3_follow 91 = .ok (.aload_n 1, 1) := by decide +kernel
theorem dX3_follow_92 : decode cX3_follow 92 = .ok (.iload_n 2, 1) := by decide +kernel
theorem dX3_follow_93 : decode cX3_follow 93 = .ok (.iload 8, 2) := by decide +kernel
theorem dX3_follow_95 : decode cX3_follow 95 = .ok (.invokevirtual 90, 3) := by decide +kernel
theorem dX3_follow_98 : decode cX3_follow 98 = .ok (.aload_n 3, 1) := by decide +kernel
theorem dX3_follow_99 : decode cX3_follow 99 = .ok (.iload 4, 2) := by decide +kernel
theorem dX3_follow_101 : decode cX3_follow 101 = .ok (.iload 8, 2) := by decide +kernel
theorem dX3_follow_103 : decode cX3_follow 103 = .ok (.invokevirtual 90, 3) := by decide +kernel
theorem dX3_follow_106 : decode cX3_follow 106 = .ok (.iload 5, 2) := by decide +kernel
theorem dX3_follow_108 : decode cX3_follow 108 = .ok (.bipush 97, 2) := by decide +kernel
theorem dX3_follow_110 : decode cX3_follow 110 = .ok (.iload 8, 2) := by decide +kernel
theorem dX3_follow_112 : decode cX3_follow 112 = .ok (.iadd, 1) := by decide +kernel
theorem dX3_follow_113 : decode cX3_follow 113 = .ok (.invokevirtual 45, 3) := by decide +kernel
theorem dX3_follow_116 : decode cX3_follow 116 = .ok (.iinc 8 1, 3) := by decide +kernel
theorem dX3_follow_119 : decode cX3_follow 119 = .ok (.goto (-49), 3) := by decide +kernel
theorem dX3_follow_122 : decode cX3_follow 122 = .ok (.return_, 1) := by decide +kernel
theorem dX3_add_0 : decode cX3_add 0 = .ok (.iload_n 1, 1) := by decide +kernel
theorem dX3_add_1 : decode cX3_add 1 = .ok (.ifCond .lt 38, 3) := by decide +kernel
theorem dX3_add_4 : decode cX3_add 4 = .ok (.iload_n 1, 1) := by decide +kernel
theorem dX3_add_5 : decode cX3_add 5 = .ok (.bipush 60, 2) := by decide +kernel
theorem dX3_add_7 : decode cX3_add 7 = .ok (.if_icmp .ge 32, 3) := by decide +kernel
theorem dX3_add_10 : decode cX3_add 10 = .ok (.iload_n 2, 1) := by decide +kernel
theorem dX3_add_11 : decode cX3_add 11 = .ok (.ifCond .lt 28, 3) := by decide +kernel
theorem dX3_add_14 : decode cX3_add 14 = .ok (.iload_n 2, 1) := by decide +kernel
theorem dX3_add_15 : decode cX3_add 15 = .ok (.bipush 60, 2) := by decide +kernel
theorem dX3_add_17 : decode cX3_add 17 = .ok (.if_icmp .ge 22, 3) := by decide +kernel
theorem dX3_add_20 : decode cX3_add 20 = .ok (.aload_n 0, 1) := by decide +kernel
theorem dX3_add_21 : decode cX3_add 21 = .ok (.getfield 38, 3) := by decide +kernel
theorem dX3_add_24 : decode cX3_add 24 = .ok (.ifCond .lt 15, 3) := by decide +kernel
theorem dX3_add_27 : decode cX3_add 27 = .ok (.aload_n 0, 1) := by decide +kernel
theorem dX3_add_28 : decode cX3_add 28 = .ok (.getfield 38, 3) := by decide +kernel
theorem dX3_add_31 : decode cX3_add 31 = .ok (.aload_n 0, 1) := by decide +kernel
theorem dX3_add_32 : decode cX3_add 32 = .ok (.getfield 19, 3) := by decide +kernel
theorem dX3_add_35 : decode cX3_add 35 = .ok (.arraylength, 1) := by decide +kernel
theorem dX3_add_36 : decode cX3_add 36 = .ok (.if_icmp .lt 4, 3) := by decide +kernel
theorem dX3_add_39 : decode cX3_add 39 = .ok (.return_, 1) := by decide +kernel
theorem dX3_add_40 : decode cX3_add 40 = .ok (.aload_n 0, 1) := by decide +kernel
theorem dX3_add_41 : decode cX3_add 41 = .ok (.getfield 15, 3) := by decide +kernel
theorem dX3_add_44 : decode cX3_add 44 = .ok (.iload_n 1, 1) := by decide +kernel
theorem dX3_add_45 : decode cX3_add 45 = .ok (.laload, 1) := by decide +kernel
theorem dX3_add_46 : decode cX3_add 46 = .ok (.iload_n 2, 1) := by decide +kernel
theorem dX3_add_47 : decode cX3_add 47 = .ok (.lshr, 1) := by decide +kernel
theorem dX3_add_48 : decode cX3_add 48 = .ok (.lconst 1, 1) := by decide +kernel
theorem dX3_add_49 : decode cX3_add 49 = .ok (.land, 1) := by decide +kernel
theorem dX3_add_50 : decode cX3_add 50 = .ok (.lconst 0, 1) := by decide +kernel
theorem dX3_add_51 : decode cX3_add 51 = .ok (.lcmp, 1) := by decide +kernel
theorem dX3_add_52 : decode cX3_add 52 = .ok (.ifCond .eq 4, 3) := by decide +kernel
theorem dX3_add_55 : decode cX3_add 55 = .ok (.return_, 1) := by decide +kernel
theorem dX3_add_56 : decode cX3_add 56 = .ok (.aload_n 0, 1) := by decide +kernel
theorem dX3_add_57 : decode cX3_add 57 = .ok (.getfield 15, 3) := by decide +kernel
theorem dX3_add_60 : decode cX3_add 60 = .ok (.iload_n 1, 1) := by decide +kernel
theorem dX3_add_61 : decode cX3_add 61 = .ok (.dup2, 1) := by decide +kernel
theorem dX3_add_62 : decode cX3_add 62 = .ok (.laload, 1) := by decide +kernel
theorem dX3_add_63 : decode cX3_add 63 = .ok (.lconst 1, 1) := by decide +kernel
theorem dX3_add_64 : decode cX3_add 64 = .ok (.iload_n 2, 1) := by decide +kernel
theorem dX3_add_65 : decode cX3_add 65 = .ok (.lshl, 1) := by decide +kernel
theorem dX3_add_66 : decode cX3_add 66 = .ok (.lor, 1) := by decide +kernel
theorem dX3_add_67 : decode cX3_add 67 = .ok (.lastore, 1) := by decide +kernel
theorem dX3_add_68 : decode cX3_add 68 = .ok (.aload_n 0, 1) := by decide +kernel
theorem dX3_add_69 : decode cX3_add 69 = .ok (.getfield 19, 3) := by decide +kernel
theorem dX3_add_72 : decode cX3_add 72 = .ok (.aload_n 0, 1) := by decide +kernel
theorem dX3_add_73 : decode cX3_add 73 = .ok (.getfield 38, 3) := by decide +kernel
theorem dX3_add_76 : decode cX3_add 76 = .ok (.iload_n 1, 1) := by decide +kernel
theorem dX3_add_77 : decode cX3_add 77 = .ok (.bipush 60, 2) := by decide +kernel
theorem dX3_add_79 : decode cX3_add 79 = .ok (.imul, 1) := by decide +kernel
theorem dX3_add_80 : decode cX3_add 80 = .ok (.iload_n 2, 1) := by decide +kernel
theorem dX3_add_81 : decode cX3_add 81 = .ok (.iadd, 1) := by decide +kernel
theorem dX3_add_82 : decode cX3_add 82 = .ok (.iastore, 1) := by decide +kernel
theorem dX3_add_83 : decode cX3_add 83 = .ok (.aload_n 0, 1) := by decide +kernel
theorem dX3_add_84 : decode cX3_add 84 = .ok (.getfield 22, 3) := by decide +kernel
theorem dX3_add_87 : decode cX3_add 87 = .ok (.aload_n 0, 1) := by decide +kernel
theorem dX3_add_88 : decode cX3_add 88 = .ok (.getfield 38, 3) := by decide +kernel
theorem dX3_add_91 : decode cX3_add 91 = .ok (.iload_n 3, 1) := by decide +kernel
theorem dX3_add_92 : decode cX3_add 92 = .ok (.iastore, 1) := by decide +kernel
theorem dX3_add_93 : decode cX3_add 93 = .ok (.aload_n 0, 1) := by decide +kernel
theorem dX3_add_94 : decode cX3_add 94 = .ok (.getfield 25, 3) := by decide +kernel
theorem dX3_add_97 : decode cX3_add 97 = .ok (.aload_n 0, 1) := by decide +kernel
theorem dX3_add_98 : decode cX3_add 98 = .ok (.getfield 38, 3) := by decide +kernel
theorem dX3_add_101 : decode cX3_add 101 = .ok (.iload 4, 2) := by decide +kernel
theorem dX3_add_103 : decode cX3_add 103 = .ok (.iastore, 1) := by decide +kernel
theorem dX3_add_104 : decode cX3_add 104 = .ok (.aload_n 0, 1) := by decide +kernel
theorem dX3_add_105 : decode cX3_add 105 = .ok (.dup, 1) := by decide +kernel
theorem dX3_add_106 : decode cX3_add 106 = .ok (.getfield 38, 3) := by decide +kernel
theorem dX3_add_109 : decode cX3_add 109 = .ok (.iconst 1, 1) := by decide +kernel
theorem dX3_add_110 : decode cX3_add 110 = .ok (.iadd, 1) := by decide +kernel
theorem dX3_add_111 : decode cX3_add 111 = .ok (.putfield 38, 3) := by decide +kernel
theorem dX3_add_114 : decode cX3_add 114 = .ok (.return_, 1) := by decide +kernel
theorem dX3_write_0 : decode cX3_write 0 = .ok (.iconst 0, 1) := by decide +kernel
theorem dX3_write_1 : decode cX3_write 1 = .ok (.istore_n 3, 1) := by decide +kernel
theorem dX3_write_2 : decode cX3_write 2 = .ok (.iload_n 1, 1) := by decide +kernel
theorem dX3_write_3 : decode cX3_write 3 = .ok (.istore 4, 2) := by decide +kernel
theorem dX3_write_5 : decode cX3_write 5 = .ok (.iconst 0, 1) := by decide +kernel
theorem dX3_write_6 : decode cX3_write 6 = .ok (.istore 5, 2) := by decide +kernel
theorem dX3_write_8 : decode cX3_write 8 = .ok (.iload 5, 2) := by decide +kernel
theorem dX3_write_10 : decode cX3_write 10 = .ok (.aload_n 0, 1) := by decide +kernel
theorem dX3_write_11 : decode cX3_write 11 = .ok (.getfield 19, 3) := by decide +kernel
theorem dX3_write_14 : decode cX3_write 14 = .ok (.arraylength, 1) := by decide +kernel
theorem dX3_write_15 : decode cX3_write 15 = .ok (.if_icmp .ge 36, 3) := by decide +kernel
theorem dX3_write_18 : decode cX3_write 18 = .ok (.iload 4, 2) := by decide +kernel
theorem dX3_write_20 : decode cX3_write 20 = .ok (.ifCond .le 31, 3) := by decide +kernel
theorem dX3_write_23 : decode cX3_write 23 = .ok (.iload 4, 2) := by decide +kernel
theorem dX3_write_25 : decode cX3_write 25 = .ok (.aload_n 0, 1) := by decide +kernel
theorem dX3_write_26 : decode cX3_write 26 = .ok (.getfield 22, 3) := by decide +kernel
theorem dX3_write_29 : decode cX3_write 29 = .ok (.arraylength, 1) := by decide +kernel
theorem dX3_write_30 : decode cX3_write 30 = .ok (.if_icmp .ge 21, 3) := by decide +kernel
theorem dX3_write_33 : decode cX3_write 33 = .ok (.aload_n 0, 1) := by decide +kernel
theorem dX3_write_34 : decode cX3_write 34 = .ok (.getfield 22, 3) := by decide +kernel
theorem dX3_write_37 : decode cX3_write 37 = .ok (.iload 4, 2) := by decide +kernel
theorem dX3_write_39 : decode cX3_write 39 = .ok (.iaload, 1) := by decide +kernel
theorem dX3_write_40 : decode cX3_write 40 = .ok (.istore 4, 2) := by decide +kernel
theorem dX3_write_42 : decode cX3_write 42 = .ok (.iinc 3 1, 3) := by decide +kernel
theorem dX3_write_45 : decode cX3_write 45 = .ok (.iinc 5 1, 3) := by decide +kernel
theorem dX3_write_48 : decode cX3_write 48 = .ok (.goto (-40), 3) := by decide +kernel
theorem dX3_write_51 : decode cX3_write 51 = .ok (.aload_n 0, 1) := by decide +kernel
theorem dX3_write_52 : decode cX3_write 52 = .ok (.iload_n 3, 1) := by decide +kernel
theorem dX3_write_53 : decode cX3_write 53 = .ok (.iconst 1, 1) := by decide +kernel
theorem dX3_write_54 : decode cX3_write 54 = .ok (.iadd, 1) := by decide +kernel
theorem dX3_write_55 : decode cX3_write 55 = .ok (.putfield 42, 3) := by decide +kernel
theorem dX3_write_58 : decode cX3_write 58 = .ok (.iload_n 3, 1) := by decide +kernel
theorem dX3_write_59 : decode cX3_write 59 = .ok (.aload_n 0, 1) := by decide +kernel
theorem dX3_write_60 : decode cX3_write 60 = .ok (.getfield 9, 3) := by decide +kernel
theorem dX3_write_63 : decode cX3_write 63 = .ok (.arraylength, 1) := by decide +kernel
theorem dX3_write_64 : decode cX3_write 64 = .ok (.if_icmp .ge 10, 3) := by decide +kernel
theorem dX3_write_67 : decode cX3_write 67 = .ok (.aload_n 0, 1) := by decide +kernel
theorem dX3_write_68 : decode cX3_write 68 = .ok (.getfield 9, 3) := by decide +kernel
theorem dX3_write_71 : decode cX3_write 71 = .ok (.iload_n 3, 1) := by decide +kernel
theorem dX3_write_72 : decode cX3_write 72 = .ok (.iload_n 2, 1) := by decide +kernel
theorem dX3_write_73 : decode cX3_write 73 = .ok (.iastore, 1) := by decide +kernel
theorem dX3_write_74 : decode cX3_write 74 = .ok (.iload_n 1, 1) := by decide +kernel
theorem dX3_write_75 : decode cX3_write 75 = .ok (.istore 4, 2) := by decide +kernel
theorem dX3_write_77 : decode cX3_write 77 = .ok (.iload_n 3, 1) := by decide +kernel
theorem dX3_write_78 : decode cX3_write 78 = .ok (.iconst 1, 1) := by decide +kernel
theorem dX3_write_79 : decode cX3_write 79 = .ok (.isub, 1) := by decide +kernel
theorem dX3_write_80 : decode cX3_write 80 = .ok (.istore 5, 2) := by decide +kernel
theorem dX3_write_82 : decode cX3_write 82 = .ok (.iload 5, 2) := by decide +kernel
theorem dX3_write_84 : decode cX3_write 84 = .ok (.ifCond .lt 57, 3) := by decide +kernel
theorem dX3_write_87 : decode cX3_write 87 = .ok (.iload 4, 2) := by decide +kernel
theorem dX3_write_89 : decode cX3_write 89 = .ok (.ifCond .le 52, 3) := by decide +kernel
theorem dX3_write_92 : decode cX3_write 92 = .ok (.iload 4, 2) := by decide +kernel
theorem dX3_write_94 : decode cX3_write 94 = .ok (.aload_n 0, 1) := by decide +kernel
theorem dX3_write_95 : decode cX3_write 95 = .ok (.getfield 22, 3) := by decide +kernel
theorem dX3_write_98 : decode cX3_write 98 = .ok (.arraylength, 1) := by decide +kernel
theorem dX3_write_99 : decode cX3_write 99 = .ok (.if_icmp .ge 42, 3) := by decide +kernel
theorem dX3_write_102 : decode cX3_write 102 = .ok (.iload 5, 2) := by decide +kernel
theorem dX3_write_104 : decode cX3_write 104 = .ok (.aload_n 0, 1) := by decide +kernel
theorem dX3_write_105 : decode cX3_write 105 = .ok (.getfield 9, 3) := by decide +kernel
theorem dX3_write_108 : decode cX3_write 108 = .ok (.arraylength, 1) := by decide +kernel
theorem dX3_write_109 : decode cX3_write 109 = .ok (.if_icmp .ge 17, 3) := by decide +kernel
theorem dX3_write_112 : decode cX3_write 112 = .ok (.aload_n 0, 1) := by decide +kernel
theorem dX3_write_113 : decode cX3_write 113 = .ok (.getfield 9, 3) := by decide +kernel
theorem dX3_write_116 : decode cX3_write 116 = .ok (.iload 5, 2) := by decide +kernel
theorem dX3_write_118 : decode cX3_write 118 = .ok (.aload_n 0, 1) := by decide +kernel
theorem dX3_write_119 : decode cX3_write 119 = .ok (.getfield 25, 3) := by decide +kernel
theorem dX3_write_122 : decode cX3_write 122 = .ok (.iload 4, 2) := by decide +kernel
theorem dX3_write_124 : decode cX3_write 124 = .ok (.iaload, 1) := by decide +kernel
theorem dX3_write_125 : decode cX3_write 125 = .ok (.iastore, 1) := by decide +kernel
theorem dX3_write_126 : decode cX3_write 126 = .ok (.aload_n 0, 1) := by decide +kernel
theorem dX3_write_127 : decode cX3_write 127 = .ok (.getfield 22, 3) := by decide +kernel
theorem dX3_write_130 : decode cX3_write 130 = .ok (.iload 4, 2) := by decide +kernel
theorem dX3_write_132 : decode cX3_write 132 = .ok (.iaload, 1) := by decide +kernel
theorem dX3_write_133 : decode cX3_write 133 = .ok (.istore 4, 2) := by decide +kernel
theorem dX3_write_135 : decode cX3_write 135 = .ok (.iinc 5 (-1), 3) := by decide +kernel
theorem dX3_write_138 : decode cX3_write 138 = .ok (.goto (-56), 3) := by decide +kernel
theorem dX3_write_141 : decode cX3_write 141 = .ok (.return_, 1) := by decide +kernel
theorem dX3_last_0 : decode cX3_last 0 = .ok (.aload_n 0, 1) := by decide +kernel
theorem dX3_last_1 : decode cX3_last 1 = .ok (.getfield 42, 3) := by decide +kernel
theorem dX3_last_4 : decode cX3_last 4 = .ok (.ifCond .le 29, 3) := by decide +kernel
theorem dX3_last_7 : decode cX3_last 7 = .ok (.aload_n 0, 1) := by decide +kernel
theorem dX3_last_8 : decode cX3_last 8 = .ok (.getfield 42, 3) := by decide +kernel
theorem dX3_last_11 : decode cX3_last 11 = .ok (.aload_n 0, 1) := by decide +kernel
theorem dX3_last_12 : decode cX3_last 12 = .ok (.getfield 9, 3) := by decide +kernel
theorem dX3_last_15 : decode cX3_last 15 = .ok (.arraylength, 1) := by decide +kernel
theorem dX3_last_16 : decode cX3_last 16 = .ok (.if_icmp .gt 17, 3) := by decide +kernel
theorem dX3_last_19 : decode cX3_last 19 = .ok (.aload_n 0, 1) := by decide +kernel
theorem dX3_last_20 : decode cX3_last 20 = .ok (.getfield 9, 3) := by decide +kernel
theorem dX3_last_23 : decode cX3_last 23 = .ok (.aload_n 0, 1) := by decide +kernel
theorem dX3_last_24 : decode cX3_last 24 = .ok (.getfield 42, 3) := by decide +kernel
theorem dX3_last_27 : decode cX3_last 27 = .ok (.iconst 1, 1) := by decide +kernel
theorem dX3_last_28 : decode cX3_last 28 = .ok (.isub, 1) := by decide +kernel
theorem dX3_last_29 : decode cX3_last 29 = .ok (.iaload, 1) := by decide +kernel
theorem dX3_last_30 : decode cX3_last 30 = .ok (.goto 4, 3) := by decide +kernel
theorem dX3_last_33 : decode cX3_last 33 = .ok (.iconst 0, 1) := by decide +kernel
theorem dX3_last_34 : decode cX3_last 34 = .ok (.ireturn, 1) := by decide +kernel
