theorem dX4_init_0 : decode cX4_init 0 = .ok (.aload_n 0, 1) := by decide +kernel
theorem dX4_init_1 : decode cX4_init 1 = .ok (.invokespecial 5, 3) := by decide +kernel
theorem dX4_init_4 : decode cX4_init 4 = .ok (.aload_n 0, 1) := by decide +kernel
theorem dX4_init_5 : decode cX4_init 5 = .ok (.sipush 3000, 3) := by decide +kernel
theorem dX4_init_8 : decode cX4_init 8 = .ok (.newarray .long, 2) := by decide +kernel
theorem dX4_init_10 : decode cX4_init 10 = .ok (.putfield 11, 3) := by decide +kernel
theorem dX4_init_13 : decode cX4_init 13 = .ok (.aload_n 0, 1) := by decide +kernel
theorem dX4_init_14 : decode cX4_init 14 = .ok (.sipush 3000, 3) := by decide +kernel
theorem dX4_init_17 : decode cX4_init 17 = .ok (.newarray .int, 2) := by decide +kernel
theorem dX4_init_19 : decode cX4_init 19 = .ok (.putfield 15, 3) := by decide +kernel
theorem dX4_init_22 : decode cX4_init 22 = .ok (.aload_n 0, 1) := by decide +kernel
theorem dX4_init_23 : decode cX4_init 23 = .ok (.sipush 8192, 3) := by decide +kernel
theorem dX4_init_26 : decode cX4_init 26 = .ok (.newarray .int, 2) := by decide +kernel
theorem dX4_init_28 : decode cX4_init 28 = .ok (.putfield 19, 3) := by decide +kernel
theorem dX4_init_31 : decode cX4_init 31 = .ok (.aload_n 0, 1) := by decide +kernel
theorem dX4_init_32 : decode cX4_init 32 = .ok (.sipush 7200, 3) := by decide +kernel
theorem dX4_init_35 : decode cX4_init 35 = .ok (.newarray .byte, 2) := by decide +kernel
theorem dX4_init_37 : decode cX4_init 37 = .ok (.putfield 22, 3) := by decide +kernel
theorem dX4_init_40 : decode cX4_init 40 = .ok (.aload_n 0, 1) := by decide +kernel
theorem dX4_init_41 : decode cX4_init 41 = .ok (.iconst 2, 1) := by decide +kernel
theorem dX4_init_42 : decode cX4_init 42 = .ok (.anewarray 26, 3) := by decide +kernel
theorem dX4_init_45 : decode cX4_init 45 = .ok (.putfield 28, 3) := by decide +kernel
theorem dX4_init_48 : decode cX4_init 48 = .ok (.aload_n 0, 1) := by decide +kernel
theorem dX4_init_49 : decode cX4_init 49 = .ok (.iconst 2, 1) := by decide +kernel
theorem dX4_init_50 : decode cX4_init 50 = .ok (.newarray .int, 2) := by decide +kernel
theorem dX4_init_52 : decode cX4_init 52 = .ok (.putfield 32, 3) := by decide +kernel
theorem dX4_init_55 : decode cX4_init 55 = .ok (.aload_n 0, 1) := by decide +kernel
theorem dX4_init_56 : decode cX4_init 56 = .ok (.iconst 2, 1) := by decide +kernel
theorem dX4_init_57 : decode cX4_init 57 = .ok (.newarray .int, 2) := by decide +kernel
theorem dX4_init_59 : decode cX4_init 59 = .ok (.putfield 35, 3) := by decide +kernel
theorem dX4_init_62 : decode cX4_init 62 = .ok (.aload_n 0, 1) := by decide +kernel
theorem dX4_init_63 : decode cX4_init 63 = .ok (.aload_n 1, 1) := by decide +kernel
theorem dX4_init_64 : decode cX4_init 64 = .ok (.putfield 38, 3) := by decide +kernel
theorem dX4_init_67 : decode cX4_init 67 = .ok (.return_, 1) := by decide +kernel
set_option maxRecDepth 20000 in
theorem ggX4_explore_X4_begin : GoodIn wsX4_explore wsX4_begin := goodIn_r _ [11, 12, 13, 1, 14, 15, 2, 4, 16, 17, 18, 19, 3, 20, 21, 22, 23, 24, 25, 26, 27, 28, 29, 30, 31, 32, 144, 145, 146, 147, 148, 149, 150, 151, 152, 153, 154, 155, 156, 157, 158, 159, 160, 161, 162, 163, 164, 165, 166, 167] (by decide +kernel) (by decide +kernel)
set_option maxRecDepth 20000 in
theorem gX4_explore_X4_begin : GoodIn wsX4_explore (wsV RX4 50 RX4 yX4_begin wsX4_begin) := goodIn_app (goodIn_of _ (by decide +kernel)) ggX4_explore_X4_begin
set_option maxRecDepth 20000 in
theorem ggX4_explore_X4_reach : GoodIn wsX4_explore wsX4_reach := goodIn_r _ [36, 37, 12, 5, 3, 4, 6, 38, 39, 40, 10, 41, 15, 14, 144, 145, 146, 147, 148, 149, 150, 151, 152, 153, 154, 155, 156, 157, 158] (by decide +kernel) (by decide +kernel)
set_option maxRecDepth 20000 in
theorem gX4_explore_X4_reach : GoodIn wsX4_explore (wsV RX4 54 RX4 yX4_reach wsX4_reach) := goodIn_app (goodIn_of _ (by decide +kernel)) ggX4_explore_X4_reach
set_option maxRecDepth 20000 in
theorem ggX4_explore_X4_unpack : GoodIn wsX4_explore wsX4_unpack := goodIn_r _ [45, 14, 15, 144, 145, 146, 147, 148, 149, 150, 151, 152, 153, 154, 155, 156, 157, 158] (by decide +kernel) (by decide +kernel)
set_option maxRecDepth 20000 in
theorem gX4_explore_X4_unpack : GoodIn wsX4_explore (wsV RX4 61 RX4 yX4_unpack wsX4_unpack) := goodIn_app (goodIn_of _ (by decide +kernel)) ggX4_explore_X4_unpack
set_option maxRecDepth 20000 in
theorem ggX4_explore_X4_visit : GoodIn wsX4_explore wsX4_visit := goodIn_r _ [49, 19, 15, 50, 51, 52, 53, 17, 16, 18, 54, 55, 10, 56, 57, 58, 59, 60, 1, 14, 13, 61, 62, 63, 64, 30, 65, 66, 67, 68, 69, 70, 71, 72, 73, 74, 75, 76, 77, 78, 79, 80, 81, 32, 82, 83, 84, 85, 86, 87, 88, 89, 90, 91, 22, 92, 93, 94, 95, 96, 97, 98, 99, 100, 101, 102, 103, 104, 105, 106, 107, 108, 109, 110, 111, 112, 113, 114, 115, 116, 2, 117, 118, 119, 120, 121, 122, 123, 124, 125, 126, 127, 128, 129, 130, 131, 132, 133, 134, 33, 34, 35, 36, 37, 12, 5, 3, 4, 6, 38, 39, 40, 41, 135, 136, 137, 138, 139, 140, 141, 142, 143, 144, 145, 146, 147, 148, 149, 150, 151, 152, 153, 154, 155, 156, 157, 158, 159, 160, 161, 162, 163, 164, 165, 166, 167, 168, 169, 170] (by decide +kernel) (by decide +kernel)
set_option maxRecDepth 20000 in
theorem gX4_explore_X4_visit : GoodIn wsX4_explore (wsV RX4 65 RX4 yX4_visit wsX4_visit) := goodIn_app (goodIn_of _ (by decide +kernel)) ggX4_explore_X4_visit
theorem dX4_explore_0 : decode cX4_explore 0 = .ok (.aload_n 0, 1) := by decide +kernel
theorem dX4_explore_1 : decode cX4_explore 1 = .ok (.getfield 28, 3) := by decide +kernel
theorem dX4_explore_4 : decode cX4_explore 4 = .ok (.iconst 0, 1) := by decide +kernel
theorem dX4_explore_5 : decode cX4_explore 5 = .ok (.aaload, 1) := by decide +kernel
theorem dX4_explore_6 : decode cX4_explore 6 = .ok (.aload_n 1, 1) := by decide +kernel
theorem dX4_explore_7 : decode cX4_explore 7 = .ok (.if_acmp .ne 34, 3) := by decide +kernel
theorem dX4_explore_10 : decode cX4_explore 10 = .ok (.aload_n 0, 1) := by decide +kernel
theorem dX4_explore_11 : decode cX4_explore 11 = .ok (.getfield 28, 3) := by decide +kernel
theorem dX4_explore_14 : decode cX4_explore 14 = .ok (.iconst 1, 1) := by decide +kernel
theorem dX4_explore_15 : decode cX4_explore 15 = .ok (.aaload, 1) := by decide +kernel
theorem dX4_explore_16 : decode cX4_explore 16 = .ok (.aload_n 2, 1) := by decide +kernel
theorem dX4_explore_17 : decode cX4_explore 17 = .ok (.if_acmp .ne 24, 3) := by decide +kernel
theorem dX4_explore_20 : decode cX4_explore 20 = .ok (.aload_n 0, 1) := by decide +kernel
theorem dX4_explore_21 : decode cX4_explore 21 = .ok (.getfield 42, 3) := by decide +kernel
theorem dX4_explore_24 : decode cX4_explore 24 = .ok (.iload_n 3, 1) := by decide +kernel
theorem dX4_explore_25 : decode cX4_explore 25 = .ok (.if_icmp .ne 16, 3) := by decide +kernel
theorem dX4_explore_28 : decode cX4_explore 28 = .ok (.aload_n 0, 1) := by decide +kernel
theorem dX4_explore_29 : decode cX4_explore 29 = .ok (.getfield 46, 3) := by decide +kernel
theorem dX4_explore_32 : decode cX4_explore 32 = .ok (.ifCond .ne 7, 3) := by decide +kernel
theorem dX4_explore_35 : decode cX4_explore 35 = .ok (.iconst 1, 1) := by decide +kernel
theorem dX4_explore_36 : decode cX4_explore 36 = .ok (.goto 4, 3) := by decide +kernel
theorem dX4_explore_39 : decode cX4_explore 39 = .ok (.iconst 0, 1) := by decide +kernel
theorem dX4_explore_40 : decode cX4_explore 40 = .ok (.ireturn, 1) := by decide +kernel
theorem dX4_explore_41 : decode cX4_explore 41 = .ok (.aload_n 0, 1) := by decide +kernel
theorem dX4_explore_42 : decode cX4_explore 42 = .ok (.aload_n 1, 1) := by decide +kernel
theorem dX4_explore_43 : decode cX4_explore 43 = .ok (.aload_n 2, 1) := by decide +kernel
theorem dX4_explore_44 : decode cX4_explore 44 = .ok (.iload_n 3, 1) := by decide +kernel
theorem dX4_explore_45 : decode cX4_explore 45 = .ok (.invokevirtual 50, 3) := by decide +kernel
theorem dX4_explore_48 : decode cX4_explore 48 = .ok (.aload_n 0, 1) := by decide +kernel
theorem dX4_explore_49 : decode cX4_explore 49 = .ok (.iconst 0, 1) := by decide +kernel
theorem dX4_explore_50 : decode cX4_explore 50 = .ok (.invokevirtual 54, 3) := by decide +kernel
theorem dX4_explore_53 : decode cX4_explore 53 = .ok (.iconst 0, 1) := by decide +kernel
theorem dX4_explore_54 : decode cX4_explore 54 = .ok (.istore 4, 2) := by decide +kernel
theorem dX4_explore_56 : decode cX4_explore 56 = .ok (.iload 4, 2) := by decide +kernel
theorem dX4_explore_58 : decode cX4_explore 58 = .ok (.aload_n 0, 1) := by decide +kernel
theorem dX4_explore_59 : decode cX4_explore 59 = .ok (.getfield 58, 3) := by decide +kernel
theorem dX4_explore_62 : decode cX4_explore 62 = .ok (.if_icmp .ge 46, 3) := by decide +kernel
theorem dX4_explore_65 : decode cX4_explore 65 = .ok (.iload 4, 2) := by decide +kernel
theorem dX4_explore_67 : decode cX4_explore 67 = .ok (.sipush 3000, 3) := by decide +kernel
theorem dX4_explore_70 : decode cX4_explore 70 = .ok (.if_icmp .ge 38, 3) := by decide +kernel
theorem dX4_explore_73 : decode cX4_explore 73 = .ok (.aload_n 0, 1) := by decide +kernel
theorem dX4_explore_74 : decode cX4_explore 74 = .ok (.getfield 46, 3) := by decide +kernel
theorem dX4_explore_77 : decode cX4_explore 77 = .ok (.ifCond .ne 31, 3) := by decide +kernel
theorem dX4_explore_80 : decode cX4_explore 80 = .ok (.aload_n 0, 1) := by decide +kernel
theorem dX4_explore_81 : decode cX4_explore 81 = .ok (.aload_n 0, 1) := by decide +kernel
theorem dX4_explore_82 : decode cX4_explore 82 = .ok (.getfield 11, 3) := by decide +kernel
theorem dX4_explore_85 : decode cX4_explore 85 = .ok (.iload 4, 2) := by decide +kernel
theorem dX4_explore_87 : decode cX4_explore 87 = .ok (.laload, 1) := by decide +kernel
theorem dX4_explore_88 : decode cX4_explore 88 = .ok (.invokevirtual 61, 3) := by decide +kernel
theorem dX4_explore_91 : decode cX4_explore 91 = .ok (.aload_n 0, 1) := by decide +kernel
theorem dX4_explore_92 : decode cX4_explore 92 = .ok (.aload_n 0, 1) := by decide +kernel
theorem dX4_explore_93 : decode cX4_explore 93 = .ok (.getfield 15, 3) := by decide +kernel
theorem dX4_explore_96 : decode cX4_explore 96 = .ok (.iload 4, 2) := by decide +kernel
theorem dX4_explore_98 : decode cX4_explore 98 = .ok (.iaload, 1) := by decide +kernel
theorem dX4_explore_99 : decode cX4_explore 99 = .ok (.invokevirtual 65, 3) := by decide +kernel
theorem dX4_explore_102 : decode cX4_explore 102 = .ok (.iinc 4 1, 3) := by decide +kernel
theorem dX4_explore_105 : decode cX4_explore 105 = .ok (.goto (-49), 3) := by decide +kernel
theorem dX4_explore_108 : decode cX4_explore 108 = .ok (.aload_n 0, 1) := by decide +kernel
theorem dX4_explore_109 : decode cX4_explore 109 = .ok (.getfield 46, 3) := by decide +kernel
theorem dX4_explore_112 : decode cX4_explore 112 = .ok (.ifCond .ne 7, 3) := by decide +kernel
theorem dX4_explore_115 : decode cX4_explore 115 = .ok (.iconst 1, 1) := by decide +kernel
theorem dX4_explore_116 : decode cX4_explore 116 = .ok (.goto 4, 3) := by decide +kernel
theorem dX4_explore_119 : decode cX4_explore 119 = .ok (.iconst 0, 1) := by decide +kernel
theorem dX4_explore_120 : decode cX4_explore 120 = .ok (.ireturn, 1) := by decide +kernel
set_option maxRecDepth 20000 in
theorem ggX4_begin_J7_fill_53178 : GoodIn wsX4_begin wsJ7_fill_53178 := goodIn_r _ [16] (by decide +kernel) (by decide +kernel)
set_option maxRecDepth 20000 in
theorem gX4_begin_J7_fill_53178 : GoodIn wsX4_begin (va_wsS RX4 68 yJ7_fill_53178 wsJ7_fill_53178) := goodIn_app (goodIn_of _ (by decide +kernel)) ggX4_begin_J7_fill_53178
set_option maxRecDepth 20000 in
theorem ggX4_begin_J7_fill_031fb : GoodIn wsX4_begin wsJ7_fill_031fb := goodIn_r _ [19] (by decide +kernel) (by decide +kernel)
set_option maxRecDepth 20000 in
theorem gX4_begin_J7_fill_031fb : GoodIn wsX4_begin (va_wsS RX4 74 yJ7_fill_031fb wsJ7_fill_031fb) := goodIn_app (goodIn_of _ (by decide +kernel)) ggX4_begin_J7_fill_031fb
set_option maxRecDepth 20000 in
theorem ggX4_begin_X7_beginning : GoodIn wsX4_begin wsX7_beginning := goodIn_r _ [24, 25, 41, 42, 43, 44, 45, 46, 47, 48, 49] (by decide +kernel) (by decide +kernel)
set_option maxRecDepth 20000 in
theorem gX4_begin_X7_beginning : GoodIn wsX4_begin (wsV RX4 77 RX7 yX7_beginning wsX7_beginning) := goodIn_app (goodIn_of _ (by decide +kernel)) ggX4_begin_X7_beginning
theorem dX4_begin_0 : decode cX4_begin 0 = .ok (.aload_n 0, 1) := by decide +kernel
theorem dX4_begin_1 : decode cX4_begin 1 = .ok (.getfield 19, 3) := by decide +kernel
theorem dX4_begin_4 : decode cX4_begin 4 = .ok (.iconst 0, 1) := by decide +kernel
theorem dX4_begin_5 : decode cX4_begin 5 = .ok (.invokestatic 68, 3) := by decide +kernel
theorem dX4_begin_8 : decode cX4_begin 8 = .ok (.aload_n 0, 1) := by decide +kernel
theorem dX4_begin_9 : decode cX4_begin 9 = .ok (.getfield 22, 3) := by decide +kernel
theorem dX4_begin_12 : decode cX4_begin 12 = .ok (.iconst 0, 1) := by decide +kernel
theorem dX4_begin_13 : decode cX4_begin 13 = .ok (.invokestatic 74, 3) := by decide +kernel
theorem dX4_begin_16 : decode cX4_begin 16 = .ok (.aload_n 0, 1) := by decide +kernel
theorem dX4_begin_17 : decode cX4_begin 17 = .ok (.getfield 28, 3) := by decide +kernel
theorem dX4_begin_20 : decode cX4_begin 20 = .ok (.iconst 0, 1) := by decide +kernel
theorem dX4_begin_21 : decode cX4_begin 21 = .ok (.aload_n 1, 1) := by decide +kernel
theorem dX4_begin_22 : decode cX4_begin 22 = .ok (.aastore, 1) := by decide +kernel
theorem dX4_begin_23 : decode cX4_begin 23 = .ok (.aload_n 0, 1) := by decide +kernel
theorem dX4_begin_24 : decode cX4_begin 24 = .ok (.getfield 28, 3) := by decide +kernel
theorem dX4_begin_27 : decode cX4_begin 27 = .ok (.iconst 1, 1) := by decide +kernel
theorem dX4_begin_28 : decode cX4_begin 28 = .ok (.aload_n 2, 1) := by decide +kernel
theorem dX4_begin_29 : decode cX4_begin 29 = .ok (.aastore, 1) := by decide +kernel
theorem dX4_begin_30 : decode cX4_begin 30 = .ok (.aload_n 0, 1) := by decide +kernel
theorem dX4_begin_31 : decode cX4_begin 31 = .ok (.getfield 32, 3) := by decide +kernel
theorem dX4_begin_34 : decode cX4_begin 34 = .ok (.iconst 0, 1) := by decide +kernel
theorem dX4_begin_35 : decode cX4_begin 35 = .ok (.aload_n 1, 1) := by decide +kernel
theorem dX4_begin_36 : decode cX4_begin 36 = .ok (.invokevirtual 77, 3) := by decide +kernel
theorem dX4_begin_39 : decode cX4_begin 39 = .ok (.iastore, 1) := by decide +kernel
theorem dX4_begin_40 : decode cX4_begin 40 = .ok (.aload_n 0, 1) := by decide +kernel
theorem dX4_begin_41 : decode cX4_begin 41 = .ok (.getfield 32, 3) := by decide +kernel
theorem dX4_begin_44 : decode cX4_begin 44 = .ok (.iconst 1, 1) := by decide +kernel
theorem dX4_begin_45 : decode cX4_begin 45 = .ok (.aload_n 2, 1) := by decide +kernel
theorem dX4_begin_46 : decode cX4_begin 46 = .ok (.invokevirtual 77, 3) := by decide +kernel
theorem dX4_begin_49 : decode cX4_begin 49 = .ok (.iastore, 1) := by decide +kernel
theorem dX4_begin_50 : decode cX4_begin 50 = .ok (.aload_n 0, 1) := by decide +kernel
theorem dX4_begin_51 : decode cX4_begin 51 = .ok (.getfield 35, 3) := by decide +kernel
theorem dX4_begin_54 : decode cX4_begin 54 = .ok (.iconst 0, 1) := by decide +kernel
theorem dX4_begin_55 : decode cX4_begin 55 = .ok (.iconst 0, 1) := by decide +kernel
theorem dX4_begin_56 : decode cX4_begin 56 = .ok (.iastore, 1) := by decide +kernel
theorem dX4_begin_57 : decode cX4_begin 57 = .ok (.aload_n 0, 1) := by decide +kernel
theorem dX4_begin_58 : decode cX4_begin 58 = .ok (.getfield 35, 3) := by decide +kernel
theorem dX4_begin_61 : decode cX4_begin 61 = .ok (.iconst 1, 1) := by decide +kernel
theorem dX4_begin_62 : decode cX4_begin 62 = .ok (.iconst 0, 1) := by decide +kernel
theorem dX4_begin_63 : decode cX4_begin 63 = .ok (.iastore, 1) := by decide +kernel
theorem dX4_begin_64 : decode cX4_begin 64 = .ok (.aload_n 0, 1) := by decide +kernel
theorem dX4_begin_65 : decode cX4_begin 65 = .ok (.iload_n 3, 1) := by decide +kernel
theorem dX4_begin_66 : decode cX4_begin 66 = .ok (.putfield 42, 3) := by decide +kernel
theorem dX4_begin_69 : decode cX4_begin 69 = .ok (.aload_n 0, 1) := by decide +kernel
theorem dX4_begin_70 : decode cX4_begin 70 = .ok (.iconst 0, 1) := by decide +kernel
theorem dX4_begin_71 : decode cX4_begin 71 = .ok (.putfield 58, 3) := by decide +kernel
theorem dX4_begin_74 : decode cX4_begin 74 = .ok (.aload_n 0, 1) := by decide +kernel
theorem dX4_begin_75 : decode cX4_begin 75 = .ok (.iconst 0, 1) := by decide +kernel
theorem dX4_begin_76 : decode cX4_begin 76 = .ok (.putfield 81, 3) := by decide +kernel
theorem dX4_begin_79 : decode cX4_begin 79 = .ok (.aload_n 0, 1) := by decide +kernel
theorem dX4_begin_80 : decode cX4_begin 80 = .ok (.iconst 0, 1) := by decide +kernel
theorem dX4_begin_81 : decode cX4_begin 81 = .ok (.putfield 84, 3) := by decide +kernel
theorem dX4_begin_84 : decode cX4_begin 84 = .ok (.aload_n 0, 1) := by decide +kernel
theorem dX4_begin_85 : decode cX4_begin 85 = .ok (.bipush (-2), 2) := by decide +kernel
theorem dX4_begin_87 : decode cX4_begin 87 = .ok (.putfield 87, 3) := by decide +kernel
theorem dX4_begin_90 : decode cX4_begin 90 = .ok (.aload_n 0, 1) := by decide +kernel
theorem dX4_begin_91 : decode cX4_begin 91 = .ok (.iconst 0, 1) := by decide +kernel
theorem dX4_begin_92 : decode cX4_begin 92 = .ok (.putfield 90, 3) := by decide +kernel
theorem dX4_begin_95 : decode cX4_begin 95 = .ok (.aload_n 0, 1) := by decide +kernel
theorem dX4_begin_96 : decode cX4_begin 96 = .ok (.iconst 0, 1) := by decide +kernel
theorem dX4_begin_97 : decode cX4_begin 97 = .ok (.putfield 46, 3) := by decide +kernel
theorem dX4_begin_100 : decode cX4_begin 100 = .ok (.return_, 1) := by decide +kernel
theorem dX4_pack_0 : decode cX4_pack 0 = .ok (.aload_n 0, 1) := by decide +kernel
theorem dX4_pack_1 : decode cX4_pack 1 = .ok (.getfield 35, 3) := by decide +kernel
theorem dX4_pack_4 : decode cX4_pack 4 = .ok (.iconst 1, 1) := by decide +kernel
theorem dX4_pack_5 : decode cX4_pack 5 = .ok (.iaload, 1) := by decide +kernel
theorem dX4_pack_6 : decode cX4_pack 6 = .ok (.i2l, 1) := by decide +kernel
theorem dX4_pack_7 : decode cX4_pack 7 = .ok (.bipush 14, 2) := by decide +kernel
theorem dX4_pack_9 : decode cX4_pack 9 = .ok (.lshl, 1) := by decide +kernel
theorem dX4_pack_10 : decode cX4_pack 10 = .ok (.aload_n 0, 1) := by decide +kernel
theorem dX4_pack_11 : decode cX4_pack 11 = .ok (.getfield 35, 3) := by decide +kernel
theorem dX4_pack_14 : decode cX4_pack 14 = .ok (.iconst 0, 1) := by decide +kernel
theorem dX4_pack_15 : decode cX4_pack 15 = .ok (.iaload, 1) := by decide +kernel
theorem dX4_pack_16 : decode cX4_pack 16 = .ok (.i2l, 1) := by decide +kernel
theorem dX4_pack_17 : decode cX4_pack 17 = .ok (.lor, 1) := by decide +kernel
theorem dX4_pack_18 : decode cX4_pack 18 = .ok (.lstore_n 1, 1) := by decide +kernel
theorem dX4_pack_19 : decode cX4_pack 19 = .ok (.lload_n 1, 1) := by decide +kernel
theorem dX4_pack_20 : decode cX4_pack 20 = .ok (.bipush 12, 2) := by decide +kernel
theorem dX4_pack_22 : decode cX4_pack 22 = .ok (.lshl, 1) := by decide +kernel
theorem dX4_pack_23 : decode cX4_pack 23 = .ok (.aload_n 0, 1) := by decide +kernel
theorem dX4_pack_24 : decode cX4_pack 24 = .ok (.getfield 32, 3) := by decide +kernel
theorem dX4_pack_27 : decode cX4_pack 27 = .ok (.iconst 1, 1) := by decide +kernel
theorem dX4_pack_28 : decode cX4_pack 28 = .ok (.iaload, 1) := by decide +kernel
theorem dX4_pack_29 : decode cX4_pack 29 = .ok (.i2l, 1) := by decide +kernel
theorem dX4_pack_30 : decode cX4_pack 30 = .ok (.bipush 6, 2) := by decide +kernel
theorem dX4_pack_32 : decode cX4_pack 32 = .ok (.lshl, 1) := by decide +kernel
theorem dX4_pack_33 : decode cX4_pack 33 = .ok (.lor, 1) := by decide +kernel
theorem dX4_pack_34 : decode cX4_pack 34 = .ok (.aload_n 0, 1) := by decide +kernel
theorem dX4_pack_35 : decode cX4_pack 35 = .ok (.getfield 32, 3) := by decide +kernel
theorem dX4_pack_38 : decode cX4_pack 38 = .ok (.iconst 0, 1) := by decide +kernel
theorem dX4_pack_39 : decode cX4_pack 39 = .ok (.iaload, 1) := by decide +kernel
theorem dX4_pack_40 : decode cX4_pack 40 = .ok (.i2l, 1) := by decide +kernel
theorem dX4_pack_41 : decode cX4_pack 41 = .ok (.lor, 1) := by decide +kernel
theorem dX4_pack_42 : decode cX4_pack 42 = .ok (.lreturn, 1) := by decide +kernel
theorem dX4_unpack_0 : decode cX4_unpack 0 = .ok (.bipush 63, 2) := by decide +kernel
theorem dX4_unpack_2 : decode cX4_unpack 2 = .ok (.istore_n 3, 1) := by decide +kernel
theorem dX4_unpack_3 : decode cX4_unpack 3 = .ok (.sipush 16383, 3) := by decide +kernel
theorem dX4_unpack_6 : decode cX4_unpack 6 = .ok (.istore 4, 2) := by decide +kernel
theorem dX4_unpack_8 : decode cX4_unpack 8 = .ok (.aload_n 0, 1) := by decide +kernel
theorem dX4_unpack_9 : decode cX4_unpack 9 = .ok (.getfield 32, 3) := by decide +kernel
theorem dX4_unpack_12 : decode cX4_unpack 12 = .ok (.iconst 0, 1) := by decide +kernel
theorem dX4_unpack_13 : decode cX4_unpack 13 = .ok (.lload_n 1, 1) := by decide +kernel
theorem dX4_unpack_14 : decode cX4_unpack 14 = .ok (.l2i, 1) := by decide +kernel
theorem dX4_unpack_15 : decode cX4_unpack 15 = .ok (.iload_n 3, 1) := by decide +kernel
theorem dX4_unpack_16 : decode cX4_unpack 16 = .ok (.iand, 1) := by decide +kernel
theorem dX4_unpack_17 : decode cX4_unpack 17 = .ok (.iastore, 1) := by decide +kernel
theorem dX4_unpack_18 : decode cX4_unpack 18 = .ok (.aload_n 0, 1) := by decide +kernel
theorem dX4_unpack_19 : decode cX4_unpack 19 = .ok (.getfield 32, 3) := by decide +kernel
theorem dX4_unpack_22 : decode cX4_unpack 22 = .ok (.iconst 1, 1) := by decide +kernel
theorem dX4_unpack_23 : decode cX4_unpack 23 = .ok (.lload_n 1, 1) := by decide +kernel
theorem dX4_unpack_24 : decode cX4_unpack 24 = .ok (.bipush 6, 2) := by decide +kernel
theorem dX4_unpack_26 : decode cX4_unpack 26 = .ok (.lshr, 1) := by decide +kernel
theorem dX4_unpack_27 : decode cX4_unpack 27 = .ok (.l2i, 1) := by decide +kernel
theorem dX4_unpack_28 : decode cX4_unpack 28 = .ok (.iload_n 3, 1) := by decide +kernel
theorem dX4_unpack_29 : decode cX4_unpack 29 = .ok (.iand, 1) := by decide +kernel
theorem dX4_unpack_30 : decode cX4_unpack 30 = .ok (.iastore, 1) := by decide +kernel
theorem dX4_unpack_31 : decode cX4_unpack 31 = .ok (.aload_n 0, 1) := by decide +kernel
theorem dX4_unpack_32 : decode cX4_unpack 32 = .ok (.getfield 35, 3) := by decide +kernel
theorem dX4_unpack_35 : decode cX4_unpack 35 = .ok (.iconst 0, 1) := by decide +kernel
theorem dX4_unpack_36 : decode cX4_unpack 36 = .ok (.lload_n 1, 1) := by decide +kernel
theorem dX4_unpack_37 : decode cX4_unpack 37 = .ok (.bipush 12, 2) := by decide +kernel
theorem dX4_unpack_39 : decode cX4_unpack 39 = .ok (.lshr, 1) := by decide +kernel
theorem dX4_unpack_40 : decode cX4_unpack 40 = .ok (.l2i, 1) := by decide +kernel
theorem dX4_unpack_41 : decode cX4_unpack 41 = .ok (.iload 4, 2) := by decide +kernel
theorem dX4_unpack_43 : decode cX4_unpack 43 = .ok (.iand, 1) := by decide +kernel
theorem dX4_unpack_44 : decode cX4_unpack 44 = .ok (.iastore, 1) := by decide +kernel
theorem dX4_unpack_45 : decode cX4_unpack 45 = .ok (.aload_n 0, 1) := by decide +kernel
theorem dX4_unpack_46 : decode cX4_unpack 46 = .ok (.getfield 35, 3) := by decide +kernel
theorem dX4_unpack_49 : decode cX4_unpack 49 = .ok (.iconst 1, 1) := by decide +kernel
theorem dX4_unpack_50 : decode cX4_unpack 50 = .ok (.lload_n 1, 1) := by decide +kernel
theorem dX4_unpack_51 : decode cX4_unpack 51 = .ok (.bipush 26, 2) := by decide +kernel
theorem dX4_unpack_53 : decode cX4_unpack 53 = .ok (.lshr, 1) := by decide +kernel
theorem dX4_unpack_54 : decode cX4_unpack 54 = .ok (.l2i, 1) := by decide +kernel
theorem dX4_unpack_55 : decode cX4_unpack 55 = .ok (.iload 4, 2) := by decide +kernel
theorem dX4_unpack_57 : decode cX4_unpack 57 = .ok (.iand, 1) := by decide +kernel
theorem dX4_unpack_58 : decode cX4_unpack 58 = .ok (.iastore, 1) := by decide +kernel
theorem dX4_unpack_59 : decode cX4_unpack 59 = .ok (.return_, 1) := by decide +kernel
set_option maxRecDepth 20000 in
theorem ggX4_reach_X4_pack : GoodIn wsX4_reach wsX4_pack := goodIn_r _ [11, 12, 13, 14, 15, 16, 17, 18, 19, 20, 21, 22, 23, 24, 25, 26, 27, 28] (by decide +kernel) (by decide +kernel)
set_option maxRecDepth 20000 in
theorem gX4_reach_X4_pack : GoodIn wsX4_reach (wsV RX4 93 RX4 yX4_pack wsX4_pack) := goodIn_app (goodIn_of _ (by decide +kernel)) ggX4_reach_X4_pack
theorem dX4_reach_0 : decode cX4_reach 0 = .ok (.aload_n 0, 1) := by decide +kernel
theorem dX4_reach_1 : decode cX4_reach 1 = .ok (.invokevirtual 93, 3) := by decide +kernel
theorem dX4_reach_4 : decode cX4_reach 4 = .ok (.lstore_n 2, 1) := by decide +kernel
theorem dX4_reach_5 : decode cX4_reach 5 = .ok (.lload_n 2, 1) := by decide +kernel
theorem dX4_reach_6 : decode cX4_reach 6 = .ok (.ldc2_w 97, 3) := by decide +kernel
theorem dX4_reach_9 : decode cX4_reach 9 = .ok (.lmul, 1) := by decide +kernel
theorem dX4_reach_10 : decode cX4_reach 10 = .ok (.bipush 51, 2) := by decide +kernel
theorem dX4_reach_12 : decode cX4_reach 12 = .ok (.lushr, 1) := by decide +kernel
theorem dX4_reach_13 : decode cX4_reach 13 = .ok (.l2i, 1) := by decide +kernel
theorem dX4_reach_14 : decode cX4_reach 14 = .ok (.istore 4, 2) := by decide +kernel
theorem dX4_reach_16 : decode cX4_reach 16 = .ok (.iconst 0, 1) := by decide +kernel
theorem dX4_reach_17 : decode cX4_reach 17 = .ok (.istore 5, 2) := by decide +kernel
theorem dX4_reach_19 : decode cX4_reach 19 = .ok (.iload 5, 2) := by decide +kernel
theorem dX4_reach_21 : decode cX4_reach 21 = .ok (.sipush 8192, 3) := by decide +kernel
theorem dX4_reach_24 : decode cX4_reach 24 = .ok (.if_icmp .ge 138, 3) := by decide +kernel
theorem dX4_reach_27 : decode cX4_reach 27 = .ok (.iload 4, 2) := by decide +kernel
theorem dX4_reach_29 : decode cX4_reach 29 = .ok (.iload 5, 2) := by decide +kernel
theorem dX4_reach_31 : decode cX4_reach 31 = .ok (.iadd, 1) := by decide +kernel
theorem dX4_reach_32 : decode cX4_reach 32 = .ok (.sipush 8191, 3) := by decide +kernel
theorem dX4_reach_35 : decode cX4_reach 35 = .ok (.iand, 1) := by decide +kernel
theorem dX4_reach_36 : decode cX4_reach 36 = .ok (.istore 6, 2) := by decide +kernel
theorem dX4_reach_38 : decode cX4_reach 38 = .ok (.aload_n 0, 1) := by decide +kernel
theorem dX4_reach_39 : decode cX4_reach 39 = .ok (.getfield 19, 3) := by decide +kernel
theorem dX4_reach_42 : decode cX4_reach 42 = .ok (.iload 6, 2) := by decide +kernel
theorem dX4_reach_44 : decode cX4_reach 44 = .ok (.iaload, 1) := by decide +kernel
theorem dX4_reach_45 : decode cX4_reach 45 = .ok (.iconst 1, 1) := by decide +kernel
theorem dX4_reach_46 : decode cX4_reach 46 = .ok (.isub, 1) := by decide +kernel
theorem dX4_reach_47 : decode cX4_reach 47 = .ok (.istore 7, 2) := by decide +kernel
theorem dX4_reach_49 : decode cX4_reach 49 = .ok (.iload 7, 2) := by decide +kernel
theorem dX4_reach_51 : decode cX4_reach 51 = .ok (.ifCond .lt 24, 3) := by decide +kernel
theorem dX4_reach_54 : decode cX4_reach 54 = .ok (.iload 7, 2) := by decide +kernel
theorem dX4_reach_56 : decode cX4_reach 56 = .ok (.sipush 3000, 3) := by decide +kernel
theorem dX4_reach_59 : decode cX4_reach 59 = .ok (.if_icmp .ge 16, 3) := by decide +kernel
theorem dX4_reach_62 : decode cX4_reach 62 = .ok (.aload_n 0, 1) := by decide +kernel
theorem dX4_reach_63 : decode cX4_reach 63 = .ok (.getfield 11, 3) := by decide +kernel
theorem dX4_reach_66 : decode cX4_reach 66 = .ok (.iload 7, 2) := by decide +kernel
theorem dX4_reach_68 : decode cX4_reach 68 = .ok (.laload, 1) := by decide +kernel
theorem dX4_reach_69 : decode cX4_reach 69 = .ok (.lload_n 2, 1) := by decide +kernel
theorem dX4_reach_70 : decode cX4_reach 70 = .ok (.lcmp, 1) := by decide +kernel
theorem dX4_reach_71 : decode cX4_reach 71 = .ok (.ifCond .ne 4, 3) := by decide +kernel
theorem dX4_reach_74 : decode cX4_reach 74 = .ok (.return_, 1) := by decide +kernel
theorem dX4_reach_75 : decode cX4_reach 75 = .ok (.iload 7, 2) := by decide +kernel
theorem dX4_reach_77 : decode cX4_reach 77 = .ok (.ifCond .ge 79, 3) := by decide +kernel
theorem dX4_reach_80 : decode cX4_reach 80 = .ok (.aload_n 0, 1) := by decide +kernel
theorem dX4_reach_81 : decode cX4_reach 81 = .ok (.aload_n 0, 1) := by decide +kernel
theorem dX4_reach_82 : decode cX4_reach 82 = .ok (.getfield 46, 3) := by decide +kernel
theorem dX4_reach_85 : decode cX4_reach 85 = .ok (.ifCond .ne 13, 3) := by decide +kernel
theorem dX4_reach_88 : decode cX4_reach 88 = .ok (.aload_n 0, 1) := by decide +kernel
theorem dX4_reach_89 : decode cX4_reach 89 = .ok (.getfield 58, 3) := by decide +kernel
theorem dX4_reach_92 : decode cX4_reach 92 = .ok (.sipush 3000, 3) := by decide +kernel
theorem dX4_reach_95 : decode cX4_reach 95 = .ok (.if_icmp .lt 7, 3) := by decide +kernel
theorem dX4_reach_98 : decode cX4_reach 98 = .ok (.iconst 1, 1) := by decide +kernel
theorem dX4_reach_99 : decode cX4_reach 99 = .ok (.goto 4, 3) := by decide +kernel
theorem dX4_reach_102 : decode cX4_reach 102 = .ok (.iconst 0, 1) := by decide +kernel
theorem dX4_reach_103 : decode cX4_reach 103 = .ok (.putfield 46, 3) := by decide +kernel
theorem dX4_reach_106 : decode cX4_reach 106 = .ok (.aload_n 0, 1) := by decide +kernel
theorem dX4_reach_107 : decode cX4_reach 107 = .ok (.getfield 46, 3) := by decide +kernel
theorem dX4_reach_110 : decode cX4_reach 110 = .ok (.ifCond .eq 4, 3) := by decide +kernel
theorem dX4_reach_113 : decode cX4_reach 113 = .ok (.return_, 1) := by decide +kernel
theorem dX4_reach_114 : decode cX4_reach 114 = .ok (.aload_n 0, 1) := by decide +kernel
theorem dX4_reach_115 : decode cX4_reach 115 = .ok (.getfield 11, 3) := by decide +kernel
theorem dX4_reach_118 : decode cX4_reach 118 = .ok (.aload_n 0, 1) := by decide +kernel
theorem dX4_reach_119 : decode cX4_reach 119 = .ok (.getfield 58, 3) := by decide +kernel
theorem dX4_reach_122 : decode cX4_reach 122 = .ok (.lload_n 2, 1) := by decide +kernel
theorem dX4_reach_123 : decode cX4_reach 123 = .ok (.lastore, 1) := by decide +kernel
theorem dX4_reach_124 : decode cX4_reach 124 = .ok (.aload_n 0, 1) := by decide +kernel
theorem dX4_reach_125 : decode cX4_reach 125 = .ok (.getfield 15, 3) := by decide +kernel
theorem dX4_reach_128 : decode cX4_reach 128 = .ok (.aload_n 0, 1) := by decide +kernel
theorem dX4_reach_129 : decode cX4_reach 129 = .ok (.getfield 58, 3) := by decide +kernel
theorem dX4_reach_132 : decode cX4_reach 132 = .ok (.iload_n 1, 1) := by decide +kernel
theorem dX4_reach_133 : decode cX4_reach 133 = .ok (.iastore, 1) := by decide +kernel
theorem dX4_reach_134 : decode cX4_reach 134 = .ok (.aload_n 0, 1) := by decide +kernel
theorem dX4_reach_135 : decode cX4_reach 135 = .ok (.dup, 1) := by decide +kernel
theorem dX4_reach_136 : decode cX4_reach 136 = .ok (.getfield 58, 3) := by decide +kernel
theorem dX4_reach_139 : decode cX4_reach 139 = .ok (.iconst 1, 1) := by decide +kernel
theorem dX4_reach_140 : decode cX4_reach 140 = .ok (.iadd, 1) := by decide +kernel
theorem dX4_reach_141 : decode cX4_reach 141 = .ok (.putfield 58, 3) := by decide +kernel
theorem dX4_reach_144 : decode cX4_reach 144 = .ok (.aload_n 0, 1) := by decide +kernel
theorem dX4_reach_145 : decode cX4_reach 145 = .ok (.getfield 19, 3) := by decide +kernel
theorem dX4_reach_148 : decode cX4_reach 148 = .ok (.iload 6, 2) := by decide +kernel
theorem dX4_reach_150 : decode cX4_reach 150 = .ok (.aload_n 0, 1) := by decide +kernel
theorem dX4_reach_151 : decode cX4_reach 151 = .ok (.getfield 58, 3) := by decide +kernel
theorem dX4_reach_154 : decode cX4_reach 154 = .ok (.iastore, 1) := by decide +kernel
theorem dX4_reach_155 : decode cX4_reach 155 = .ok (.return_, 1) := by decide +kernel
theorem dX4_reach_156 : decode cX4_reach 156 = .ok (.iinc 5 1, 3) := by decide +kernel
theorem dX4_reach_159 : decode cX4_reach 159 = .ok (.goto (-140), 3) := by decide +kernel
theorem dX4_reach_162 : decode cX4_reach 162 = .ok (.return_, 1) := by decide +kernel
set_option maxRecDepth 20000 in
theorem ggX4_visit_X4_lying : GoodIn wsX4_visit wsX4_lying := goodIn_r _ [13] (by decide +kernel) (by decide +kernel)
set_option maxRecDepth 20000 in
theorem gX4_visit_X4_lying : GoodIn wsX4_visit (va_wsS RX4 99 yX4_lying wsX4_lying) := goodIn_app (goodIn_of _ (by decide +kernel)) ggX4_visit_X4_lying
set_option maxRecDepth 20000 in
theorem ggX4_visit_X4_taking : GoodIn wsX4_visit wsX4_taking := goodIn_r _ [17, 18, 2, 19, 20, 21, 22, 23, 24, 25, 26, 27, 28, 29, 30, 31, 32, 33, 34, 35, 36, 37, 38, 39, 40, 41, 42, 43, 44, 45, 46, 47, 48, 49, 50, 51, 52, 53, 54, 55, 56, 57, 58, 59, 60, 61, 62, 63, 64, 65, 66, 67, 68, 69, 70, 71, 72, 73, 74, 75, 122, 123, 124, 125, 126, 127, 128, 129, 130, 131, 132, 133, 134, 135, 136, 137, 138, 139, 140, 141, 142, 143, 144, 145, 146, 147, 148] (by decide +kernel) (by decide +kernel)
set_option maxRecDepth 20000 in
theorem gX4_visit_X4_taking : GoodIn wsX4_visit (wsV RX4 109 RX4 yX4_taking wsX4_taking) := goodIn_app (goodIn_of _ (by decide +kernel)) ggX4_visit_X4_taking
set_option maxRecDepth 20000 in
theorem ggX4_visit_X4_moveOf : GoodIn wsX4_visit wsX4_moveOf := goodIn_r _ [79, 18, 19, 2, 80, 22, 23, 24, 25, 26, 27, 28, 29, 30, 31, 32, 81, 82, 83, 84, 85, 86, 68, 69, 70, 71, 43, 87, 88, 89, 90, 91, 92, 93, 94, 95, 96, 97, 12, 98, 99, 100, 101, 102, 103, 104, 105, 106, 107, 108, 109, 110, 111, 112, 10, 11, 13, 113, 114, 115, 116, 117, 122, 123, 124, 125, 126, 127, 128, 129, 130, 131, 132, 133, 134, 135, 136, 137, 138, 139, 140, 141, 142, 143, 144, 145] (by decide +kernel) (by decide +kernel)
set_option maxRecDepth 20000 in
theorem gX4_visit_X4_moveOf : GoodIn wsX4_visit (wsV RX4 112 RX4 yX4_moveOf wsX4_moveOf) := goodIn_app (goodIn_of _ (by decide +kernel)) ggX4_visit_X4_moveOf
set_option maxRecDepth 20000 in
theorem ggX4_visit_X4_isAtEnd : GoodIn wsX4_visit wsX4_isAtEnd := goodIn_r _ [121, 18, 19, 2, 22, 23, 24, 25, 26, 27, 122, 123, 124, 125, 126, 127, 128, 129, 130, 131, 132, 133, 134, 135, 136, 137, 138, 139, 140, 141, 142, 143, 144, 145] (by decide +kernel) (by decide +kernel)
set_option maxRecDepth 20000 in
theorem gX4_visit_X4_isAtEnd : GoodIn wsX4_visit (wsV RX4 116 RX4 yX4_isAtEnd wsX4_isAtEnd) := goodIn_app (goodIn_of _ (by decide +kernel)) ggX4_visit_X4_isAtEnd
theorem dX4_visit_0 : decode cX4_visit 0 = .ok (.aload_n 0, 1) := by decide +kernel
theorem dX4_visit_1 : decode cX4_visit 1 = .ok (.aload_n 0, 1) := by decide +kernel
theorem dX4_visit_2 : decode cX4_visit 2 = .ok (.getfield 90, 3) := by decide +kernel
theorem dX4_visit_5 : decode cX4_visit 5 = .ok (.aload_n 0, 1) := by decide +kernel
theorem dX4_visit_6 : decode cX4_visit 6 = .ok (.getfield 35, 3) := by decide +kernel
theorem dX4_visit_9 : decode cX4_visit 9 = .ok (.iconst 0, 1) := by decide +kernel
theorem dX4_visit_10 : decode cX4_visit 10 = .ok (.iaload, 1) := by decide +kernel
theorem dX4_visit_11 : decode cX4_visit 11 = .ok (.invokestatic 99, 3) := by decide +kernel
theorem dX4_visit_14 : decode cX4_visit 14 = .ok (.aload_n 0, 1) := by decide +kernel
theorem dX4_visit_15 : decode cX4_visit 15 = .ok (.getfield 35, 3) := by decide +kernel
theorem dX4_visit_18 : decode cX4_visit 18 = .ok (.iconst 1, 1) := by decide +kernel
theorem dX4_visit_19 : decode cX4_visit 19 = .ok (.iaload, 1) := by decide +kernel
theorem dX4_visit_20 : decode cX4_visit 20 = .ok (.invokestatic 99, 3) := by decide +kernel
theorem dX4_visit_23 : decode cX4_visit 23 = .ok (.invokestatic 103, 3) := by decide +kernel
theorem dX4_visit_26 : decode cX4_visit 26 = .ok (.invokestatic 103, 3) := by decide +kernel
theorem dX4_visit_29 : decode cX4_visit 29 = .ok (.putfield 90, 3) := by decide +kernel
theorem dX4_visit_32 : decode cX4_visit 32 = .ok (.aload_n 0, 1) := by decide +kernel
theorem dX4_visit_33 : decode cX4_visit 33 = .ok (.iconst 0, 1) := by decide +kernel
theorem dX4_visit_34 : decode cX4_visit 34 = .ok (.invokevirtual 109, 3) := by decide +kernel
theorem dX4_visit_37 : decode cX4_visit 37 = .ok (.istore_n 2, 1) := by decide +kernel
theorem dX4_visit_38 : decode cX4_visit 38 = .ok (.aload_n 0, 1) := by decide +kernel
theorem dX4_visit_39 : decode cX4_visit 39 = .ok (.iconst 1, 1) := by decide +kernel
theorem dX4_visit_40 : decode cX4_visit 40 = .ok (.invokevirtual 109, 3) := by decide +kernel
theorem dX4_visit_43 : decode cX4_visit 43 = .ok (.istore_n 3, 1) := by decide +kernel
theorem dX4_visit_44 : decode cX4_visit 44 = .ok (.iload_n 2, 1) := by decide +kernel
theorem dX4_visit_45 : decode cX4_visit 45 = .ok (.iconst 2, 1) := by decide +kernel
theorem dX4_visit_46 : decode cX4_visit 46 = .ok (.if_icmp .eq 8, 3) := by decide +kernel
theorem dX4_visit_49 : decode cX4_visit 49 = .ok (.iload_n 3, 1) := by decide +kernel
theorem dX4_visit_50 : decode cX4_visit 50 = .ok (.iconst 2, 1) := by decide +kernel
theorem dX4_visit_51 : decode cX4_visit 51 = .ok (.if_icmp .ne 7, 3) := by decide +kernel
theorem dX4_visit_54 : decode cX4_visit 54 = .ok (.iconst 1, 1) := by decide +kernel
theorem dX4_visit_55 : decode cX4_visit 55 = .ok (.goto 4, 3) := by decide +kernel
theorem dX4_visit_58 : decode cX4_visit 58 = .ok (.iconst 0, 1) := by decide +kernel
theorem dX4_visit_59 : decode cX4_visit 59 = .ok (.istore 4, 2) := by decide +kernel
theorem dX4_visit_61 : decode cX4_visit 61 = .ok (.iload 4, 2) := by decide +kernel
theorem dX4_visit_63 : decode cX4_visit 63 = .ok (.ifCond .eq 16, 3) := by decide +kernel
theorem dX4_visit_66 : decode cX4_visit 66 = .ok (.aload_n 0, 1) := by decide +kernel
theorem dX4_visit_67 : decode cX4_visit 67 = .ok (.dup, 1) := by decide +kernel
theorem dX4_visit_68 : decode cX4_visit 68 = .ok (.getfield 84, 3) := by decide +kernel
theorem dX4_visit_71 : decode cX4_visit 71 = .ok (.iconst 1, 1) := by decide +kernel
theorem dX4_visit_72 : decode cX4_visit 72 = .ok (.iadd, 1) := by decide +kernel
theorem dX4_visit_73 : decode cX4_visit 73 = .ok (.putfield 84, 3) := by decide +kernel
theorem dX4_visit_76 : decode cX4_visit 76 = .ok (.goto 49, 3) := by decide +kernel
theorem dX4_visit_79 : decode cX4_visit 79 = .ok (.aload_n 0, 1) := by decide +kernel
theorem dX4_visit_80 : decode cX4_visit 80 = .ok (.iconst 0, 1) := by decide +kernel
theorem dX4_visit_81 : decode cX4_visit 81 = .ok (.iload_n 2, 1) := by decide +kernel
theorem dX4_visit_82 : decode cX4_visit 82 = .ok (.iload_n 1, 1) := by decide +kernel
theorem dX4_visit_83 : decode cX4_visit 83 = .ok (.invokevirtual 112, 3) := by decide +kernel
theorem dX4_visit_86 : decode cX4_visit 86 = .ok (.aload_n 0, 1) := by decide +kernel
theorem dX4_visit_87 : decode cX4_visit 87 = .ok (.iconst 1, 1) := by decide +kernel
theorem dX4_visit_88 : decode cX4_visit 88 = .ok (.iload_n 3, 1) := by decide +kernel
theorem dX4_visit_89 : decode cX4_visit 89 = .ok (.iload_n 1, 1) := by decide +kernel
theorem dX4_visit_90 : decode cX4_visit 90 = .ok (.invokevirtual 112, 3) := by decide +kernel
theorem dX4_visit_93 : decode cX4_visit 93 = .ok (.ior, 1) := by decide +kernel
theorem dX4_visit_94 : decode cX4_visit 94 = .ok (.ifCond .eq 4, 3) := by decide +kernel
theorem dX4_visit_97 : decode cX4_visit 97 = .ok (.return_, 1) := by decide +kernel
theorem dX4_visit_98 : decode cX4_visit 98 = .ok (.aload_n 0, 1) := by decide +kernel
theorem dX4_visit_99 : decode cX4_visit 99 = .ok (.iconst 0, 1) := by decide +kernel
theorem dX4_visit_100 : decode cX4_visit 100 = .ok (.invokevirtual 116, 3) := by decide +kernel
theorem dX4_visit_103 : decode cX4_visit 103 = .ok (.ifCond .eq 12, 3) := by decide +kernel
theorem dX4_visit_106 : decode cX4_visit 106 = .ok (.aload_n 0, 1) := by decide +kernel
theorem dX4_visit_107 : decode cX4_visit 107 = .ok (.iconst 1, 1) := by decide +kernel
theorem dX4_visit_108 : decode cX4_visit 108 = .ok (.invokevirtual 116, 3) := by decide +kernel
theorem dX4_visit_111 : decode cX4_visit 111 = .ok (.ifCond .eq 4, 3) := by decide +kernel
theorem dX4_visit_114 : decode cX4_visit 114 = .ok (.return_, 1) := by decide +kernel
theorem dX4_visit_115 : decode cX4_visit 115 = .ok (.aload_n 0, 1) := by decide +kernel
theorem dX4_visit_116 : decode cX4_visit 116 = .ok (.dup, 1) := by decide +kernel
theorem dX4_visit_117 : decode cX4_visit 117 = .ok (.getfield 81, 3) := by decide +kernel
theorem dX4_visit_120 : decode cX4_visit 120 = .ok (.iconst 1, 1) := by decide +kernel
theorem dX4_visit_121 : decode cX4_visit 121 = .ok (.iadd, 1) := by decide +kernel
theorem dX4_visit_122 : decode cX4_visit 122 = .ok (.putfield 81, 3) := by decide +kernel
theorem dX4_visit_125 : decode cX4_visit 125 = .ok (.aload_n 0, 1) := by decide +kernel
theorem dX4_visit_126 : decode cX4_visit 126 = .ok (.getfield 87, 3) := by decide +kernel
theorem dX4_visit_129 : decode cX4_visit 129 = .ok (.ifCond .ge 8, 3) := by decide +kernel
theorem dX4_visit_132 : decode cX4_visit 132 = .ok (.aload_n 0, 1) := by decide +kernel
theorem dX4_visit_133 : decode cX4_visit 133 = .ok (.iload_n 1, 1) := by decide +kernel
theorem dX4_visit_134 : decode cX4_visit 134 = .ok (.putfield 87, 3) := by decide +kernel
theorem dX4_visit_137 : decode cX4_visit 137 = .ok (.return_, 1) := by decide +kernel
theorem dX4_lying_0 : decode cX4_lying 0 = .ok (.iload_n 0, 1) := by decide +kernel
theorem dX4_lying_1 : decode cX4_lying 1 = .ok (.ifCond .ne 7, 3) := by decide +kernel
theorem dX4_lying_4 : decode cX4_lying 4 = .ok (.iconst 0, 1) := by decide +kernel
theorem dX4_lying_5 : decode cX4_lying 5 = .ok (.goto 15, 3) := by decide +kernel
theorem dX4_lying_8 : decode cX4_lying 8 = .ok (.iload_n 0, 1) := by decide +kernel
theorem dX4_lying_9 : decode cX4_lying 9 = .ok (.bipush 7, 2) := by decide +kernel
theorem dX4_lying_11 : decode cX4_lying 11 = .ok (.ishr, 1) := by decide +kernel
theorem dX4_lying_12 : decode cX4_lying 12 = .ok (.ifCond .ne 7, 3) := by decide +kernel
theorem dX4_lying_15 : decode cX4_lying 15 = .ok (.iconst 1, 1) := by decide +kernel
theorem dX4_lying_16 : decode cX4_lying 16 = .ok (.goto 4, 3) := by decide +kernel
theorem dX4_lying_19 : decode cX4_lying 19 = .ok (.iconst 2, 1) := by decide +kernel
theorem dX4_lying_20 : decode cX4_lying 20 = .ok (.ireturn, 1) := by decide +kernel
set_option maxRecDepth 20000 in
theorem ggX4_isAtEnd_X7_kindOf : GoodIn wsX4_isAtEnd wsX7_kindOf := goodIn_r _ [8, 9, 25, 26, 27, 28, 29, 30, 31, 32, 33] (by decide +kernel) (by decide +kernel)
set_option maxRecDepth 20000 in
theorem gX4_isAtEnd_X7_kindOf : GoodIn wsX4_isAtEnd (wsV RX4 120 RX7 yX7_kindOf wsX7_kindOf) := goodIn_app (goodIn_of _ (by decide +kernel)) ggX4_isAtEnd_X7_kindOf
theorem dX4_isAtEnd_0 : decode cX4_isAtEnd 0 = .ok (.aload_n 0, 1) := by decide +kernel
theorem dX4_isAtEnd_1 : decode cX4_isAtEnd 1 = .ok (.getfield 28, 3) := by decide +kernel
theorem dX4_isAtEnd_4 : decode cX4_isAtEnd 4 = .ok (.iload_n 1, 1) := by decide +kernel
theorem dX4_isAtEnd_5 : decode cX4_isAtEnd 5 = .ok (.iconst 1, 1) := by decide +kernel
theorem dX4_isAtEnd_6 : decode cX4_isAtEnd 6 = .ok (.iand, 1) := by decide +kernel
theorem dX4_isAtEnd_7 : decode cX4_isAtEnd 7 = .ok (.aaload, 1) := by decide +kernel
theorem dX4_isAtEnd_8 : decode cX4_isAtEnd 8 = .ok (.astore_n 2, 1) := by decide +kernel
theorem dX4_isAtEnd_9 : decode cX4_isAtEnd 9 = .ok (.aload_n 2, 1) := by decide +kernel
theorem dX4_isAtEnd_10 : decode cX4_isAtEnd 10 = .ok (.ifnull 33, 3) := by decide +kernel
theorem dX4_isAtEnd_13 : decode cX4_isAtEnd 13 = .ok (.aload_n 2, 1) := by decide +kernel
theorem dX4_isAtEnd_14 : decode cX4_isAtEnd 14 = .ok (.aload_n 0, 1) := by decide +kernel
theorem dX4_isAtEnd_15 : decode cX4_isAtEnd 15 = .ok (.getfield 32, 3) := by decide +kernel
theorem dX4_isAtEnd_18 : decode cX4_isAtEnd 18 = .ok (.iload_n 1, 1) := by decide +kernel
theorem dX4_isAtEnd_19 : decode cX4_isAtEnd 19 = .ok (.iconst 1, 1) := by decide +kernel
theorem dX4_isAtEnd_20 : decode cX4_isAtEnd 20 = .ok (.iand, 1) := by decide +kernel
theorem dX4_isAtEnd_21 : decode cX4_isAtEnd 21 = .ok (.iaload, 1) := by decide +kernel
theorem dX4_isAtEnd_22 : decode cX4_isAtEnd 22 = .ok (.invokevirtual 120, 3) := by decide +kernel
theorem dX4_isAtEnd_25 : decode cX4_isAtEnd 25 = .ok (.ifCond .ne 18, 3) := by decide +kernel
theorem dX4_isAtEnd_28 : decode cX4_isAtEnd 28 = .ok (.aload_n 0, 1) := by decide +kernel
theorem dX4_isAtEnd_29 : decode cX4_isAtEnd 29 = .ok (.getfield 35, 3) := by decide +kernel
theorem dX4_isAtEnd_32 : decode cX4_isAtEnd 32 = .ok (.iload_n 1, 1) := by decide +kernel
theorem dX4_isAtEnd_33 : decode cX4_isAtEnd 33 = .ok (.iconst 1, 1) := by decide +kernel
theorem dX4_isAtEnd_34 : decode cX4_isAtEnd 34 = .ok (.iand, 1) := by decide +kernel
theorem dX4_isAtEnd_35 : decode cX4_isAtEnd 35 = .ok (.iaload, 1) := by decide +kernel
theorem dX4_isAtEnd_36 : decode cX4_isAtEnd 36 = .ok (.ifCond .ne 7, 3) := by decide +kernel
theorem dX4_isAtEnd_39 : decode cX4_isAtEnd 39 = .ok (.iconst 1, 1) := by decide +kernel
theorem dX4_isAtEnd_40 : decode cX4_isAtEnd 40 = .ok (.goto 4, 3) := by decide +kernel
theorem dX4_isAtEnd_43 : decode cX4_isAtEnd 43 = .ok (.iconst 0, 1) := by decide +kernel
theorem dX4_isAtEnd_44 : decode cX4_isAtEnd 44 = .ok (.ireturn, 1) := by decide +kernel
set_option maxRecDepth 20000 in
theorem ggX4_taking_X7_kindOf : GoodIn wsX4_taking wsX7_kindOf := goodIn_r _ [10, 11, 75, 76, 77, 78, 79, 80, 81, 82, 83] (by decide +kernel) (by decide +kernel)
set_option maxRecDepth 20000 in
theorem gX4_taking_X7_kindOf : GoodIn wsX4_taking (wsV RX4 120 RX7 yX7_kindOf wsX7_kindOf) := goodIn_app (goodIn_of _ (by decide +kernel)) ggX4_taking_X7_kindOf
set_option maxRecDepth 20000 in
theorem ggX4_taking_X7_labelsOf : GoodIn wsX4_taking wsX7_labelsOf := goodIn_r _ [15, 16, 75, 76, 77, 78, 79, 80, 81, 82, 83] (by decide +kernel) (by decide +kernel)
set_option maxRecDepth 20000 in
theorem gX4_taking_X7_labelsOf : GoodIn wsX4_taking (wsV RX4 123 RX7 yX7_labelsOf wsX7_labelsOf) := goodIn_app (goodIn_of _ (by decide +kernel)) ggX4_taking_X7_labelsOf
set_option maxRecDepth 20000 in
theorem ggX4_taking_X7_sortOf : GoodIn wsX4_taking wsX7_sortOf := goodIn_r _ [20, 21, 75, 76, 77, 78, 79, 80, 81, 82, 83] (by decide +kernel) (by decide +kernel)
set_option maxRecDepth 20000 in
theorem gX4_taking_X7_sortOf : GoodIn wsX4_taking (wsV RX4 126 RX7 yX7_sortOf wsX7_sortOf) := goodIn_app (goodIn_of _ (by decide +kernel)) ggX4_taking_X7_sortOf
set_option maxRecDepth 20000 in
theorem ggX4_taking_X7_innerOf : GoodIn wsX4_taking wsX7_innerOf := goodIn_r _ [25, 26, 27, 75, 76, 77, 78, 79, 80, 81, 82, 83] (by decide +kernel) (by decide +kernel)
set_option maxRecDepth 20000 in
theorem gX4_taking_X7_innerOf : GoodIn wsX4_taking (wsV RX4 129 RX7 yX7_innerOf wsX7_innerOf) := goodIn_app (goodIn_of _ (by decide +kernel)) ggX4_taking_X7_innerOf
set_option maxRecDepth 20000 in
theorem ggX4_taking_X1_holds : GoodIn wsX4_taking wsX1_holds := goodIn_r _ [32, 33, 34, 35, 36, 37, 38, 39, 40, 41, 42, 31, 43, 44, 45, 46, 47, 48, 7, 8, 9, 10, 11, 49, 18, 19, 20, 21, 50, 23, 24, 25, 26, 27, 51, 52, 53, 54, 55, 56, 13, 14, 15, 16, 57, 58, 59, 84, 85, 86, 75, 76, 77, 78, 79, 80, 81, 82, 83] (by decide +kernel) (by decide +kernel)
set_option maxRecDepth 20000 in
theorem gX4_taking_X1_holds : GoodIn wsX4_taking (wsV RX4 132 RX1 yX1_holds wsX1_holds) := goodIn_app (goodIn_of _ (by decide +kernel)) ggX4_taking_X1_holds
theorem dX4_taking_0 : decode cX4_taking 0 = .ok (.aload_n 0, 1) := by decide +kernel
theorem dX4_taking_1 : decode cX4_taking 1 = .ok (.getfield 28, 3) := by decide +kernel
theorem dX4_taking_4 : decode cX4_taking 4 = .ok (.iload_n 1, 1) := by decide +kernel
theorem dX4_taking_5 : decode cX4_taking 5 = .ok (.iconst 1, 1) := by decide +kernel
theorem dX4_taking_6 : decode cX4_taking 6 = .ok (.iand, 1) := by decide +kernel
theorem dX4_taking_7 : decode cX4_taking 7 = .ok (.aaload, 1) := by decide +kernel
theorem dX4_taking_8 : decode cX4_taking 8 = .ok (.astore_n 2, 1) := by decide +kernel
theorem dX4_taking_9 : decode cX4_taking 9 = .ok (.aload_n 0, 1) := by decide +kernel
theorem dX4_taking_10 : decode cX4_taking 10 = .ok (.getfield 28, 3) := by decide +kernel
theorem dX4_taking_13 : decode cX4_taking 13 = .ok (.iconst 1, 1) := by decide +kernel
theorem dX4_taking_14 : decode cX4_taking 14 = .ok (.iload_n 1, 1) := by decide +kernel
theorem dX4_taking_15 : decode cX4_taking 15 = .ok (.isub, 1) := by decide +kernel
theorem dX4_taking_16 : decode cX4_taking 16 = .ok (.iconst 1, 1) := by decide +kernel
theorem dX4_taking_17 : decode cX4_taking 17 = .ok (.iand, 1) := by decide +kernel
theorem dX4_taking_18 : decode cX4_taking 18 = .ok (.aaload, 1) := by decide +kernel
theorem dX4_taking_19 : decode cX4_taking 19 = .ok (.astore_n 3, 1) := by decide +kernel
theorem dX4_taking_20 : decode cX4_taking 20 = .ok (.aload_n 0, 1) := by decide +kernel
theorem dX4_taking_21 : decode cX4_taking 21 = .ok (.getfield 35, 3) := by decide +kernel
theorem dX4_taking_24 : decode cX4_taking 24 = .ok (.iconst 1, 1) := by decide +kernel
theorem dX4_taking_25 : decode cX4_taking 25 = .ok (.iload_n 1, 1) := by decide +kernel
theorem dX4_taking_26 : decode cX4_taking 26 = .ok (.isub, 1) := by decide +kernel
theorem dX4_taking_27 : decode cX4_taking 27 = .ok (.iconst 1, 1) := by decide +kernel
theorem dX4_taking_28 : decode cX4_taking 28 = .ok (.iand, 1) := by decide +kernel
theorem dX4_taking_29 : decode cX4_taking 29 = .ok (.iaload, 1) := by decide +kernel
theorem dX4_taking_30 : decode cX4_taking 30 = .ok (.bipush 127, 2) := by decide +kernel
theorem dX4_taking_32 : decode cX4_taking 32 = .ok (.iand, 1) := by decide +kernel
theorem dX4_taking_33 : decode cX4_taking 33 = .ok (.istore 4, 2) := by decide +kernel
theorem dX4_taking_35 : decode cX4_taking 35 = .ok (.aload_n 2, 1) := by decide +kernel
theorem dX4_taking_36 : decode cX4_taking 36 = .ok (.ifnull 12, 3) := by decide +kernel
theorem dX4_taking_39 : decode cX4_taking 39 = .ok (.aload_n 3, 1) := by decide +kernel
theorem dX4_taking_40 : decode cX4_taking 40 = .ok (.ifnull 8, 3) := by decide +kernel
theorem dX4_taking_43 : decode cX4_taking 43 = .ok (.iload 4, 2) := by decide +kernel
theorem dX4_taking_45 : decode cX4_taking 45 = .ok (.ifCond .ne 5, 3) := by decide +kernel
theorem dX4_taking_48 : decode cX4_taking 48 = .ok (.iconst 0, 1) := by decide +kernel
theorem dX4_taking_49 : decode cX4_taking 49 = .ok (.ireturn, 1) := by decide +kernel
theorem dX4_taking_50 : decode cX4_taking 50 = .ok (.aload_n 0, 1) := by decide +kernel
theorem dX4_taking_51 : decode cX4_taking 51 = .ok (.getfield 32, 3) := by decide +kernel
theorem dX4_taking_54 : decode cX4_taking 54 = .ok (.iload_n 1, 1) := by decide +kernel
theorem dX4_taking_55 : decode cX4_taking 55 = .ok (.iconst 1, 1) := by decide +kernel
theorem dX4_taking_56 : decode cX4_taking 56 = .ok (.iand, 1) := by decide +kernel
theorem dX4_taking_57 : decode cX4_taking 57 = .ok (.iaload, 1) := by decide +kernel
theorem dX4_taking_58 : decode cX4_taking 58 = .ok (.istore 5, 2) := by decide +kernel
theorem dX4_taking_60 : decode cX4_taking 60 = .ok (.aload_n 2, 1) := by decide +kernel
theorem dX4_taking_61 : decode cX4_taking 61 = .ok (.iload 5, 2) := by decide +kernel
theorem dX4_taking_63 : decode cX4_taking 63 = .ok (.invokevirtual 120, 3) := by decide +kernel
theorem dX4_taking_66 : decode cX4_taking 66 = .ok (.istore 6, 2) := by decide +kernel
theorem dX4_taking_68 : decode cX4_taking 68 = .ok (.iload 6, 2) := by decide +kernel
theorem dX4_taking_70 : decode cX4_taking 70 = .ok (.iconst 4, 1) := by decide +kernel
theorem dX4_taking_71 : decode cX4_taking 71 = .ok (.if_icmp .ne 44, 3) := by decide +kernel
theorem dX4_taking_74 : decode cX4_taking 74 = .ok (.iload 4, 2) := by decide +kernel
theorem dX4_taking_76 : decode cX4_taking 76 = .ok (.iconst 1, 1) := by decide +kernel
theorem dX4_taking_77 : decode cX4_taking 77 = .ok (.isub, 1) := by decide +kernel
theorem dX4_taking_78 : decode cX4_taking 78 = .ok (.bipush 60, 2) := by decide +kernel
theorem dX4_taking_80 : decode cX4_taking 80 = .ok (.isub, 1) := by decide +kernel
theorem dX4_taking_81 : decode cX4_taking 81 = .ok (.istore 7, 2) := by decide +kernel
theorem dX4_taking_83 : decode cX4_taking 83 = .ok (.iload 7, 2) := by decide +kernel
theorem dX4_taking_85 : decode cX4_taking 85 = .ok (.ifCond .lt 28, 3) := by decide +kernel
theorem dX4_taking_88 : decode cX4_taking 88 = .ok (.iload 7, 2) := by decide +kernel
theorem dX4_taking_90 : decode cX4_taking 90 = .ok (.bipush 26, 2) := by decide +kernel
theorem dX4_taking_92 : decode cX4_taking 92 = .ok (.if_icmp .ge 21, 3) := by decide +kernel
theorem dX4_taking_95 : decode cX4_taking 95 = .ok (.aload_n 2, 1) := by decide +kernel
theorem dX4_taking_96 : decode cX4_taking 96 = .ok (.iload 5, 2) := by decide +kernel
theorem dX4_taking_98 : decode cX4_taking 98 = .ok (.invokevirtual 123, 3) := by decide +kernel
theorem dX4_taking_101 : decode cX4_taking 101 = .ok (.iload 7, 2) := by decide +kernel
theorem dX4_taking_103 : decode cX4_taking 103 = .ok (.ishr, 1) := by decide +kernel
theorem dX4_taking_104 : decode cX4_taking 104 = .ok (.iconst 1, 1) := by decide +kernel
theorem dX4_taking_105 : decode cX4_taking 105 = .ok (.iand, 1) := by decide +kernel
theorem dX4_taking_106 : decode cX4_taking 106 = .ok (.ifCond .eq 7, 3) := by decide +kernel
theorem dX4_taking_109 : decode cX4_taking 109 = .ok (.iconst 1, 1) := by decide +kernel
theorem dX4_taking_110 : decode cX4_taking 110 = .ok (.goto 4, 3) := by decide +kernel
theorem dX4_taking_113 : decode cX4_taking 113 = .ok (.iconst 2, 1) := by decide +kernel
theorem dX4_taking_114 : decode cX4_taking 114 = .ok (.ireturn, 1) := by decide +kernel
theorem dX4_taking_115 : decode cX4_taking 115 = .ok (.iload 6, 2) := by decide +kernel
theorem dX4_taking_117 : decode cX4_taking 117 = .ok (.iconst 2, 1) := by decide +kernel
theorem dX4_taking_118 : decode cX4_taking 118 = .ok (.if_icmp .eq 5, 3) := by decide +kernel
theorem dX4_taking_121 : decode cX4_taking 121 = .ok (.iconst 0, 1) := by decide +kernel
theorem dX4_taking_122 : decode cX4_taking 122 = .ok (.ireturn, 1) := by decide +kernel
theorem dX4_taking_123 : decode cX4_taking 123 = .ok (.iload 4, 2) := by decide +kernel
theorem dX4_taking_125 : decode cX4_taking 125 = .ok (.bipush 60, 2) := by decide +kernel
theorem dX4_taking_127 : decode cX4_taking 127 = .ok (.if_icmp .gt 20, 3) := by decide +kernel
theorem dX4_taking_130 : decode cX4_taking 130 = .ok (.aload_n 3, 1) := by decide +kernel
theorem dX4_taking_131 : decode cX4_taking 131 = .ok (.iload 4, 2) := by decide +kernel
theorem dX4_taking_133 : decode cX4_taking 133 = .ok (.iconst 1, 1) := by decide +kernel
theorem dX4_taking_134 : decode cX4_taking 134 = .ok (.isub, 1) := by decide +kernel
theorem dX4_taking_135 : decode cX4_taking 135 = .ok (.invokevirtual 126, 3) := by decide +kernel
theorem dX4_taking_138 : decode cX4_taking 138 = .ok (.aload_n 2, 1) := by decide +kernel
theorem dX4_taking_139 : decode cX4_taking 139 = .ok (.iload 5, 2) := by decide +kernel
theorem dX4_taking_141 : decode cX4_taking 141 = .ok (.invokevirtual 126, 3) := by decide +kernel
theorem dX4_taking_144 : decode cX4_taking 144 = .ok (.if_icmp .eq 5, 3) := by decide +kernel
theorem dX4_taking_147 : decode cX4_taking 147 = .ok (.iconst 2, 1) := by decide +kernel
theorem dX4_taking_148 : decode cX4_taking 148 = .ok (.ireturn, 1) := by decide +kernel
theorem dX4_taking_149 : decode cX4_taking 149 = .ok (.aload_n 2, 1) := by decide +kernel
theorem dX4_taking_150 : decode cX4_taking 150 = .ok (.iload 5, 2) := by decide +kernel
theorem dX4_taking_152 : decode cX4_taking 152 = .ok (.invokevirtual 126, 3) := by decide +kernel
theorem dX4_taking_155 : decode cX4_taking 155 = .ok (.bipush 40, 2) := by decide +kernel
theorem dX4_taking_157 : decode cX4_taking 157 = .ok (.if_icmp .eq 5, 3) := by decide +kernel
theorem dX4_taking_160 : decode cX4_taking 160 = .ok (.iconst 1, 1) := by decide +kernel
theorem dX4_taking_161 : decode cX4_taking 161 = .ok (.ireturn, 1) := by decide +kernel
theorem dX4_taking_162 : decode cX4_taking 162 = .ok (.iload_n 1, 1) := by decide +kernel
theorem dX4_taking_163 : decode cX4_taking 163 = .ok (.iconst 1, 1) := by decide +kernel
theorem dX4_taking_164 : decode cX4_taking 164 = .ok (.iand, 1) := by decide +kernel
theorem dX4_taking_165 : decode cX4_taking 165 = .ok (.bipush 60, 2) := by decide +kernel
theorem dX4_taking_167 : decode cX4_taking 167 = .ok (.imul, 1) := by decide +kernel
theorem dX4_taking_168 : decode cX4_taking 168 = .ok (.iload 4, 2) := by decide +kernel
theorem dX4_taking_170 : decode cX4_taking 170 = .ok (.iadd, 1) := by decide +kernel
theorem dX4_taking_171 : decode cX4_taking 171 = .ok (.iconst 1, 1) := by decide +kernel
theorem dX4_taking_172 : decode cX4_taking 172 = .ok (.isub, 1) := by decide +kernel
theorem dX4_taking_173 : decode cX4_taking 173 = .ok (.bipush 60, 2) := by decide +kernel
theorem dX4_taking_175 : decode cX4_taking 175 = .ok (.imul, 1) := by decide +kernel
theorem dX4_taking_176 : decode cX4_taking 176 = .ok (.iload 5, 2) := by decide +kernel
theorem dX4_taking_178 : decode cX4_taking 178 = .ok (.iadd, 1) := by decide +kernel
theorem dX4_taking_179 : decode cX4_taking 179 = .ok (.istore 7, 2) := by decide +kernel
theorem dX4_taking_181 : decode cX4_taking 181 = .ok (.iload 7, 2) := by decide +kernel
theorem dX4_taking_183 : decode cX4_taking 183 = .ok (.ifCond .lt 13, 3) := by decide +kernel
theorem dX4_taking_186 : decode cX4_taking 186 = .ok (.iload 7, 2) := by decide +kernel
theorem dX4_taking_188 : decode cX4_taking 188 = .ok (.aload_n 0, 1) := by decide +kernel
theorem dX4_taking_189 : decode cX4_taking 189 = .ok (.getfield 22, 3) := by decide +kernel
theorem dX4_taking_192 : decode cX4_taking 192 = .ok (.arraylength, 1) := by decide +kernel
theorem dX4_taking_193 : decode cX4_taking 193 = .ok (.if_icmp .lt 5, 3) := by decide +kernel
theorem dX4_taking_196 : decode cX4_taking 196 = .ok (.iconst 2, 1) := by decide +kernel
theorem dX4_taking_197 : decode cX4_taking 197 = .ok (.ireturn, 1) := by decide +kernel
theorem dX4_taking_198 : decode cX4_taking 198 = .ok (.aload_n 0, 1) := by decide +kernel
theorem dX4_taking_199 : decode cX4_taking 199 = .ok (.getfield 22, 3) := by decide +kernel
theorem dX4_taking_202 : decode cX4_taking 202 = .ok (.iload 7, 2) := by decide +kernel
theorem dX4_taking_204 : decode cX4_taking 204 = .ok (.baload, 1) := by decide +kernel
theorem dX4_taking_205 : decode cX4_taking 205 = .ok (.ifCond .ne 47, 3) := by decide +kernel
theorem dX4_taking_208 : decode cX4_taking 208 = .ok (.aload_n 0, 1) := by decide +kernel
theorem dX4_taking_209 : decode cX4_taking 209 = .ok (.getfield 38, 3) := by decide +kernel
theorem dX4_taking_212 : decode cX4_taking 212 = .ok (.aload_n 2, 1) := by decide +kernel
theorem dX4_taking_213 : decode cX4_taking 213 = .ok (.aload_n 2, 1) := by decide +kernel
theorem dX4_taking_214 : decode cX4_taking 214 = .ok (.iload 5, 2) := by decide +kernel
theorem dX4_taking_216 : decode cX4_taking 216 = .ok (.invokevirtual 129, 3) := by decide +kernel
theorem dX4_taking_219 : decode cX4_taking 219 = .ok (.aload_n 3, 1) := by decide +kernel
theorem dX4_taking_220 : decode cX4_taking 220 = .ok (.aload_n 3, 1) := by decide +kernel
theorem dX4_taking_221 : decode cX4_taking 221 = .ok (.iload 4, 2) := by decide +kernel
theorem dX4_taking_223 : decode cX4_taking 223 = .ok (.iconst 1, 1) := by decide +kernel
theorem dX4_taking_224 : decode cX4_taking 224 = .ok (.isub, 1) := by decide +kernel
theorem dX4_taking_225 : decode cX4_taking 225 = .ok (.invokevirtual 129, 3) := by decide +kernel
theorem dX4_taking_228 : decode cX4_taking 228 = .ok (.iconst 0, 1) := by decide +kernel
theorem dX4_taking_229 : decode cX4_taking 229 = .ok (.invokevirtual 132, 3) := by decide +kernel
theorem dX4_taking_232 : decode cX4_taking 232 = .ok (.istore 8, 2) := by decide +kernel
theorem dX4_taking_234 : decode cX4_taking 234 = .ok (.aload_n 0, 1) := by decide +kernel
theorem dX4_taking_235 : decode cX4_taking 235 = .ok (.getfield 22, 3) := by decide +kernel
theorem dX4_taking_238 : decode cX4_taking 238 = .ok (.iload 7, 2) := by decide +kernel
theorem dX4_taking_240 : decode cX4_taking 240 = .ok (.iload 8, 2) := by decide +kernel
theorem dX4_taking_242 : decode cX4_taking 242 = .ok (.ifCond .eq 7, 3) := by decide +kernel
theorem dX4_taking_245 : decode cX4_taking 245 = .ok (.iconst 1, 1) := by decide +kernel
theorem dX4_taking_246 : decode cX4_taking 246 = .ok (.goto 4, 3) := by decide +kernel
theorem dX4_taking_249 : decode cX4_taking 249 = .ok (.iconst 2, 1) := by decide +kernel
theorem dX4_taking_250 : decode cX4_taking 250 = .ok (.i2b, 1) := by decide +kernel
theorem dX4_taking_251 : decode cX4_taking 251 = .ok (.bastore, 1) := by decide +kernel
theorem dX4_taking_252 : decode cX4_taking 252 = .ok (.aload_n 0, 1) := by decide +kernel
theorem dX4_taking_253 : decode cX4_taking 253 = .ok (.getfield 22, 3) := by decide +kernel
theorem dX4_taking_256 : decode cX4_taking 256 = .ok (.iload 7, 2) := by decide +kernel
theorem dX4_taking_258 : decode cX4_taking 258 = .ok (.baload, 1) := by decide +kernel
theorem dX4_taking_259 : decode cX4_taking 259 = .ok (.ireturn, 1) := by decide +kernel
set_option maxRecDepth 20000 in
theorem ggX4_moveOf_X7_kindOf : GoodIn wsX4_moveOf wsX7_kindOf := goodIn_r _ [9, 10, 77, 78, 79, 80, 81, 82, 83, 84, 85] (by decide +kernel) (by decide +kernel)
set_option maxRecDepth 20000 in
theorem gX4_moveOf_X7_kindOf : GoodIn wsX4_moveOf (wsV RX4 120 RX7 yX7_kindOf wsX7_kindOf) := goodIn_app (goodIn_of _ (by decide +kernel)) ggX4_moveOf_X7_kindOf
set_option maxRecDepth 20000 in
theorem ggX4_moveOf_X7_labelsOf : GoodIn wsX4_moveOf wsX7_labelsOf := goodIn_r _ [14, 15, 77, 78, 79, 80, 81, 82, 83, 84, 85] (by decide +kernel) (by decide +kernel)
set_option maxRecDepth 20000 in
theorem gX4_moveOf_X7_labelsOf : GoodIn wsX4_moveOf (wsV RX4 123 RX7 yX7_labelsOf wsX7_labelsOf) := goodIn_app (goodIn_of _ (by decide +kernel)) ggX4_moveOf_X7_labelsOf
set_option maxRecDepth 20000 in
theorem ggX4_moveOf_X7_behind : GoodIn wsX4_moveOf wsX7_behind := goodIn_r _ [19, 20, 6, 7, 8, 9, 10, 21, 22, 23, 24, 25, 26, 27, 12, 13, 14, 15, 28, 29, 30, 31, 32, 33, 34, 77, 78, 79, 80, 81, 82, 83, 84, 85] (by decide +kernel) (by decide +kernel)
set_option maxRecDepth 20000 in
theorem gX4_moveOf_X7_behind : GoodIn wsX4_moveOf (wsV RX4 138 RX7 yX7_behind wsX7_behind) := goodIn_app (goodIn_of _ (by decide +kernel)) ggX4_moveOf_X7_behind
set_option maxRecDepth 20000 in
theorem ggX4_moveOf_X4_draw : GoodIn wsX4_moveOf wsX4_draw := goodIn_r _ [39, 2, 3, 40, 41, 42, 38, 43, 44, 45, 46, 47, 48, 49, 50, 51, 52, 53, 62, 63, 64, 65, 66, 67, 68, 69, 70, 71, 72, 73, 74, 75, 76] (by decide +kernel) (by decide +kernel)
set_option maxRecDepth 20000 in
theorem gX4_moveOf_X4_draw : GoodIn wsX4_moveOf (wsV RX4 141 RX4 yX4_draw wsX4_draw) := goodIn_app (goodIn_of _ (by decide +kernel)) ggX4_moveOf_X4_draw
set_option maxRecDepth 20000 in
theorem ggX4_moveOf_X4_lying : GoodIn wsX4_moveOf wsX4_lying := goodIn_r _ [56] (by decide +kernel) (by decide +kernel)
set_option maxRecDepth 20000 in
theorem gX4_moveOf_X4_lying : GoodIn wsX4_moveOf (va_wsS RX4 99 yX4_lying wsX4_lying) := goodIn_app (goodIn_of _ (by decide +kernel)) ggX4_moveOf_X4_lying
set_option maxRecDepth 20000 in
theorem ggX4_moveOf_X7_stepOf : GoodIn wsX4_moveOf wsX7_stepOf := goodIn_r _ [24, 25, 26, 77, 78, 79, 80, 81, 82, 83, 84, 85] (by decide +kernel) (by decide +kernel)
set_option maxRecDepth 20000 in
theorem gX4_moveOf_X7_stepOf : GoodIn wsX4_moveOf (wsV RX4 145 RX7 yX7_stepOf wsX7_stepOf) := goodIn_app (goodIn_of _ (by decide +kernel)) ggX4_moveOf_X7_stepOf
set_option maxRecDepth 20000 in
theorem ggX4_moveOf_X4_send : GoodIn wsX4_moveOf wsX4_send := goodIn_r _ [61, 2, 3, 40, 41, 42, 38, 43, 44, 45, 46, 47, 48, 49, 50, 51, 52, 53, 62, 63, 64, 65, 66, 67, 68, 69, 70, 71, 72, 73, 74, 75, 76] (by decide +kernel) (by decide +kernel)
set_option maxRecDepth 20000 in
theorem gX4_moveOf_X4_send : GoodIn wsX4_moveOf (wsV RX4 148 RX4 yX4_send wsX4_send) := goodIn_app (goodIn_of _ (by decide +kernel)) ggX4_moveOf_X4_send
theorem dX4_moveOf_0 : decode cX4_moveOf 0 = .ok (.aload_n 0, 1) := by decide +kernel
theorem dX4_moveOf_1 : decode cX4_moveOf 1 = .ok (.getfield 28, 3) := by decide +kernel
theorem dX4_moveOf_4 : decode cX4_moveOf 4 = .ok (.iload_n 1, 1) := by decide +kernel
theorem dX4_moveOf_5 : decode cX4_moveOf 5 = .ok (.iconst 1, 1) := by decide +kernel
theorem dX4_moveOf_6 : decode cX4_moveOf 6 = .ok (.iand, 1) := by decide +kernel
theorem dX4_moveOf_7 : decode cX4_moveOf 7 = .ok (.aaload, 1) := by decide +kernel
theorem dX4_moveOf_8 : decode cX4_moveOf 8 = .ok (.astore 4, 2) := by decide +kernel
theorem dX4_moveOf_10 : decode cX4_moveOf 10 = .ok (.aload 4, 2) := by decide +kernel
theorem dX4_moveOf_12 : decode cX4_moveOf 12 = .ok (.ifnonnull 5, 3) := by decide +kernel
theorem dX4_moveOf_15 : decode cX4_moveOf 15 = .ok (.iconst 0, 1) := by decide +kernel
theorem dX4_moveOf_16 : decode cX4_moveOf 16 = .ok (.ireturn, 1) := by decide +kernel
theorem dX4_moveOf_17 : decode cX4_moveOf 17 = .ok (.aload_n 0, 1) := by decide +kernel
theorem dX4_moveOf_18 : decode cX4_moveOf 18 = .ok (.getfield 32, 3) := by decide +kernel
theorem dX4_moveOf_21 : decode cX4_moveOf 21 = .ok (.iload_n 1, 1) := by decide +kernel
theorem dX4_moveOf_22 : decode cX4_moveOf 22 = .ok (.iconst 1, 1) := by decide +kernel
theorem dX4_moveOf_23 : decode cX4_moveOf 23 = .ok (.iand, 1) := by decide +kernel
theorem dX4_moveOf_24 : decode cX4_moveOf 24 = .ok (.iaload, 1) := by decide +kernel
theorem dX4_moveOf_25 : decode cX4_moveOf 25 = .ok (.istore 5, 2) := by decide +kernel
theorem dX4_moveOf_27 : decode cX4_moveOf 27 = .ok (.aload 4, 2) := by decide +kernel
theorem dX4_moveOf_29 : decode cX4_moveOf 29 = .ok (.iload 5, 2) := by decide +kernel
theorem dX4_moveOf_31 : decode cX4_moveOf 31 = .ok (.invokevirtual 120, 3) := by decide +kernel
theorem dX4_moveOf_34 : decode cX4_moveOf 34 = .ok (.istore 6, 2) := by decide +kernel
theorem dX4_moveOf_36 : decode cX4_moveOf 36 = .ok (.aload 4, 2) := by decide +kernel
theorem dX4_moveOf_38 : decode cX4_moveOf 38 = .ok (.iload 5, 2) := by decide +kernel
theorem dX4_moveOf_40 : decode cX4_moveOf 40 = .ok (.invokevirtual 123, 3) := by decide +kernel
theorem dX4_moveOf_43 : decode cX4_moveOf 43 = .ok (.istore 7, 2) := by decide +kernel
theorem dX4_moveOf_45 : decode cX4_moveOf 45 = .ok (.iload_n 2, 1) := by decide +kernel
theorem dX4_moveOf_46 : decode cX4_moveOf 46 = .ok (.iconst 1, 1) := by decide +kernel
theorem dX4_moveOf_47 : decode cX4_moveOf 47 = .ok (.if_icmp .ne 42, 3) := by decide +kernel
theorem dX4_moveOf_50 : decode cX4_moveOf 50 = .ok (.aload_n 0, 1) := by decide +kernel
theorem dX4_moveOf_51 : decode cX4_moveOf 51 = .ok (.getfield 35, 3) := by decide +kernel
theorem dX4_moveOf_54 : decode cX4_moveOf 54 = .ok (.iconst 1, 1) := by decide +kernel
theorem dX4_moveOf_55 : decode cX4_moveOf 55 = .ok (.iload_n 1, 1) := by decide +kernel
theorem dX4_moveOf_56 : decode cX4_moveOf 56 = .ok (.isub, 1) := by decide +kernel
theorem dX4_moveOf_57 : decode cX4_moveOf 57 = .ok (.iconst 1, 1) := by decide +kernel
theorem dX4_moveOf_58 : decode cX4_moveOf 58 = .ok (.iand, 1) := by decide +kernel
theorem dX4_moveOf_59 : decode cX4_moveOf 59 = .ok (.iaload, 1) := by decide +kernel
theorem dX4_moveOf_60 : decode cX4_moveOf 60 = .ok (.bipush 127, 2) := by decide +kernel
theorem dX4_moveOf_62 : decode cX4_moveOf 62 = .ok (.iand, 1) := by decide +kernel
theorem dX4_moveOf_63 : decode cX4_moveOf 63 = .ok (.iconst 1, 1) := by decide +kernel
theorem dX4_moveOf_64 : decode cX4_moveOf 64 = .ok (.isub, 1) := by decide +kernel
theorem dX4_moveOf_65 : decode cX4_moveOf 65 = .ok (.bipush 60, 2) := by decide +kernel
theorem dX4_moveOf_67 : decode cX4_moveOf 67 = .ok (.isub, 1) := by decide +kernel
theorem dX4_moveOf_68 : decode cX4_moveOf 68 = .ok (.istore 8, 2) := by decide +kernel
theorem dX4_moveOf_70 : decode cX4_moveOf 70 = .ok (.aload_n 0, 1) := by decide +kernel
theorem dX4_moveOf_71 : decode cX4_moveOf 71 = .ok (.iload_n 1, 1) := by decide +kernel
theorem dX4_moveOf_72 : decode cX4_moveOf 72 = .ok (.iconst 1, 1) := by decide +kernel
theorem dX4_moveOf_73 : decode cX4_moveOf 73 = .ok (.iand, 1) := by decide +kernel
theorem dX4_moveOf_74 : decode cX4_moveOf 74 = .ok (.aload 4, 2) := by decide +kernel
theorem dX4_moveOf_76 : decode cX4_moveOf 76 = .ok (.iload 5, 2) := by decide +kernel
theorem dX4_moveOf_78 : decode cX4_moveOf 78 = .ok (.iload 8, 2) := by decide +kernel
theorem dX4_moveOf_80 : decode cX4_moveOf 80 = .ok (.invokevirtual 138, 3) := by decide +kernel
theorem dX4_moveOf_83 : decode cX4_moveOf 83 = .ok (.iload_n 3, 1) := by decide +kernel
theorem dX4_moveOf_84 : decode cX4_moveOf 84 = .ok (.invokevirtual 141, 3) := by decide +kernel
theorem dX4_moveOf_87 : decode cX4_moveOf 87 = .ok (.iconst 1, 1) := by decide +kernel
theorem dX4_moveOf_88 : decode cX4_moveOf 88 = .ok (.ireturn, 1) := by decide +kernel
theorem dX4_moveOf_89 : decode cX4_moveOf 89 = .ok (.iload 6, 2) := by decide +kernel
theorem dX4_moveOf_91 : decode cX4_moveOf 91 = .ok (.iconst 1, 1) := by decide +kernel
theorem dX4_moveOf_92 : decode cX4_moveOf 92 = .ok (.if_icmp .eq 9, 3) := by decide +kernel
theorem dX4_moveOf_95 : decode cX4_moveOf 95 = .ok (.iload 6, 2) := by decide +kernel
theorem dX4_moveOf_97 : decode cX4_moveOf 97 = .ok (.iconst 3, 1) := by decide +kernel
theorem dX4_moveOf_98 : decode cX4_moveOf 98 = .ok (.if_icmp .ne 21, 3) := by decide +kernel
theorem dX4_moveOf_101 : decode cX4_moveOf 101 = .ok (.aload_n 0, 1) := by decide +kernel
theorem dX4_moveOf_102 : decode cX4_moveOf 102 = .ok (.getfield 35, 3) := by decide +kernel
theorem dX4_moveOf_105 : decode cX4_moveOf 105 = .ok (.iload_n 1, 1) := by decide +kernel
theorem dX4_moveOf_106 : decode cX4_moveOf 106 = .ok (.iconst 1, 1) := by decide +kernel
theorem dX4_moveOf_107 : decode cX4_moveOf 107 = .ok (.iand, 1) := by decide +kernel
theorem dX4_moveOf_108 : decode cX4_moveOf 108 = .ok (.iaload, 1) := by decide +kernel
theorem dX4_moveOf_109 : decode cX4_moveOf 109 = .ok (.invokestatic 99, 3) := by decide +kernel
theorem dX4_moveOf_112 : decode cX4_moveOf 112 = .ok (.aload_n 0, 1) := by decide +kernel
theorem dX4_moveOf_113 : decode cX4_moveOf 113 = .ok (.getfield 42, 3) := by decide +kernel
theorem dX4_moveOf_116 : decode cX4_moveOf 116 = .ok (.if_icmp .lt 5, 3) := by decide +kernel
theorem dX4_moveOf_119 : decode cX4_moveOf 119 = .ok (.iconst 0, 1) := by decide +kernel
theorem dX4_moveOf_120 : decode cX4_moveOf 120 = .ok (.ireturn, 1) := by decide +kernel
theorem dX4_moveOf_121 : decode cX4_moveOf 121 = .ok (.iload 6, 2) := by decide +kernel
theorem dX4_moveOf_123 : decode cX4_moveOf 123 = .ok (.iconst 1, 1) := by decide +kernel
theorem dX4_moveOf_124 : decode cX4_moveOf 124 = .ok (.if_icmp .ne 23, 3) := by decide +kernel
theorem dX4_moveOf_127 : decode cX4_moveOf 127 = .ok (.aload_n 0, 1) := by decide +kernel
theorem dX4_moveOf_128 : decode cX4_moveOf 128 = .ok (.iload_n 1, 1) := by decide +kernel
theorem dX4_moveOf_129 : decode cX4_moveOf 129 = .ok (.iconst 1, 1) := by decide +kernel
theorem dX4_moveOf_130 : decode cX4_moveOf 130 = .ok (.iand, 1) := by decide +kernel
theorem dX4_moveOf_131 : decode cX4_moveOf 131 = .ok (.aload 4, 2) := by decide +kernel
theorem dX4_moveOf_133 : decode cX4_moveOf 133 = .ok (.iload 5, 2) := by decide +kernel
theorem dX4_moveOf_135 : decode cX4_moveOf 135 = .ok (.iconst 0, 1) := by decide +kernel
theorem dX4_moveOf_136 : decode cX4_moveOf 136 = .ok (.invokevirtual 145, 3) := by decide +kernel
theorem dX4_moveOf_139 : decode cX4_moveOf 139 = .ok (.iconst 1, 1) := by decide +kernel
theorem dX4_moveOf_140 : decode cX4_moveOf 140 = .ok (.iload 5, 2) := by decide +kernel
theorem dX4_moveOf_142 : decode cX4_moveOf 142 = .ok (.iadd, 1) := by decide +kernel
theorem dX4_moveOf_143 : decode cX4_moveOf 143 = .ok (.iload_n 3, 1) := by decide +kernel
theorem dX4_moveOf_144 : decode cX4_moveOf 144 = .ok (.invokevirtual 148, 3) := by decide +kernel
theorem dX4_moveOf_147 : decode cX4_moveOf 147 = .ok (.iconst 0, 1) := by decide +kernel
theorem dX4_moveOf_148 : decode cX4_moveOf 148 = .ok (.istore 8, 2) := by decide +kernel
theorem dX4_moveOf_150 : decode cX4_moveOf 150 = .ok (.iload 8, 2) := by decide +kernel
theorem dX4_moveOf_152 : decode cX4_moveOf 152 = .ok (.bipush 26, 2) := by decide +kernel
theorem dX4_moveOf_154 : decode cX4_moveOf 154 = .ok (.if_icmp .ge 44, 3) := by decide +kernel
theorem dX4_moveOf_157 : decode cX4_moveOf 157 = .ok (.iload 7, 2) := by decide +kernel
theorem dX4_moveOf_159 : decode cX4_moveOf 159 = .ok (.iload 8, 2) := by decide +kernel
theorem dX4_moveOf_161 : decode cX4_moveOf 161 = .ok (.ishr, 1) := by decide +kernel
theorem dX4_moveOf_162 : decode cX4_moveOf 162 = .ok (.iconst 1, 1) := by decide +kernel
theorem dX4_moveOf_163 : decode cX4_moveOf 163 = .ok (.iand, 1) := by decide +kernel
theorem dX4_moveOf_164 : decode cX4_moveOf 164 = .ok (.ifCond .ne 6, 3) := by decide +kernel
theorem dX4_moveOf_167 : decode cX4_moveOf 167 = .ok (.goto 25, 3) := by decide +kernel
theorem dX4_moveOf_170 : decode cX4_moveOf 170 = .ok (.aload_n 0, 1) := by decide +kernel
theorem dX4_moveOf_171 : decode cX4_moveOf 171 = .ok (.iload_n 1, 1) := by decide +kernel
theorem dX4_moveOf_172 : decode cX4_moveOf 172 = .ok (.iconst 1, 1) := by decide +kernel
theorem dX4_moveOf_173 : decode cX4_moveOf 173 = .ok (.iand, 1) := by decide +kernel
theorem dX4_moveOf_174 : decode cX4_moveOf 174 = .ok (.aload 4, 2) := by decide +kernel
theorem dX4_moveOf_176 : decode cX4_moveOf 176 = .ok (.iload 5, 2) := by decide +kernel
theorem dX4_moveOf_178 : decode cX4_moveOf 178 = .ok (.iload 8, 2) := by decide +kernel
theorem dX4_moveOf_180 : decode cX4_moveOf 180 = .ok (.invokevirtual 138, 3) := by decide +kernel
theorem dX4_moveOf_183 : decode cX4_moveOf 183 = .ok (.bipush 61, 2) := by decide +kernel
theorem dX4_moveOf_185 : decode cX4_moveOf 185 = .ok (.iload 8, 2) := by decide +kernel
theorem dX4_moveOf_187 : decode cX4_moveOf 187 = .ok (.iadd, 1) := by decide +kernel
theorem dX4_moveOf_188 : decode cX4_moveOf 188 = .ok (.iload_n 3, 1) := by decide +kernel
theorem dX4_moveOf_189 : decode cX4_moveOf 189 = .ok (.invokevirtual 148, 3) := by decide +kernel
theorem dX4_moveOf_192 : decode cX4_moveOf 192 = .ok (.iinc 8 1, 3) := by decide +kernel
theorem dX4_moveOf_195 : decode cX4_moveOf 195 = .ok (.goto (-45), 3) := by decide +kernel
theorem dX4_moveOf_198 : decode cX4_moveOf 198 = .ok (.iconst 1, 1) := by decide +kernel
theorem dX4_moveOf_199 : decode cX4_moveOf 199 = .ok (.ireturn, 1) := by decide +kernel
set_option maxRecDepth 20000 in
theorem ggX4_send_X4_reach : GoodIn wsX4_send wsX4_reach := goodIn_r _ [7, 8, 9, 10, 11, 12, 13, 14, 15, 16, 6, 17, 2, 1, 18, 19, 20, 21, 22, 23, 24, 25, 26, 27, 28, 29, 30, 31, 32] (by decide +kernel) (by decide +kernel)
set_option maxRecDepth 20000 in
theorem gX4_send_X4_reach : GoodIn wsX4_send (wsV RX4 54 RX4 yX4_reach wsX4_reach) := goodIn_app (goodIn_of _ (by decide +kernel)) ggX4_send_X4_reach
theorem dX4_send_0 : decode cX4_send 0 = .ok (.aload_n 0, 1) := by decide +kernel
theorem dX4_send_1 : decode cX4_send 1 = .ok (.getfield 32, 3) := by decide +kernel
theorem dX4_send_4 : decode cX4_send 4 = .ok (.iload_n 1, 1) := by decide +kernel
theorem dX4_send_5 : decode cX4_send 5 = .ok (.iconst 1, 1) := by decide +kernel
theorem dX4_send_6 : decode cX4_send 6 = .ok (.iand, 1) := by decide +kernel
theorem dX4_send_7 : decode cX4_send 7 = .ok (.iaload, 1) := by decide +kernel
theorem dX4_send_8 : decode cX4_send 8 = .ok (.istore 5, 2) := by decide +kernel
theorem dX4_send_10 : decode cX4_send 10 = .ok (.aload_n 0, 1) := by decide +kernel
theorem dX4_send_11 : decode cX4_send 11 = .ok (.getfield 35, 3) := by decide +kernel
theorem dX4_send_14 : decode cX4_send 14 = .ok (.iload_n 1, 1) := by decide +kernel
theorem dX4_send_15 : decode cX4_send 15 = .ok (.iconst 1, 1) := by decide +kernel
theorem dX4_send_16 : decode cX4_send 16 = .ok (.iand, 1) := by decide +kernel
theorem dX4_send_17 : decode cX4_send 17 = .ok (.iaload, 1) := by decide +kernel
theorem dX4_send_18 : decode cX4_send 18 = .ok (.istore 6, 2) := by decide +kernel
theorem dX4_send_20 : decode cX4_send 20 = .ok (.aload_n 0, 1) := by decide +kernel
theorem dX4_send_21 : decode cX4_send 21 = .ok (.getfield 32, 3) := by decide +kernel
theorem dX4_send_24 : decode cX4_send 24 = .ok (.iload_n 1, 1) := by decide +kernel
theorem dX4_send_25 : decode cX4_send 25 = .ok (.iconst 1, 1) := by decide +kernel
theorem dX4_send_26 : decode cX4_send 26 = .ok (.iand, 1) := by decide +kernel
theorem dX4_send_27 : decode cX4_send 27 = .ok (.iload_n 2, 1) := by decide +kernel
theorem dX4_send_28 : decode cX4_send 28 = .ok (.iastore, 1) := by decide +kernel
theorem dX4_send_29 : decode cX4_send 29 = .ok (.aload_n 0, 1) := by decide +kernel
theorem dX4_send_30 : decode cX4_send 30 = .ok (.getfield 35, 3) := by decide +kernel
theorem dX4_send_33 : decode cX4_send 33 = .ok (.iload_n 1, 1) := by decide +kernel
theorem dX4_send_34 : decode cX4_send 34 = .ok (.iconst 1, 1) := by decide +kernel
theorem dX4_send_35 : decode cX4_send 35 = .ok (.iand, 1) := by decide +kernel
theorem dX4_send_36 : decode cX4_send 36 = .ok (.iload 6, 2) := by decide +kernel
theorem dX4_send_38 : decode cX4_send 38 = .ok (.ifCond .ne 7, 3) := by decide +kernel
theorem dX4_send_41 : decode cX4_send 41 = .ok (.iload_n 3, 1) := by decide +kernel
theorem dX4_send_42 : decode cX4_send 42 = .ok (.goto 10, 3) := by decide +kernel
theorem dX4_send_45 : decode cX4_send 45 = .ok (.iload 6, 2) := by decide +kernel
theorem dX4_send_47 : decode cX4_send 47 = .ok (.iload_n 3, 1) := by decide +kernel
theorem dX4_send_48 : decode cX4_send 48 = .ok (.bipush 7, 2) := by decide +kernel
theorem dX4_send_50 : decode cX4_send 50 = .ok (.ishl, 1) := by decide +kernel
theorem dX4_send_51 : decode cX4_send 51 = .ok (.ior, 1) := by decide +kernel
theorem dX4_send_52 : decode cX4_send 52 = .ok (.iastore, 1) := by decide +kernel
theorem dX4_send_53 : decode cX4_send 53 = .ok (.aload_n 0, 1) := by decide +kernel
theorem dX4_send_54 : decode cX4_send 54 = .ok (.iload 4, 2) := by decide +kernel
theorem dX4_send_56 : decode cX4_send 56 = .ok (.iconst 1, 1) := by decide +kernel
theorem dX4_send_57 : decode cX4_send 57 = .ok (.iadd, 1) := by decide +kernel
theorem dX4_send_58 : decode cX4_send 58 = .ok (.invokevirtual 54, 3) := by decide +kernel
theorem dX4_send_61 : decode cX4_send 61 = .ok (.aload_n 0, 1) := by decide +kernel
theorem dX4_send_62 : decode cX4_send 62 = .ok (.getfield 32, 3) := by decide +kernel
theorem dX4_send_65 : decode cX4_send 65 = .ok (.iload_n 1, 1) := by decide +kernel
theorem dX4_send_66 : decode cX4_send 66 = .ok (.iconst 1, 1) := by decide +kernel
theorem dX4_send_67 : decode cX4_send 67 = .ok (.iand, 1) := by decide +kernel
theorem dX4_send_68 : decode cX4_send 68 = .ok (.iload 5, 2) := by decide +kernel
theorem dX4_send_70 : decode cX4_send 70 = .ok (.iastore, 1) := by decide +kernel
theorem dX4_send_71 : decode cX4_send 71 = .ok (.aload_n 0, 1) := by decide +kernel
theorem dX4_send_72 : decode cX4_send 72 = .ok (.getfield 35, 3) := by decide +kernel
theorem dX4_send_75 : decode cX4_send 75 = .ok (.iload_n 1, 1) := by decide +kernel
theorem dX4_send_76 : decode cX4_send 76 = .ok (.iconst 1, 1) := by decide +kernel
theorem dX4_send_77 : decode cX4_send 77 = .ok (.iand, 1) := by decide +kernel
theorem dX4_send_78 : decode cX4_send 78 = .ok (.iload 6, 2) := by decide +kernel
theorem dX4_send_80 : decode cX4_send 80 = .ok (.iastore, 1) := by decide +kernel
theorem dX4_send_81 : decode cX4_send 81 = .ok (.return_, 1) := by decide +kernel
set_option maxRecDepth 20000 in
theorem ggX4_draw_X4_reach : GoodIn wsX4_draw wsX4_reach := goodIn_r _ [7, 8, 9, 10, 11, 12, 13, 14, 15, 16, 6, 17, 2, 1, 18, 19, 20, 21, 22, 23, 24, 25, 26, 27, 28, 29, 30, 31, 32] (by decide +kernel) (by decide +kernel)
set_option maxRecDepth 20000 in
theorem gX4_draw_X4_reach : GoodIn wsX4_draw (wsV RX4 54 RX4 yX4_reach wsX4_reach) := goodIn_app (goodIn_of _ (by decide +kernel)) ggX4_draw_X4_reach
theorem dX4_draw_0 : decode cX4_draw 0 = .ok (.iconst 1, 1) := by decide +kernel
theorem dX4_draw_1 : decode cX4_draw 1 = .ok (.iload_n 1, 1) := by decide +kernel
theorem dX4_draw_2 : decode cX4_draw 2 = .ok (.isub, 1) := by decide +kernel
theorem dX4_draw_3 : decode cX4_draw 3 = .ok (.iconst 1, 1) := by decide +kernel
theorem dX4_draw_4 : decode cX4_draw 4 = .ok (.iand, 1) := by decide +kernel
theorem dX4_draw_5 : decode cX4_draw 5 = .ok (.istore 4, 2) := by decide +kernel
theorem dX4_draw_7 : decode cX4_draw 7 = .ok (.aload_n 0, 1) := by decide +kernel
theorem dX4_draw_8 : decode cX4_draw 8 = .ok (.getfield 32, 3) := by decide +kernel
theorem dX4_draw_11 : decode cX4_draw 11 = .ok (.iload_n 1, 1) := by decide +kernel
theorem dX4_draw_12 : decode cX4_draw 12 = .ok (.iconst 1, 1) := by decide +kernel
theorem dX4_draw_13 : decode cX4_draw 13 = .ok (.iand, 1) := by decide +kernel
theorem dX4_draw_14 : decode cX4_draw 14 = .ok (.iaload, 1) := by decide +kernel
theorem dX4_draw_15 : decode cX4_draw 15 = .ok (.istore 5, 2) := by decide +kernel
theorem dX4_draw_17 : decode cX4_draw 17 = .ok (.aload_n 0, 1) := by decide +kernel
theorem dX4_draw_18 : decode cX4_draw 18 = .ok (.getfield 35, 3) := by decide +kernel
theorem dX4_draw_21 : decode cX4_draw 21 = .ok (.iload 4, 2) := by decide +kernel
theorem dX4_draw_23 : decode cX4_draw 23 = .ok (.iaload, 1) := by decide +kernel
theorem dX4_draw_24 : decode cX4_draw 24 = .ok (.istore 6, 2) := by decide +kernel
theorem dX4_draw_26 : decode cX4_draw 26 = .ok (.aload_n 0, 1) := by decide +kernel
theorem dX4_draw_27 : decode cX4_draw 27 = .ok (.getfield 32, 3) := by decide +kernel
theorem dX4_draw_30 : decode cX4_draw 30 = .ok (.iload_n 1, 1) := by decide +kernel
theorem dX4_draw_31 : decode cX4_draw 31 = .ok (.iconst 1, 1) := by decide +kernel
theorem dX4_draw_32 : decode cX4_draw 32 = .ok (.iand, 1) := by decide +kernel
theorem dX4_draw_33 : decode cX4_draw 33 = .ok (.iload_n 2, 1) := by decide +kernel
theorem dX4_draw_34 : decode cX4_draw 34 = .ok (.iastore, 1) := by decide +kernel
theorem dX4_draw_35 : decode cX4_draw 35 = .ok (.aload_n 0, 1) := by decide +kernel
theorem dX4_draw_36 : decode cX4_draw 36 = .ok (.getfield 35, 3) := by decide +kernel
theorem dX4_draw_39 : decode cX4_draw 39 = .ok (.iload 4, 2) := by decide +kernel
theorem dX4_draw_41 : decode cX4_draw 41 = .ok (.iload 6, 2) := by decide +kernel
theorem dX4_draw_43 : decode cX4_draw 43 = .ok (.bipush 7, 2) := by decide +kernel
theorem dX4_draw_45 : decode cX4_draw 45 = .ok (.ishr, 1) := by decide +kernel
theorem dX4_draw_46 : decode cX4_draw 46 = .ok (.iastore, 1) := by decide +kernel
theorem dX4_draw_47 : decode cX4_draw 47 = .ok (.aload_n 0, 1) := by decide +kernel
theorem dX4_draw_48 : decode cX4_draw 48 = .ok (.iload_n 3, 1) := by decide +kernel
theorem dX4_draw_49 : decode cX4_draw 49 = .ok (.iconst 1, 1) := by decide +kernel
theorem dX4_draw_50 : decode cX4_draw 50 = .ok (.iadd, 1) := by decide +kernel
theorem dX4_draw_51 : decode cX4_draw 51 = .ok (.invokevirtual 54, 3) := by decide +kernel
theorem dX4_draw_54 : decode cX4_draw 54 = .ok (.aload_n 0, 1) := by decide +kernel
theorem dX4_draw_55 : decode cX4_draw 55 = .ok (.getfield 32, 3) := by decide +kernel
theorem dX4_draw_58 : decode cX4_draw 58 = .ok (.iload_n 1, 1) := by decide +kernel
theorem dX4_draw_59 : decode cX4_draw 59 = .ok (.iconst 1, 1) := by decide +kernel
theorem dX4_draw_60 : decode cX4_draw 60 = .ok (.iand, 1) := by decide +kernel
theorem dX4_draw_61 : decode cX4_draw 61 = .ok (.iload 5, 2) := by decide +kernel
theorem dX4_draw_63 : decode cX4_draw 63 = .ok (.iastore, 1) := by decide +kernel
theorem dX4_draw_64 : decode cX4_draw 64 = .ok (.aload_n 0, 1) := by decide +kernel
theorem dX4_draw_65 : decode cX4_draw 65 = .ok (.getfield 35, 3) := by decide +kernel
theorem dX4_draw_68 : decode cX4_draw 68 = .ok (.iload 4, 2) := by decide +kernel
theorem dX4_draw_70 : decode cX4_draw 70 = .ok (.iload 6, 2) := by decide +kernel
theorem dX4_draw_72 : decode cX4_draw 72 = .ok (.iastore, 1) := by decide +kernel
theorem dX4_draw_73 : decode cX4_draw 73 = .ok (.return_, 1) := by decide +kernel
theorem dX5_init_0 : decode cX5_init 0 = .ok (.aload_n 0, 1) := by decide +kernel
theorem dX5_init_1 : decode cX5_init 1 = .ok (.invokespecial 3, 3) := by decide +kernel
theorem dX5_init_4 : decode cX5_init 4 = .ok (.aload_n 0, 1) := by decide +kernel
theorem dX5_init_5 : decode cX5_init 5 = .ok (.bipush 24, 2) := by decide +kernel
theorem dX5_init_7 : decode cX5_init 7 = .ok (.newarray .int, 2) := by decide +kernel
theorem dX5_init_9 : decode cX5_init 9 = .ok (.putfield 9, 3) := by decide +kernel
theorem dX5_init_12 : decode cX5_init 12 = .ok (.aload_n 0, 1) := by decide +kernel
theorem dX5_init_13 : decode cX5_init 13 = .ok (.bipush 24, 2) := by decide +kernel
theorem dX5_init_15 : decode cX5_init 15 = .ok (.newarray .int, 2) := by decide +kernel
theorem dX5_init_17 : decode cX5_init 17 = .ok (.putfield 15, 3) := by decide +kernel
theorem dX5_init_20 : decode cX5_init 20 = .ok (.aload_n 0, 1) := by decide +kernel
theorem dX5_init_21 : decode cX5_init 21 = .ok (.bipush 24, 2) := by decide +kernel
theorem dX5_init_23 : decode cX5_init 23 = .ok (.newarray .int, 2) := by decide +kernel
theorem dX5_init_25 : decode cX5_init 25 = .ok (.putfield 18, 3) := by decide +kernel
theorem dX5_init_28 : decode cX5_init 28 = .ok (.return_, 1) := by decide +kernel
set_option maxRecDepth 20000 in
theorem ggX6_init_X5_init : GoodIn wsX6_init wsX5_init := goodIn_r _ [11, 12, 2, 3, 8, 13, 14, 15, 16, 17, 18, 19, 20] (by decide +kernel) (by decide +kernel)
set_option maxRecDepth 20000 in
theorem gX6_init_X5_init_n11 : GoodIn wsX6_init (wsX5_init) := ggX6_init_X5_init
theorem dX6_init_0 : decode cX6_init 0 = .ok (.aload_n 0, 1) := by decide +kernel
theorem dX6_init_1 : decode cX6_init 1 = .ok (.invokespecial 3, 3) := by decide +kernel
theorem dX6_init_4 : decode cX6_init 4 = .ok (.aload_n 0, 1) := by decide +kernel
theorem dX6_init_5 : decode cX6_init 5 = .ok (.new 9, 3) := by decide +kernel
theorem dX6_init_8 : decode cX6_init 8 = .ok (.dup, 1) := by decide +kernel
theorem dX6_init_9 : decode cX6_init 9 = .ok (.invokespecial 11, 3) := by decide +kernel
theorem dX6_init_12 : decode cX6_init 12 = .ok (.putfield 12, 3) := by decide +kernel
theorem dX6_init_15 : decode cX6_init 15 = .ok (.aload_n 0, 1) := by decide +kernel
theorem dX6_init_16 : decode cX6_init 16 = .ok (.iconst 0, 1) := by decide +kernel
theorem dX6_init_17 : decode cX6_init 17 = .ok (.newarray .int, 2) := by decide +kernel
theorem dX6_init_19 : decode cX6_init 19 = .ok (.putfield 18, 3) := by decide +kernel
theorem dX6_init_22 : decode cX6_init 22 = .ok (.return_, 1) := by decide +kernel
theorem dX7_init_0 : decode cX7_init 0 = .ok (.aload_n 0, 1) := by decide +kernel
theorem dX7_init_1 : decode cX7_init 1 = .ok (.invokespecial 3, 3) := by decide +kernel
theorem dX7_init_4 : decode cX7_init 4 = .ok (.aload_n 0, 1) := by decide +kernel
theorem dX7_init_5 : decode cX7_init 5 = .ok (.bipush 60, 2) := by decide +kernel
theorem dX7_init_7 : decode cX7_init 7 = .ok (.newarray .int, 2) := by decide +kernel
theorem dX7_init_9 : decode cX7_init 9 = .ok (.putfield 9, 3) := by decide +kernel
theorem dX7_init_12 : decode cX7_init 12 = .ok (.aload_n 0, 1) := by decide +kernel
theorem dX7_init_13 : decode cX7_init 13 = .ok (.bipush 60, 2) := by decide +kernel
theorem dX7_init_15 : decode cX7_init 15 = .ok (.newarray .int, 2) := by decide +kernel
theorem dX7_init_17 : decode cX7_init 17 = .ok (.putfield 15, 3) := by decide +kernel
theorem dX7_init_20 : decode cX7_init 20 = .ok (.aload_n 0, 1) := by decide +kernel
theorem dX7_init_21 : decode cX7_init 21 = .ok (.bipush 60, 2) := by decide +kernel
theorem dX7_init_23 : decode cX7_init 23 = .ok (.newarray .int, 2) := by decide +kernel
theorem dX7_init_25 : decode cX7_init 25 = .ok (.putfield 18, 3) := by decide +kernel
theorem dX7_init_28 : decode cX7_init 28 = .ok (.aload_n 0, 1) := by decide +kernel
theorem dX7_init_29 : decode cX7_init 29 = .ok (.bipush 60, 2) := by decide +kernel
theorem dX7_init_31 : decode cX7_init 31 = .ok (.newarray .int, 2) := by decide +kernel
theorem dX7_init_33 : decode cX7_init 33 = .ok (.putfield 21, 3) := by decide +kernel
theorem dX7_init_36 : decode cX7_init 36 = .ok (.aload_n 0, 1) := by decide +kernel
theorem dX7_init_37 : decode cX7_init 37 = .ok (.bipush 60, 2) := by decide +kernel
theorem dX7_init_39 : decode cX7_init 39 = .ok (.newarray .int, 2) := by decide +kernel
theorem dX7_init_41 : decode cX7_init 41 = .ok (.putfield 24, 3) := by decide +kernel
theorem dX7_init_44 : decode cX7_init 44 = .ok (.aload_n 0, 1) := by decide +kernel
theorem dX7_init_45 : decode cX7_init 45 = .ok (.bipush 60, 2) := by decide +kernel
theorem dX7_init_47 : decode cX7_init 47 = .ok (.newarray .int, 2) := by decide +kernel
theorem dX7_init_49 : decode cX7_init 49 = .ok (.putfield 27, 3) := by decide +kernel
theorem dX7_init_52 : decode cX7_init 52 = .ok (.aload_n 0, 1) := by decide +kernel
theorem dX7_init_53 : decode cX7_init 53 = .ok (.sipush 360, 3) := by decide +kernel
theorem dX7_init_56 : decode cX7_init 56 = .ok (.newarray .int, 2) := by decide +kernel
theorem dX7_init_58 : decode cX7_init 58 = .ok (.putfield 30, 3) := by decide +kernel
theorem dX7_init_61 : decode cX7_init 61 = .ok (.aload_n 0, 1) := by decide +kernel
theorem dX7_init_62 : decode cX7_init 62 = .ok (.bipush 60, 2) := by decide +kernel
theorem dX7_init_64 : decode cX7_init 64 = .ok (.newarray .int, 2) := by decide +kernel
theorem dX7_init_66 : decode cX7_init 66 = .ok (.putfield 33, 3) := by decide +kernel
theorem dX7_init_69 : decode cX7_init 69 = .ok (.return_, 1) := by decide +kernel
set_option maxRecDepth 20000 in
theorem ggX7_init__J7_copyOf_59c91 : GoodIn wsX7_init_ wsJ7_copyOf_59c91 := goodIn_r _ [16, 17, 18, 19, 20, 21, 22, 23, 24, 25, 26, 27, 28, 29, 30, 31] (by decide +kernel) (by decide +kernel)
set_option maxRecDepth 20000 in
theorem gX7_init__J7_copyOf_59c91 : GoodIn wsX7_init_ (va_wsS RX7 40 yJ7_copyOf_59c91 wsJ7_copyOf_59c91) := goodIn_app (goodIn_of _ (by decide +kernel)) ggX7_init__J7_copyOf_59c91
theorem dX7_init__0 : decode cX7_init_ 0 = .ok (.aload_n 0, 1) := by decide +kernel
theorem dX7_init__1 : decode cX7_init_ 1 = .ok (.invokespecial 3, 3) := by decide +kernel
theorem dX7_init__4 : decode cX7_init_ 4 = .ok (.aload_n 1, 1) := by decide +kernel
theorem dX7_init__5 : decode cX7_init_ 5 = .ok (.getfield 36, 3) := by decide +kernel
theorem dX7_init__8 : decode cX7_init_ 8 = .ok (.ifCond .ge 7, 3) := by decide +kernel
theorem dX7_init__11 : decode cX7_init_ 11 = .ok (.iconst 0, 1) := by decide +kernel
theorem dX7_init__12 : decode cX7_init_ 12 = .ok (.goto 21, 3) := by decide +kernel
theorem dX7_init__15 : decode cX7_init_ 15 = .ok (.aload_n 1, 1) := by decide +kernel
theorem dX7_init__16 : decode cX7_init_ 16 = .ok (.getfield 36, 3) := by decide +kernel
theorem dX7_init__19 : decode cX7_init_ 19 = .ok (.bipush 60, 2) := by decide +kernel
theorem dX7_init__21 : decode cX7_init_ 21 = .ok (.if_icmp .le 8, 3) := by decide +kernel
theorem dX7_init__24 : decode cX7_init_ 24 = .ok (.bipush 60, 2) := by decide +kernel
theorem dX7_init__26 : decode cX7_init_ 26 = .ok (.goto 7, 3) := by decide +kernel
theorem dX7_init__29 : decode cX7_init_ 29 = .ok (.aload_n 1, 1) := by decide +kernel
theorem dX7_init__30 : decode cX7_init_ 30 = .ok (.getfield 36, 3) := by decide +kernel
theorem dX7_init__33 : decode cX7_init_ 33 = .ok (.istore_n 2, 1) := by decide +kernel
theorem dX7_init__34 : decode cX7_init_ 34 = .ok (.aload_n 0, 1) := by decide +kernel
theorem dX7_init__35 : decode cX7_init_ 35 = .ok (.iload_n 2, 1) := by decide +kernel
theorem dX7_init__36 : decode cX7_init_ 36 = .ok (.putfield 36, 3) := by decide +kernel
theorem dX7_init__39 : decode cX7_init_ 39 = .ok (.aload_n 0, 1) := by decide +kernel
theorem dX7_init__40 : decode cX7_init_ 40 = .ok (.aload_n 1, 1) := by decide +kernel
theorem dX7_init__41 : decode cX7_init_ 41 = .ok (.getfield 9, 3) := by decide +kernel
theorem dX7_init__44 : decode cX7_init_ 44 = .ok (.iload_n 2, 1) := by decide +kernel
theorem dX7_init__45 : decode cX7_init_ 45 = .ok (.invokestatic 40, 3) := by decide +kernel
theorem dX7_init__48 : decode cX7_init_ 48 = .ok (.putfield 9, 3) := by decide +kernel
theorem dX7_init__51 : decode cX7_init_ 51 = .ok (.aload_n 0, 1) := by decide +kernel
theorem dX7_init__52 : decode cX7_init_ 52 = .ok (.aload_n 1, 1) := by decide +kernel
theorem dX7_init__53 : decode cX7_init_ 53 = .ok (.getfield 15, 3) := by decide +kernel
theorem dX7_init__56 : decode cX7_init_ 56 = .ok (.iload_n 2, 1) := by decide +kernel
theorem dX7_init__57 : decode cX7_init_ 57 = .ok (.invokestatic 40, 3) := by decide +kernel
theorem dX7_init__60 : decode cX7_init_ 60 = .ok (.putfield 15, 3) := by decide +kernel
theorem dX7_init__63 : decode cX7_init_ 63 = .ok (.aload_n 0, 1) := by decide +kernel
theorem dX7_init__64 : decode cX7_init_ 64 = .ok (.aload_n 1, 1) := by decide +kernel
theorem dX7_init__65 : decode cX7_init_ 65 = .ok (.getfield 18, 3) := by decide +kernel
theorem dX7_init__68 : decode cX7_init_ 68 = .ok (.iload_n 2, 1) := by decide +kernel
theorem dX7_init__69 : decode cX7_init_ 69 = .ok (.invokestatic 40, 3) := by decide +kernel
theorem dX7_init__72 : decode cX7_init_ 72 = .ok (.putfield 18, 3) := by decide +kernel
theorem dX7_init__75 : decode cX7_init_ 75 = .ok (.aload_n 0, 1) := by decide +kernel
theorem dX7_init__76 : decode cX7_init_ 76 = .ok (.aload_n 1, 1) := by decide +kernel
theorem dX7_init__77 : decode cX7_init_ 77 = .ok (.getfield 21, 3) := by decide +kernel
theorem dX7_init__80 : decode cX7_init_ 80 = .ok (.iload_n 2, 1) := by decide +kernel
theorem dX7_init__81 : decode cX7_init_ 81 = .ok (.invokestatic 40, 3) := by decide +kernel
theorem dX7_init__84 : decode cX7_init_ 84 = .ok (.putfield 21, 3) := by decide +kernel
theorem dX7_init__87 : decode cX7_init_ 87 = .ok (.aload_n 0, 1) := by decide +kernel
theorem dX7_init__88 : decode cX7_init_ 88 = .ok (.aload_n 1, 1) := by decide +kernel
theorem dX7_init__89 : decode cX7_init_ 89 = .ok (.getfield 24, 3) := by decide +kernel
theorem dX7_init__92 : decode cX7_init_ 92 = .ok (.iload_n 2, 1) := by decide +kernel
theorem dX7_init__93 : decode cX7_init_ 93 = .ok (.invokestatic 40, 3) := by decide +kernel
theorem dX7_init__96 : decode cX7_init_ 96 = .ok (.putfield 24, 3) := by decide +kernel
theorem dX7_init__99 : decode cX7_init_ 99 = .ok (.aload_n 0, 1) := by decide +kernel
theorem dX7_init__100 : decode cX7_init_ 100 = .ok (.aload_n 1, 1) := by decide +kernel
theorem dX7_init__101 : decode cX7_init_ 101 = .ok (.getfield 27, 3) := by decide +kernel
theorem dX7_init__104 : decode cX7_init_ 104 = .ok (.iload_n 2, 1) := by decide +kernel
theorem dX7_init__105 : decode cX7_init_ 105 = .ok (.invokestatic 40, 3) := by decide +kernel
theorem dX7_init__108 : decode cX7_init_ 108 = .ok (.putfield 27, 3) := by decide +kernel
theorem dX7_init__111 : decode cX7_init_ 111 = .ok (.aload_n 0, 1) := by decide +kernel
theorem dX7_init__112 : decode cX7_init_ 112 = .ok (.aload_n 1, 1) := by decide +kernel
theorem dX7_init__113 : decode cX7_init_ 113 = .ok (.getfield 30, 3) := by decide +kernel
theorem dX7_init__116 : decode cX7_init_ 116 = .ok (.iload_n 2, 1) := by decide +kernel
theorem dX7_init__117 : decode cX7_init_ 117 = .ok (.bipush 6, 2) := by decide +kernel
theorem dX7_init__119 : decode cX7_init_ 119 = .ok (.imul, 1) := by decide +kernel
theorem dX7_init__120 : decode cX7_init_ 120 = .ok (.invokestatic 40, 3) := by decide +kernel
theorem dX7_init__123 : decode cX7_init_ 123 = .ok (.putfield 30, 3) := by decide +kernel
theorem dX7_init__126 : decode cX7_init_ 126 = .ok (.aload_n 0, 1) := by decide +kernel
theorem dX7_init__127 : decode cX7_init_ 127 = .ok (.aload_n 1, 1) := by decide +kernel
theorem dX7_init__128 : decode cX7_init_ 128 = .ok (.getfield 33, 3) := by decide +kernel
theorem dX7_init__131 : decode cX7_init_ 131 = .ok (.iload_n 2, 1) := by decide +kernel
theorem dX7_init__132 : decode cX7_init_ 132 = .ok (.invokestatic 40, 3) := by decide +kernel
theorem dX7_init__135 : decode cX7_init_ 135 = .ok (.putfield 33, 3) := by decide +kernel
theorem dX7_init__138 : decode cX7_init_ 138 = .ok (.return_, 1) := by decide +kernel
set_option maxRecDepth 20000 in
theorem ggX7_turned_X7_init_ : GoodIn wsX7_turned wsX7_init_ := goodIn_r _ [8, 9, 10, 11, 12, 4, 13, 14, 15, 5, 16, 17, 18, 19, 20, 21, 22, 23, 24, 25, 26, 27, 28, 29, 30, 31, 32, 33, 34, 35, 36, 37, 41, 42, 43, 44, 45, 46, 47, 48, 49] (by decide +kernel) (by decide +kernel)
set_option maxRecDepth 20000 in
theorem gX7_turned_X7_init_ : GoodIn wsX7_turned (wsX7_init_) := ggX7_turned_X7_init_
set_option maxRecDepth 20000 in
theorem ggX7_turned_X7_turnedKind : GoodIn wsX7_turned wsX7_turnedKind := goodIn_r _ [40] (by decide +kernel) (by decide +kernel)
set_option maxRecDepth 20000 in
theorem gX7_turned_X7_turnedKind : GoodIn wsX7_turned (va_wsS RX7 49 yX7_turnedKind wsX7_turnedKind) := goodIn_app (goodIn_of _ (by decide +kernel)) ggX7_turned_X7_turnedKind
theorem dX7_turned_0 : decode cX7_turned 0 = .ok (.new 10, 3) := by decide +kernel
theorem dX7_turned_3 : decode cX7_turned 3 = .ok (.dup, 1) := by decide +kernel
theorem dX7_turned_4 : decode cX7_turned 4 = .ok (.aload_n 0, 1) := by decide +kernel
theorem dX7_turned_5 : decode cX7_turned 5 = .ok (.invokespecial 46, 3) := by decide +kernel
theorem dX7_turned_8 : decode cX7_turned 8 = .ok (.astore_n 1, 1) := by decide +kernel
theorem dX7_turned_9 : decode cX7_turned 9 = .ok (.iconst 0, 1) := by decide +kernel
theorem dX7_turned_10 : decode cX7_turned 10 = .ok (.istore_n 2, 1) := by decide +kernel
theorem dX7_turned_11 : decode cX7_turned 11 = .ok (.iload_n 2, 1) := by decide +kernel
theorem dX7_turned_12 : decode cX7_turned 12 = .ok (.aload_n 1, 1) := by decide +kernel
theorem dX7_turned_13 : decode cX7_turned 13 = .ok (.getfield 9, 3) := by decide +kernel
theorem dX7_turned_16 : decode cX7_turned 16 = .ok (.arraylength, 1) := by decide +kernel
theorem dX7_turned_17 : decode cX7_turned 17 = .ok (.if_icmp .ge 42, 3) := by decide +kernel
theorem dX7_turned_20 : decode cX7_turned 20 = .ok (.iload_n 2, 1) := by decide +kernel
theorem dX7_turned_21 : decode cX7_turned 21 = .ok (.aload_n 1, 1) := by decide +kernel
theorem dX7_turned_22 : decode cX7_turned 22 = .ok (.getfield 24, 3) := by decide +kernel
theorem dX7_turned_25 : decode cX7_turned 25 = .ok (.arraylength, 1) := by decide +kernel
theorem dX7_turned_26 : decode cX7_turned 26 = .ok (.if_icmp .ge 33, 3) := by decide +kernel
theorem dX7_turned_29 : decode cX7_turned 29 = .ok (.aload_n 1, 1) := by decide +kernel
theorem dX7_turned_30 : decode cX7_turned 30 = .ok (.getfield 24, 3) := by decide +kernel
theorem dX7_turned_33 : decode cX7_turned 33 = .ok (.iload_n 2, 1) := by decide +kernel
theorem dX7_turned_34 : decode cX7_turned 34 = .ok (.iaload, 1) := by decide +kernel
theorem dX7_turned_35 : decode cX7_turned 35 = .ok (.ifCond .ne 18, 3) := by decide +kernel
theorem dX7_turned_38 : decode cX7_turned 38 = .ok (.aload_n 1, 1) := by decide +kernel
theorem dX7_turned_39 : decode cX7_turned 39 = .ok (.getfield 9, 3) := by decide +kernel
theorem dX7_turned_42 : decode cX7_turned 42 = .ok (.iload_n 2, 1) := by decide +kernel
theorem dX7_turned_43 : decode cX7_turned 43 = .ok (.aload_n 1, 1) := by decide +kernel
theorem dX7_turned_44 : decode cX7_turned 44 = .ok (.getfield 9, 3) := by decide +kernel
theorem dX7_turned_47 : decode cX7_turned 47 = .ok (.iload_n 2, 1) := by decide +kernel
theorem dX7_turned_48 : decode cX7_turned 48 = .ok (.iaload, 1) := by decide +kernel
theorem dX7_turned_49 : decode cX7_turned 49 = .ok (.invokestatic 49, 3) := by decide +kernel
theorem dX7_turned_52 : decode cX7_turned 52 = .ok (.iastore, 1) := by decide +kernel
theorem dX7_turned_53 : decode cX7_turned 53 = .ok (.iinc 2 1, 3) := by decide +kernel
theorem dX7_turned_56 : decode cX7_turned 56 = .ok (.goto (-45), 3) := by decide +kernel
theorem dX7_turned_59 : decode cX7_turned 59 = .ok (.aload_n 1, 1) := by decide +kernel
theorem dX7_turned_60 : decode cX7_turned 60 = .ok (.areturn, 1) := by decide +kernel
theorem dX7_turnedKind_0 : decode cX7_turnedKind 0 = .ok (.iload_n 0, 1) := by decide +kernel
theorem dX7_turnedKind_1 : decode cX7_turnedKind 1 = .ok (.tableswitch 39 1 4 #[31, 33, 35, 37], 31) := by decide +kernel
theorem dX7_turnedKind_32 : decode cX7_turnedKind 32 = .ok (.iconst 2, 1) := by decide +kernel
theorem dX7_turnedKind_33 : decode cX7_turnedKind 33 = .ok (.ireturn, 1) := by decide +kernel
theorem dX7_turnedKind_34 : decode cX7_turnedKind 34 = .ok (.iconst 1, 1) := by decide +kernel
theorem dX7_turnedKind_35 : decode cX7_turnedKind 35 = .ok (.ireturn, 1) := by decide +kernel
theorem dX7_turnedKind_36 : decode cX7_turnedKind 36 = .ok (.iconst 4, 1) := by decide +kernel
theorem dX7_turnedKind_37 : decode cX7_turnedKind 37 = .ok (.ireturn, 1) := by decide +kernel
theorem dX7_turnedKind_38 : decode cX7_turnedKind 38 = .ok (.iconst 3, 1) := by decide +kernel
theorem dX7_turnedKind_39 : decode cX7_turnedKind 39 = .ok (.ireturn, 1) := by decide +kernel
theorem dX7_turnedKind_40 : decode cX7_turnedKind 40 = .ok (.iload_n 0, 1) := by decide +kernel
theorem dX7_turnedKind_41 : decode cX7_turnedKind 41 = .ok (.ireturn, 1) := by decide +kernel
theorem dX7_kindOf_0 : decode cX7_kindOf 0 = .ok (.iload_n 1, 1) := by decide +kernel
theorem dX7_kindOf_1 : decode cX7_kindOf 1 = .ok (.ifCond .lt 21, 3) := by decide +kernel
theorem dX7_kindOf_4 : decode cX7_kindOf 4 = .ok (.iload_n 1, 1) := by decide +kernel
theorem dX7_kindOf_5 : decode cX7_kindOf 5 = .ok (.aload_n 0, 1) := by decide +kernel
theorem dX7_kindOf_6 : decode cX7_kindOf 6 = .ok (.getfield 9, 3) := by decide +kernel
theorem dX7_kindOf_9 : decode cX7_kindOf 9 = .ok (.arraylength, 1) := by decide +kernel
theorem dX7_kindOf_10 : decode cX7_kindOf 10 = .ok (.if_icmp .ge 12, 3) := by decide +kernel
theorem dX7_kindOf_13 : decode cX7_kindOf 13 = .ok (.aload_n 0, 1) := by decide +kernel
theorem dX7_kindOf_14 : decode cX7_kindOf 14 = .ok (.getfield 9, 3) := by decide +kernel
theorem dX7_kindOf_17 : decode cX7_kindOf 17 = .ok (.iload_n 1, 1) := by decide +kernel
theorem dX7_kindOf_18 : decode cX7_kindOf 18 = .ok (.iaload, 1) := by decide +kernel
theorem dX7_kindOf_19 : decode cX7_kindOf 19 = .ok (.goto 4, 3) := by decide +kernel
theorem dX7_kindOf_22 : decode cX7_kindOf 22 = .ok (.iconst 0, 1) := by decide +kernel
theorem dX7_kindOf_23 : decode cX7_kindOf 23 = .ok (.ireturn, 1) := by decide +kernel
theorem dX7_sortOf_0 : decode cX7_sortOf 0 = .ok (.iload_n 1, 1) := by decide +kernel
theorem dX7_sortOf_1 : decode cX7_sortOf 1 = .ok (.ifCond .lt 21, 3) := by decide +kernel
theorem dX7_sortOf_4 : decode cX7_sortOf 4 = .ok (.iload_n 1, 1) := by decide +kernel
theorem dX7_sortOf_5 : decode cX7_sortOf 5 = .ok (.aload_n 0, 1) := by decide +kernel
theorem dX7_sortOf_6 : decode cX7_sortOf 6 = .ok (.getfield 15, 3) := by decide +kernel
theorem dX7_sortOf_9 : decode cX7_sortOf 9 = .ok (.arraylength, 1) := by decide +kernel
theorem dX7_sortOf_10 : decode cX7_sortOf 10 = .ok (.if_icmp .ge 12, 3) := by decide +kernel
theorem dX7_sortOf_13 : decode cX7_sortOf 13 = .ok (.aload_n 0, 1) := by decide +kernel
theorem dX7_sortOf_14 : decode cX7_sortOf 14 = .ok (.getfield 15, 3) := by decide +kernel
theorem dX7_sortOf_17 : decode cX7_sortOf 17 = .ok (.iload_n 1, 1) := by decide +kernel
theorem dX7_sortOf_18 : decode cX7_sortOf 18 = .ok (.iaload, 1) := by decide +kernel
theorem dX7_sortOf_19 : decode cX7_sortOf 19 = .ok (.goto 4, 3) := by decide +kernel
theorem dX7_sortOf_22 : decode cX7_sortOf 22 = .ok (.iconst 0, 1) := by decide +kernel
theorem dX7_sortOf_23 : decode cX7_sortOf 23 = .ok (.ireturn, 1) := by decide +kernel
theorem dX7_letterOf_0 : decode cX7_letterOf 0 = .ok (.iload_n 1, 1) := by decide +kernel
theorem dX7_letterOf_1 : decode cX7_letterOf 1 = .ok (.ifCond .lt 21, 3) := by decide +kernel
theorem dX7_letterOf_4 : decode cX7_letterOf 4 = .ok (.iload_n 1, 1) := by decide +kernel
theorem dX7_letterOf_5 : decode cX7_letterOf 5 = .ok (.aload_n 0, 1) := by decide +kernel
theorem dX7_letterOf_6 : decode cX7_letterOf 6 = .ok (.getfield 18, 3) := by decide +kernel
theorem dX7_letterOf_9 : decode cX7_letterOf 9 = .ok (.arraylength, 1) := by decide +kernel
theorem dX7_letterOf_10 : decode cX7_letterOf 10 = .ok (.if_icmp .ge 12, 3) := by decide +kernel
theorem dX7_letterOf_13 : decode cX7_letterOf 13 = .ok (.aload_n 0, 1) := by decide +kernel
theorem dX7_letterOf_14 : decode cX7_letterOf 14 = .ok (.getfield 18, 3) := by decide +kernel
theorem dX7_letterOf_17 : decode cX7_letterOf 17 = .ok (.iload_n 1, 1) := by decide +kernel
theorem dX7_letterOf_18 : decode cX7_letterOf 18 = .ok (.iaload, 1) := by decide +kernel
theorem dX7_letterOf_19 : decode cX7_letterOf 19 = .ok (.goto 4, 3) := by decide +kernel
theorem dX7_letterOf_22 : decode cX7_letterOf 22 = .ok (.iconst 0, 1) := by decide +kernel
theorem dX7_letterOf_23 : decode cX7_letterOf 23 = .ok (.ireturn, 1) := by decide +kernel
theorem dX7_labelsOf_0 : decode cX7_labelsOf 0 = .ok (.iload_n 1, 1) := by decide +kernel
theorem dX7_labelsOf_1 : decode cX7_labelsOf 1 = .ok (.ifCond .lt 21, 3) := by decide +kernel
theorem dX7_labelsOf_4 : decode cX7_labelsOf 4 = .ok (.iload_n 1, 1) := by decide +kernel
theorem dX7_labelsOf_5 : decode cX7_labelsOf 5 = .ok (.aload_n 0, 1) := by decide +kernel
theorem dX7_labelsOf_6 : decode cX7_labelsOf 6 = .ok (.getfield 21, 3) := by decide +kernel
theorem dX7_labelsOf_9 : decode cX7_labelsOf 9 = .ok (.arraylength, 1) := by decide +kernel
theorem dX7_labelsOf_10 : decode cX7_labelsOf 10 = .ok (.if_icmp .ge 12, 3) := by decide +kernel
theorem dX7_labelsOf_13 : decode cX7_labelsOf 13 = .ok (.aload_n 0, 1) := by decide +kernel
theorem dX7_labelsOf_14 : decode cX7_labelsOf 14 = .ok (.getfield 21, 3) := by decide +kernel
theorem dX7_labelsOf_17 : decode cX7_labelsOf 17 = .ok (.iload_n 1, 1) := by decide +kernel
theorem dX7_labelsOf_18 : decode cX7_labelsOf 18 = .ok (.iaload, 1) := by decide +kernel
theorem dX7_labelsOf_19 : decode cX7_labelsOf 19 = .ok (.goto 4, 3) := by decide +kernel
theorem dX7_labelsOf_22 : decode cX7_labelsOf 22 = .ok (.iconst 0, 1) := by decide +kernel
theorem dX7_labelsOf_23 : decode cX7_labelsOf 23 = .ok (.ireturn, 1) := by decide +kernel
theorem dX7_branchNode_0 : decode cX7_branchNode 0 = .ok (.iload_n 1, 1) := by decide +kernel
theorem dX7_branchNode_1 : decode cX7_branchNode 1 = .ok (.bipush 6, 2) := by decide +kernel
theorem dX7_branchNode_3 : decode cX7_branchNode 3 = .ok (.imul, 1) := by decide +kernel
theorem dX7_branchNode_4 : decode cX7_branchNode 4 = .ok (.iload_n 2, 1) := by decide +kernel
theorem dX7_branchNode_5 : decode cX7_branchNode 5 = .ok (.iadd, 1) := by decide +kernel
theorem dX7_branchNode_6 : decode cX7_branchNode 6 = .ok (.istore_n 3, 1) := by decide +kernel
theorem dX7_branchNode_7 : decode cX7_branchNode 7 = .ok (.iload_n 1, 1) := by decide +kernel
theorem dX7_branchNode_8 : decode cX7_branchNode 8 = .ok (.ifCond .lt 31, 3) := by decide +kernel
theorem dX7_branchNode_11 : decode cX7_branchNode 11 = .ok (.iload_n 2, 1) := by decide +kernel
theorem dX7_branchNode_12 : decode cX7_branchNode 12 = .ok (.ifCond .lt 27, 3) := by decide +kernel
theorem dX7_branchNode_15 : decode cX7_branchNode 15 = .ok (.iload_n 2, 1) := by decide +kernel
theorem dX7_branchNode_16 : decode cX7_branchNode 16 = .ok (.bipush 6, 2) := by decide +kernel
theorem dX7_branchNode_18 : decode cX7_branchNode 18 = .ok (.if_icmp .ge 21, 3) := by decide +kernel
theorem dX7_branchNode_21 : decode cX7_branchNode 21 = .ok (.iload_n 3, 1) := by decide +kernel
theorem dX7_branchNode_22 : decode cX7_branchNode 22 = .ok (.aload_n 0, 1) := by decide +kernel
theorem dX7_branchNode_23 : decode cX7_branchNode 23 = .ok (.getfield 30, 3) := by decide +kernel
theorem dX7_branchNode_26 : decode cX7_branchNode 26 = .ok (.arraylength, 1) := by decide +kernel
theorem dX7_branchNode_27 : decode cX7_branchNode 27 = .ok (.if_icmp .ge 12, 3) := by decide +kernel
theorem dX7_branchNode_30 : decode cX7_branchNode 30 = .ok (.aload_n 0, 1) := by decide +kernel
theorem dX7_branchNode_31 : decode cX7_branchNode 31 = .ok (.getfield 30, 3) := by decide +kernel
theorem dX7_branchNode_34 : decode cX7_branchNode 34 = .ok (.iload_n 3, 1) := by decide +kernel
theorem dX7_branchNode_35 : decode cX7_branchNode 35 = .ok (.iaload, 1) := by decide +kernel
theorem dX7_branchNode_36 : decode cX7_branchNode 36 = .ok (.goto 4, 3) := by decide +kernel
theorem dX7_branchNode_39 : decode cX7_branchNode 39 = .ok (.iconst (-1), 1) := by decide +kernel
theorem dX7_branchNode_40 : decode cX7_branchNode 40 = .ok (.ireturn, 1) := by decide +kernel
theorem dX7_beginning_0 : decode cX7_beginning 0 = .ok (.aload_n 0, 1) := by decide +kernel
theorem dX7_beginning_1 : decode cX7_beginning 1 = .ok (.getfield 33, 3) := by decide +kernel
theorem dX7_beginning_4 : decode cX7_beginning 4 = .ok (.arraylength, 1) := by decide +kernel
theorem dX7_beginning_5 : decode cX7_beginning 5 = .ok (.ifCond .le 12, 3) := by decide +kernel
theorem dX7_beginning_8 : decode cX7_beginning 8 = .ok (.aload_n 0, 1) := by decide +kernel
theorem dX7_beginning_9 : decode cX7_beginning 9 = .ok (.getfield 33, 3) := by decide +kernel
theorem dX7_beginning_12 : decode cX7_beginning 12 = .ok (.iconst 0, 1) := by decide +kernel
theorem dX7_beginning_13 : decode cX7_beginning 13 = .ok (.iaload, 1) := by decide +kernel
theorem dX7_beginning_14 : decode cX7_beginning 14 = .ok (.goto 4, 3) := by decide +kernel
theorem dX7_beginning_17 : decode cX7_beginning 17 = .ok (.iconst 0, 1) := by decide +kernel
theorem dX7_beginning_18 : decode cX7_beginning 18 = .ok (.ireturn, 1) := by decide +kernel
theorem dX7_innerOf_0 : decode cX7_innerOf 0 = .ok (.iload_n 1, 1) := by decide +kernel
theorem dX7_innerOf_1 : decode cX7_innerOf 1 = .ok (.ifCond .lt 21, 3) := by decide +kernel
theorem dX7_innerOf_4 : decode cX7_innerOf 4 = .ok (.iload_n 1, 1) := by decide +kernel
theorem dX7_innerOf_5 : decode cX7_innerOf 5 = .ok (.aload_n 0, 1) := by decide +kernel
theorem dX7_innerOf_6 : decode cX7_innerOf 6 = .ok (.getfield 27, 3) := by decide +kernel
theorem dX7_innerOf_9 : decode cX7_innerOf 9 = .ok (.arraylength, 1) := by decide +kernel
theorem dX7_innerOf_10 : decode cX7_innerOf 10 = .ok (.if_icmp .ge 12, 3) := by decide +kernel
theorem dX7_innerOf_13 : decode cX7_innerOf 13 = .ok (.aload_n 0, 1) := by decide +kernel
theorem dX7_innerOf_14 : decode cX7_innerOf 14 = .ok (.getfield 27, 3) := by decide +kernel
theorem dX7_innerOf_17 : decode cX7_innerOf 17 = .ok (.iload_n 1, 1) := by decide +kernel
theorem dX7_innerOf_18 : decode cX7_innerOf 18 = .ok (.iaload, 1) := by decide +kernel
theorem dX7_innerOf_19 : decode cX7_innerOf 19 = .ok (.goto 4, 3) := by decide +kernel
theorem dX7_innerOf_22 : decode cX7_innerOf 22 = .ok (.iconst (-1), 1) := by decide +kernel
theorem dX7_innerOf_23 : decode cX7_innerOf 23 = .ok (.istore_n 2, 1) := by decide +kernel
theorem dX7_innerOf_24 : decode cX7_innerOf 24 = .ok (.iload_n 2, 1) := by decide +kernel
theorem dX7_innerOf_25 : decode cX7_innerOf 25 = .ok (.ifCond .lt 21, 3) := by decide +kernel
theorem dX7_innerOf_28 : decode cX7_innerOf 28 = .ok (.iload_n 2, 1) := by decide +kernel
theorem dX7_innerOf_29 : decode cX7_innerOf 29 = .ok (.aload_n 0, 1) := by decide +kernel
theorem dX7_innerOf_30 : decode cX7_innerOf 30 = .ok (.getfield 33, 3) := by decide +kernel
theorem dX7_innerOf_33 : decode cX7_innerOf 33 = .ok (.arraylength, 1) := by decide +kernel
theorem dX7_innerOf_34 : decode cX7_innerOf 34 = .ok (.if_icmp .ge 12, 3) := by decide +kernel
theorem dX7_innerOf_37 : decode cX7_innerOf 37 = .ok (.aload_n 0, 1) := by decide +kernel
theorem dX7_innerOf_38 : decode cX7_innerOf 38 = .ok (.getfield 33, 3) := by decide +kernel
theorem dX7_innerOf_41 : decode cX7_innerOf 41 = .ok (.iload_n 2, 1) := by decide +kernel
theorem dX7_innerOf_42 : decode cX7_innerOf 42 = .ok (.iaload, 1) := by decide +kernel
theorem dX7_innerOf_43 : decode cX7_innerOf 43 = .ok (.goto 4, 3) := by decide +kernel
theorem dX7_innerOf_46 : decode cX7_innerOf 46 = .ok (.iconst 0, 1) := by decide +kernel
theorem dX7_innerOf_47 : decode cX7_innerOf 47 = .ok (.ireturn, 1) := by decide +kernel
theorem dX7_stepOf_0 : decode cX7_stepOf 0 = .ok (.iload_n 1, 1) := by decide +kernel
theorem dX7_stepOf_1 : decode cX7_stepOf 1 = .ok (.bipush 6, 2) := by decide +kernel
theorem dX7_stepOf_3 : decode cX7_stepOf 3 = .ok (.imul, 1) := by decide +kernel
theorem dX7_stepOf_4 : decode cX7_stepOf 4 = .ok (.iload_n 2, 1) := by decide +kernel
theorem dX7_stepOf_5 : decode cX7_stepOf 5 = .ok (.iadd, 1) := by decide +kernel
theorem dX7_stepOf_6 : decode cX7_stepOf 6 = .ok (.istore_n 3, 1) := by decide +kernel
theorem dX7_stepOf_7 : decode cX7_stepOf 7 = .ok (.iload_n 1, 1) := by decide +kernel
theorem dX7_stepOf_8 : decode cX7_stepOf 8 = .ok (.ifCond .lt 22, 3) := by decide +kernel
theorem dX7_stepOf_11 : decode cX7_stepOf 11 = .ok (.iload_n 2, 1) := by decide +kernel
theorem dX7_stepOf_12 : decode cX7_stepOf 12 = .ok (.ifCond .lt 18, 3) := by decide +kernel
theorem dX7_stepOf_15 : decode cX7_stepOf 15 = .ok (.iload_n 2, 1) := by decide +kernel
theorem dX7_stepOf_16 : decode cX7_stepOf 16 = .ok (.bipush 6, 2) := by decide +kernel
theorem dX7_stepOf_18 : decode cX7_stepOf 18 = .ok (.if_icmp .ge 12, 3) := by decide +kernel
theorem dX7_stepOf_21 : decode cX7_stepOf 21 = .ok (.iload_n 3, 1) := by decide +kernel
theorem dX7_stepOf_22 : decode cX7_stepOf 22 = .ok (.aload_n 0, 1) := by decide +kernel
theorem dX7_stepOf_23 : decode cX7_stepOf 23 = .ok (.getfield 30, 3) := by decide +kernel
theorem dX7_stepOf_26 : decode cX7_stepOf 26 = .ok (.arraylength, 1) := by decide +kernel
theorem dX7_stepOf_27 : decode cX7_stepOf 27 = .ok (.if_icmp .lt 5, 3) := by decide +kernel
theorem dX7_stepOf_30 : decode cX7_stepOf 30 = .ok (.iconst 0, 1) := by decide +kernel
theorem dX7_stepOf_31 : decode cX7_stepOf 31 = .ok (.ireturn, 1) := by decide +kernel
theorem dX7_stepOf_32 : decode cX7_stepOf 32 = .ok (.aload_n 0, 1) := by decide +kernel
theorem dX7_stepOf_33 : decode cX7_stepOf 33 = .ok (.getfield 30, 3) := by decide +kernel
theorem dX7_stepOf_36 : decode cX7_stepOf 36 = .ok (.iload_n 3, 1) := by decide +kernel
theorem dX7_stepOf_37 : decode cX7_stepOf 37 = .ok (.iaload, 1) := by decide +kernel
theorem dX7_stepOf_38 : decode cX7_stepOf 38 = .ok (.istore 4, 2) := by decide +kernel
theorem dX7_stepOf_40 : decode cX7_stepOf 40 = .ok (.iload 4, 2) := by decide +kernel
theorem dX7_stepOf_42 : decode cX7_stepOf 42 = .ok (.ifCond .lt 23, 3) := by decide +kernel
theorem dX7_stepOf_45 : decode cX7_stepOf 45 = .ok (.iload 4, 2) := by decide +kernel
theorem dX7_stepOf_47 : decode cX7_stepOf 47 = .ok (.aload_n 0, 1) := by decide +kernel
theorem dX7_stepOf_48 : decode cX7_stepOf 48 = .ok (.getfield 33, 3) := by decide +kernel
theorem dX7_stepOf_51 : decode cX7_stepOf 51 = .ok (.arraylength, 1) := by decide +kernel
theorem dX7_stepOf_52 : decode cX7_stepOf 52 = .ok (.if_icmp .ge 13, 3) := by decide +kernel
theorem dX7_stepOf_55 : decode cX7_stepOf 55 = .ok (.aload_n 0, 1) := by decide +kernel
theorem dX7_stepOf_56 : decode cX7_stepOf 56 = .ok (.getfield 33, 3) := by decide +kernel
theorem dX7_stepOf_59 : decode cX7_stepOf 59 = .ok (.iload 4, 2) := by decide +kernel
theorem dX7_stepOf_61 : decode cX7_stepOf 61 = .ok (.iaload, 1) := by decide +kernel
theorem dX7_stepOf_62 : decode cX7_stepOf 62 = .ok (.goto 4, 3) := by decide +kernel
theorem dX7_stepOf_65 : decode cX7_stepOf 65 = .ok (.iconst 0, 1) := by decide +kernel
theorem dX7_stepOf_66 : decode cX7_stepOf 66 = .ok (.ireturn, 1) := by decide +kernel
set_option maxRecDepth 20000 in
theorem ggX7_behind_X7_kindOf : GoodIn wsX7_behind wsX7_kindOf := goodIn_r _ [5, 6, 25, 26, 27, 28, 29, 30, 31, 32, 33] (by decide +kernel) (by decide +kernel)
set_option maxRecDepth 20000 in
theorem gX7_behind_X7_kindOf : GoodIn wsX7_behind (wsV RX7 53 RX7 yX7_kindOf wsX7_kindOf) := goodIn_app (goodIn_of _ (by decide +kernel)) ggX7_behind_X7_kindOf
set_option maxRecDepth 20000 in
theorem ggX7_behind_X7_stepOf : GoodIn wsX7_behind wsX7_stepOf := goodIn_r _ [10, 11, 12, 25, 26, 27, 28, 29, 30, 31, 32, 33] (by decide +kernel) (by decide +kernel)
set_option maxRecDepth 20000 in
theorem gX7_behind_X7_stepOf : GoodIn wsX7_behind (wsV RX7 56 RX7 yX7_stepOf wsX7_stepOf) := goodIn_app (goodIn_of _ (by decide +kernel)) ggX7_behind_X7_stepOf
set_option maxRecDepth 20000 in
theorem ggX7_behind_X7_labelsOf : GoodIn wsX7_behind wsX7_labelsOf := goodIn_r _ [16, 17, 25, 26, 27, 28, 29, 30, 31, 32, 33] (by decide +kernel) (by decide +kernel)
set_option maxRecDepth 20000 in
theorem gX7_behind_X7_labelsOf : GoodIn wsX7_behind (wsV RX7 60 RX7 yX7_labelsOf wsX7_labelsOf) := goodIn_app (goodIn_of _ (by decide +kernel)) ggX7_behind_X7_labelsOf
set_option maxRecDepth 20000 in
theorem ggX7_behind_J6_bitCount_0f7a4 : GoodIn wsX7_behind wsJ6_bitCount_0f7a4 := goodIn_r _ [21, 22, 23, 24] (by decide +kernel) (by decide +kernel)
set_option maxRecDepth 20000 in
theorem gX7_behind_J6_bitCount_0f7a4 : GoodIn wsX7_behind (va_wsS RX7 63 yJ6_bitCount_0f7a4 wsJ6_bitCount_0f7a4) := goodIn_app (goodIn_of _ (by decide +kernel)) ggX7_behind_J6_bitCount_0f7a4
theorem dX7_behind_0 : decode cX7_behind 0 = .ok (.aload_n 0, 1) := by decide +kernel
theorem dX7_behind_1 : decode cX7_behind 1 = .ok (.iload_n 1, 1) := by decide +kernel
theorem dX7_behind_2 : decode cX7_behind 2 = .ok (.invokevirtual 53, 3) := by decide +kernel
theorem dX7_behind_5 : decode cX7_behind 5 = .ok (.istore_n 3, 1) := by decide +kernel
theorem dX7_behind_6 : decode cX7_behind 6 = .ok (.iload_n 3, 1) := by decide +kernel
theorem dX7_behind_7 : decode cX7_behind 7 = .ok (.iconst 1, 1) := by decide +kernel
theorem dX7_behind_8 : decode cX7_behind 8 = .ok (.if_icmp .eq 8, 3) := by decide +kernel
theorem dX7_behind_11 : decode cX7_behind 11 = .ok (.iload_n 3, 1) := by decide +kernel
theorem dX7_behind_12 : decode cX7_behind 12 = .ok (.iconst 2, 1) := by decide +kernel
theorem dX7_behind_13 : decode cX7_behind 13 = .ok (.if_icmp .ne 10, 3) := by decide +kernel
theorem dX7_behind_16 : decode cX7_behind 16 = .ok (.aload_n 0, 1) := by decide +kernel
theorem dX7_behind_17 : decode cX7_behind 17 = .ok (.iload_n 1, 1) := by decide +kernel
theorem dX7_behind_18 : decode cX7_behind 18 = .ok (.iconst 0, 1) := by decide +kernel
theorem dX7_behind_19 : decode cX7_behind 19 = .ok (.invokevirtual 56, 3) := by decide +kernel
theorem dX7_behind_22 : decode cX7_behind 22 = .ok (.ireturn, 1) := by decide +kernel
theorem dX7_behind_23 : decode cX7_behind 23 = .ok (.aload_n 0, 1) := by decide +kernel
theorem dX7_behind_24 : decode cX7_behind 24 = .ok (.iload_n 1, 1) := by decide +kernel
theorem dX7_behind_25 : decode cX7_behind 25 = .ok (.invokevirtual 60, 3) := by decide +kernel
theorem dX7_behind_28 : decode cX7_behind 28 = .ok (.istore 4, 2) := by decide +kernel
theorem dX7_behind_30 : decode cX7_behind 30 = .ok (.iload_n 2, 1) := by decide +kernel
theorem dX7_behind_31 : decode cX7_behind 31 = .ok (.ifCond .lt 18, 3) := by decide +kernel
theorem dX7_behind_34 : decode cX7_behind 34 = .ok (.iload_n 2, 1) := by decide +kernel
theorem dX7_behind_35 : decode cX7_behind 35 = .ok (.bipush 26, 2) := by decide +kernel
theorem dX7_behind_37 : decode cX7_behind 37 = .ok (.if_icmp .ge 12, 3) := by decide +kernel
theorem dX7_behind_40 : decode cX7_behind 40 = .ok (.iload 4, 2) := by decide +kernel
theorem dX7_behind_42 : decode cX7_behind 42 = .ok (.iload_n 2, 1) := by decide +kernel
theorem dX7_behind_43 : decode cX7_behind 43 = .ok (.ishr, 1) := by decide +kernel
theorem dX7_behind_44 : decode cX7_behind 44 = .ok (.iconst 1, 1) := by decide +kernel
theorem dX7_behind_45 : decode cX7_behind 45 = .ok (.iand, 1) := by decide +kernel
theorem dX7_behind_46 : decode cX7_behind 46 = .ok (.ifCond .ne 5, 3) := by decide +kernel
theorem dX7_behind_49 : decode cX7_behind 49 = .ok (.iload_n 1, 1) := by decide +kernel
theorem dX7_behind_50 : decode cX7_behind 50 = .ok (.ireturn, 1) := by decide +kernel
theorem dX7_behind_51 : decode cX7_behind 51 = .ok (.aload_n 0, 1) := by decide +kernel
theorem dX7_behind_52 : decode cX7_behind 52 = .ok (.iload_n 1, 1) := by decide +kernel
theorem dX7_behind_53 : decode cX7_behind 53 = .ok (.iload 4, 2) := by decide +kernel
theorem dX7_behind_55 : decode cX7_behind 55 = .ok (.iconst 1, 1) := by decide +kernel
theorem dX7_behind_56 : decode cX7_behind 56 = .ok (.iload_n 2, 1) := by decide +kernel
theorem dX7_behind_57 : decode cX7_behind 57 = .ok (.ishl, 1) := by decide +kernel
theorem dX7_behind_58 : decode cX7_behind 58 = .ok (.iconst 1, 1) := by decide +kernel
theorem dX7_behind_59 : decode cX7_behind 59 = .ok (.isub, 1) := by decide +kernel
theorem dX7_behind_60 : decode cX7_behind 60 = .ok (.iand, 1) := by decide +kernel
theorem dX7_behind_61 : decode cX7_behind 61 = .ok (.invokestatic 63, 3) := by decide +kernel
theorem dX7_behind_64 : decode cX7_behind 64 = .ok (.invokevirtual 56, 3) := by decide +kernel
theorem dX7_behind_67 : decode cX7_behind 67 = .ok (.ireturn, 1) := by decide +kernel
set_option maxRecDepth 20000 in
theorem ggX7_isStateOutside_X7_kindOf : GoodIn wsX7_isStateOutside wsX7_kindOf := goodIn_r _ [6, 7, 8, 9, 10, 11, 12, 13, 14, 15, 16] (by decide +kernel) (by decide +kernel)
set_option maxRecDepth 20000 in
theorem gX7_isStateOutside_X7_kindOf : GoodIn wsX7_isStateOutside (wsV RX7 53 RX7 yX7_kindOf wsX7_kindOf) := goodIn_app (goodIn_of _ (by decide +kernel)) ggX7_isStateOutside_X7_kindOf
theorem dX7_isStateOutside_0 : decode cX7_isStateOutside 0 = .ok (.iload_n 1, 1) := by decide +kernel
theorem dX7_isStateOutside_1 : decode cX7_isStateOutside 1 = .ok (.ifCond .lt 34, 3) := by decide +kernel
theorem dX7_isStateOutside_4 : decode cX7_isStateOutside 4 = .ok (.iload_n 1, 1) := by decide +kernel
theorem dX7_isStateOutside_5 : decode cX7_isStateOutside 5 = .ok (.aload_n 0, 1) := by decide +kernel
theorem dX7_isStateOutside_6 : decode cX7_isStateOutside 6 = .ok (.getfield 24, 3) := by decide +kernel
theorem dX7_isStateOutside_9 : decode cX7_isStateOutside 9 = .ok (.arraylength, 1) := by decide +kernel
theorem dX7_isStateOutside_10 : decode cX7_isStateOutside 10 = .ok (.if_icmp .ge 25, 3) := by decide +kernel
theorem dX7_isStateOutside_13 : decode cX7_isStateOutside 13 = .ok (.aload_n 0, 1) := by decide +kernel
theorem dX7_isStateOutside_14 : decode cX7_isStateOutside 14 = .ok (.getfield 24, 3) := by decide +kernel
theorem dX7_isStateOutside_17 : decode cX7_isStateOutside 17 = .ok (.iload_n 1, 1) := by decide +kernel
theorem dX7_isStateOutside_18 : decode cX7_isStateOutside 18 = .ok (.iaload, 1) := by decide +kernel
theorem dX7_isStateOutside_19 : decode cX7_isStateOutside 19 = .ok (.ifCond .ne 16, 3) := by decide +kernel
theorem dX7_isStateOutside_22 : decode cX7_isStateOutside 22 = .ok (.aload_n 0, 1) := by decide +kernel
theorem dX7_isStateOutside_23 : decode cX7_isStateOutside 23 = .ok (.iload_n 1, 1) := by decide +kernel
theorem dX7_isStateOutside_24 : decode cX7_isStateOutside 24 = .ok (.invokevirtual 53, 3) := by decide +kernel
theorem dX7_isStateOutside_27 : decode cX7_isStateOutside 27 = .ok (.iconst 4, 1) := by decide +kernel
theorem dX7_isStateOutside_28 : decode cX7_isStateOutside 28 = .ok (.if_icmp .gt 7, 3) := by decide +kernel
theorem dX7_isStateOutside_31 : decode cX7_isStateOutside 31 = .ok (.iconst 1, 1) := by decide +kernel
theorem dX7_isStateOutside_32 : decode cX7_isStateOutside 32 = .ok (.goto 4, 3) := by decide +kernel
theorem dX7_isStateOutside_35 : decode cX7_isStateOutside 35 = .ok (.iconst 0, 1) := by decide +kernel
theorem dX7_isStateOutside_36 : decode cX7_isStateOutside 36 = .ok (.ireturn, 1) := by decide +kernel
set_option maxRecDepth 20000 in
theorem ggX7_statesOutside_X7_isStateOutside : GoodIn wsX7_statesOutside wsX7_isStateOutside := goodIn_r _ [6, 7, 8, 9, 10, 5, 11, 12, 13, 14, 15, 16, 17, 18, 19, 20, 21] (by decide +kernel) (by decide +kernel)
set_option maxRecDepth 20000 in
theorem gX7_statesOutside_X7_isStateOutside : GoodIn wsX7_statesOutside (wsV RX7 68 RX7 yX7_isStateOutside wsX7_isStateOutside) := goodIn_app (goodIn_of _ (by decide +kernel)) ggX7_statesOutside_X7_isStateOutside
theorem dX7_statesOutside_0 : decode cX7_statesOutside 0 = .ok (.iconst 0, 1) := by decide +kernel
theorem dX7_statesOutside_1 : decode cX7_statesOutside 1 = .ok (.istore_n 1, 1) := by decide +kernel
theorem dX7_statesOutside_2 : decode cX7_statesOutside 2 = .ok (.iconst 0, 1) := by decide +kernel
theorem dX7_statesOutside_3 : decode cX7_statesOutside 3 = .ok (.istore_n 2, 1) := by decide +kernel
theorem dX7_statesOutside_4 : decode cX7_statesOutside 4 = .ok (.iload_n 2, 1) := by decide +kernel
theorem dX7_statesOutside_5 : decode cX7_statesOutside 5 = .ok (.aload_n 0, 1) := by decide +kernel
theorem dX7_statesOutside_6 : decode cX7_statesOutside 6 = .ok (.getfield 36, 3) := by decide +kernel
theorem dX7_statesOutside_9 : decode cX7_statesOutside 9 = .ok (.if_icmp .ge 20, 3) := by decide +kernel
theorem dX7_statesOutside_12 : decode cX7_statesOutside 12 = .ok (.aload_n 0, 1) := by decide +kernel
theorem dX7_statesOutside_13 : decode cX7_statesOutside 13 = .ok (.iload_n 2, 1) := by decide +kernel
theorem dX7_statesOutside_14 : decode cX7_statesOutside 14 = .ok (.invokevirtual 68, 3) := by decide +kernel
theorem dX7_statesOutside_17 : decode cX7_statesOutside 17 = .ok (.ifCond .eq 6, 3) := by decide +kernel
theorem dX7_statesOutside_20 : decode cX7_statesOutside 20 = .ok (.iinc 1 1, 3) := by decide +kernel
theorem dX7_statesOutside_23 : decode cX7_statesOutside 23 = .ok (.iinc 2 1, 3) := by decide +kernel
theorem dX7_statesOutside_26 : decode cX7_statesOutside 26 = .ok (.goto (-22), 3) := by decide +kernel
theorem dX7_statesOutside_29 : decode cX7_statesOutside 29 = .ok (.iload_n 1, 1) := by decide +kernel
theorem dX7_statesOutside_30 : decode cX7_statesOutside 30 = .ok (.ireturn, 1) := by decide +kernel
theorem dX7_deepest_0 : decode cX7_deepest 0 = .ok (.iconst 0, 1) := by decide +kernel
theorem dX7_deepest_1 : decode cX7_deepest 1 = .ok (.istore_n 1, 1) := by decide +kernel
theorem dX7_deepest_2 : decode cX7_deepest 2 = .ok (.iconst 0, 1) := by decide +kernel
theorem dX7_deepest_3 : decode cX7_deepest 3 = .ok (.istore_n 2, 1) := by decide +kernel
theorem dX7_deepest_4 : decode cX7_deepest 4 = .ok (.iload_n 2, 1) := by decide +kernel
theorem dX7_deepest_5 : decode cX7_deepest 5 = .ok (.aload_n 0, 1) := by decide +kernel
theorem dX7_deepest_6 : decode cX7_deepest 6 = .ok (.getfield 24, 3) := by decide +kernel
theorem dX7_deepest_9 : decode cX7_deepest 9 = .ok (.arraylength, 1) := by decide +kernel
theorem dX7_deepest_10 : decode cX7_deepest 10 = .ok (.if_icmp .ge 26, 3) := by decide +kernel
theorem dX7_deepest_13 : decode cX7_deepest 13 = .ok (.aload_n 0, 1) := by decide +kernel
theorem dX7_deepest_14 : decode cX7_deepest 14 = .ok (.getfield 24, 3) := by decide +kernel
theorem dX7_deepest_17 : decode cX7_deepest 17 = .ok (.iload_n 2, 1) := by decide +kernel
theorem dX7_deepest_18 : decode cX7_deepest 18 = .ok (.iaload, 1) := by decide +kernel
theorem dX7_deepest_19 : decode cX7_deepest 19 = .ok (.iload_n 1, 1) := by decide +kernel
theorem dX7_deepest_20 : decode cX7_deepest 20 = .ok (.if_icmp .le 10, 3) := by decide +kernel
theorem dX7_deepest_23 : decode cX7_deepest 23 = .ok (.aload_n 0, 1) := by decide +kernel
theorem dX7_deepest_24 : decode cX7_deepest 24 = .ok (.getfield 24, 3) := by decide +kernel
theorem dX7_deepest_27 : decode cX7_deepest 27 = .ok (.iload_n 2, 1) := by decide +kernel
theorem dX7_deepest_28 : decode cX7_deepest 28 = .ok (.iaload, 1) := by decide +kernel
theorem dX7_deepest_29 : decode cX7_deepest 29 = .ok (.istore_n 1, 1) := by decide +kernel
theorem dX7_deepest_30 : decode cX7_deepest 30 = .ok (.iinc 2 1, 3) := by decide +kernel
theorem dX7_deepest_33 : decode cX7_deepest 33 = .ok (.goto (-29), 3) := by decide +kernel
theorem dX7_deepest_36 : decode cX7_deepest 36 = .ok (.iload_n 1, 1) := by decide +kernel
theorem dX7_deepest_37 : decode cX7_deepest 37 = .ok (.ireturn, 1) := by decide +kernel
set_option maxRecDepth 20000 in
theorem ggX7_longestRow_J7_fill_53178 : GoodIn wsX7_longestRow wsJ7_fill_53178 := goodIn_r _ [12] (by decide +kernel) (by decide +kernel)
set_option maxRecDepth 20000 in
theorem gX7_longestRow_J7_fill_53178 : GoodIn wsX7_longestRow (va_wsS RX7 72 yJ7_fill_53178 wsJ7_fill_53178) := goodIn_app (goodIn_of _ (by decide +kernel)) ggX7_longestRow_J7_fill_53178
set_option maxRecDepth 20000 in
theorem ggX7_longestRow_X7_isStateOutside : GoodIn wsX7_longestRow wsX7_isStateOutside := goodIn_r _ [17, 18, 19, 20, 21, 16, 22, 23, 46, 47, 48, 49, 50, 51, 52, 53, 54] (by decide +kernel) (by decide +kernel)
set_option maxRecDepth 20000 in
theorem gX7_longestRow_X7_isStateOutside : GoodIn wsX7_longestRow (wsV RX7 68 RX7 yX7_isStateOutside wsX7_isStateOutside) := goodIn_app (goodIn_of _ (by decide +kernel)) ggX7_longestRow_X7_isStateOutside
set_option maxRecDepth 20000 in
theorem ggX7_longestRow_X7_rowFrom : GoodIn wsX7_longestRow wsX7_rowFrom := goodIn_r _ [27, 6, 7, 4, 8, 19, 20, 21, 16, 22, 23, 28, 29, 30, 31, 32, 33, 34, 35, 36, 37, 38, 39, 40, 41, 42, 43, 44, 45, 46, 47, 48, 49, 50, 51, 52, 53, 54] (by decide +kernel) (by decide +kernel)
set_option maxRecDepth 20000 in
theorem gX7_longestRow_X7_rowFrom : GoodIn wsX7_longestRow (wsV RX7 81 RX7 yX7_rowFrom wsX7_rowFrom) := goodIn_app (goodIn_of _ (by decide +kernel)) ggX7_longestRow_X7_rowFrom
theorem dX7_longestRow_0 : decode cX7_longestRow 0 = .ok (.aload_n 2, 1) := by decide +kernel
theorem dX7_longestRow_1 : decode cX7_longestRow 1 = .ok (.iconst 0, 1) := by decide +kernel
theorem dX7_longestRow_2 : decode cX7_longestRow 2 = .ok (.invokestatic 72, 3) := by decide +kernel
theorem dX7_longestRow_5 : decode cX7_longestRow 5 = .ok (.iconst 0, 1) := by decide +kernel
theorem dX7_longestRow_6 : decode cX7_longestRow 6 = .ok (.istore_n 3, 1) := by decide +kernel
theorem dX7_longestRow_7 : decode cX7_longestRow 7 = .ok (.iconst 0, 1) := by decide +kernel
theorem dX7_longestRow_8 : decode cX7_longestRow 8 = .ok (.istore 4, 2) := by decide +kernel
theorem dX7_longestRow_10 : decode cX7_longestRow 10 = .ok (.iload 4, 2) := by decide +kernel
theorem dX7_longestRow_12 : decode cX7_longestRow 12 = .ok (.bipush 60, 2) := by decide +kernel
theorem dX7_longestRow_14 : decode cX7_longestRow 14 = .ok (.if_icmp .gt 102, 3) := by decide +kernel
theorem dX7_longestRow_17 : decode cX7_longestRow 17 = .ok (.iconst 0, 1) := by decide +kernel
theorem dX7_longestRow_18 : decode cX7_longestRow 18 = .ok (.istore 5, 2) := by decide +kernel
theorem dX7_longestRow_20 : decode cX7_longestRow 20 = .ok (.aload_n 0, 1) := by decide +kernel
theorem dX7_longestRow_21 : decode cX7_longestRow 21 = .ok (.getfield 36, 3) := by decide +kernel
theorem dX7_longestRow_24 : decode cX7_longestRow 24 = .ok (.aload_n 2, 1) := by decide +kernel
theorem dX7_longestRow_25 : decode cX7_longestRow 25 = .ok (.arraylength, 1) := by decide +kernel
theorem dX7_longestRow_26 : decode cX7_longestRow 26 = .ok (.invokestatic 76, 3) := by decide +kernel
theorem dX7_longestRow_29 : decode cX7_longestRow 29 = .ok (.iconst 1, 1) := by decide +kernel
theorem dX7_longestRow_30 : decode cX7_longestRow 30 = .ok (.isub, 1) := by decide +kernel
theorem dX7_longestRow_31 : decode cX7_longestRow 31 = .ok (.istore 6, 2) := by decide +kernel
theorem dX7_longestRow_33 : decode cX7_longestRow 33 = .ok (.iload 6, 2) := by decide +kernel
theorem dX7_longestRow_35 : decode cX7_longestRow 35 = .ok (.ifCond .lt 57, 3) := by decide +kernel
theorem dX7_longestRow_38 : decode cX7_longestRow 38 = .ok (.aload_n 0, 1) := by decide +kernel
theorem dX7_longestRow_39 : decode cX7_longestRow 39 = .ok (.iload 6, 2) := by decide +kernel
theorem dX7_longestRow_41 : decode cX7_longestRow 41 = .ok (.invokevirtual 68, 3) := by decide +kernel
theorem dX7_longestRow_44 : decode cX7_longestRow 44 = .ok (.ifCond .eq 14, 3) := by decide +kernel
theorem dX7_longestRow_47 : decode cX7_longestRow 47 = .ok (.aload_n 0, 1) := by decide +kernel
theorem dX7_longestRow_48 : decode cX7_longestRow 48 = .ok (.iload 6, 2) := by decide +kernel
theorem dX7_longestRow_50 : decode cX7_longestRow 50 = .ok (.iload_n 1, 1) := by decide +kernel
theorem dX7_longestRow_51 : decode cX7_longestRow 51 = .ok (.aload_n 2, 1) := by decide +kernel
theorem dX7_longestRow_52 : decode cX7_longestRow 52 = .ok (.invokevirtual 81, 3) := by decide +kernel
theorem dX7_longestRow_55 : decode cX7_longestRow 55 = .ok (.goto 4, 3) := by decide +kernel
theorem dX7_longestRow_58 : decode cX7_longestRow 58 = .ok (.iconst 0, 1) := by decide +kernel
theorem dX7_longestRow_59 : decode cX7_longestRow 59 = .ok (.istore 7, 2) := by decide +kernel
theorem dX7_longestRow_61 : decode cX7_longestRow 61 = .ok (.iload 7, 2) := by decide +kernel
theorem dX7_longestRow_63 : decode cX7_longestRow 63 = .ok (.aload_n 2, 1) := by decide +kernel
theorem dX7_longestRow_64 : decode cX7_longestRow 64 = .ok (.iload 6, 2) := by decide +kernel
theorem dX7_longestRow_66 : decode cX7_longestRow 66 = .ok (.iaload, 1) := by decide +kernel
theorem dX7_longestRow_67 : decode cX7_longestRow 67 = .ok (.if_icmp .le 6, 3) := by decide +kernel
theorem dX7_longestRow_70 : decode cX7_longestRow 70 = .ok (.iconst 1, 1) := by decide +kernel
theorem dX7_longestRow_71 : decode cX7_longestRow 71 = .ok (.istore 5, 2) := by decide +kernel
theorem dX7_longestRow_73 : decode cX7_longestRow 73 = .ok (.aload_n 2, 1) := by decide +kernel
theorem dX7_longestRow_74 : decode cX7_longestRow 74 = .ok (.iload 6, 2) := by decide +kernel
theorem dX7_longestRow_76 : decode cX7_longestRow 76 = .ok (.iload 7, 2) := by decide +kernel
theorem dX7_longestRow_78 : decode cX7_longestRow 78 = .ok (.iastore, 1) := by decide +kernel
theorem dX7_longestRow_79 : decode cX7_longestRow 79 = .ok (.iload_n 3, 1) := by decide +kernel
theorem dX7_longestRow_80 : decode cX7_longestRow 80 = .ok (.iload 7, 2) := by decide +kernel
theorem dX7_longestRow_82 : decode cX7_longestRow 82 = .ok (.invokestatic 85, 3) := by decide +kernel
theorem dX7_longestRow_85 : decode cX7_longestRow 85 = .ok (.istore_n 3, 1) := by decide +kernel
theorem dX7_longestRow_86 : decode cX7_longestRow 86 = .ok (.iinc 6 (-1), 3) := by decide +kernel
theorem dX7_longestRow_89 : decode cX7_longestRow 89 = .ok (.goto (-56), 3) := by decide +kernel
theorem dX7_longestRow_92 : decode cX7_longestRow 92 = .ok (.iload_n 3, 1) := by decide +kernel
theorem dX7_longestRow_93 : decode cX7_longestRow 93 = .ok (.aload_n 0, 1) := by decide +kernel
theorem dX7_longestRow_94 : decode cX7_longestRow 94 = .ok (.getfield 36, 3) := by decide +kernel
theorem dX7_longestRow_97 : decode cX7_longestRow 97 = .ok (.if_icmp .le 6, 3) := by decide +kernel
theorem dX7_longestRow_100 : decode cX7_longestRow 100 = .ok (.bipush (-2), 2) := by decide +kernel
theorem dX7_longestRow_102 : decode cX7_longestRow 102 = .ok (.ireturn, 1) := by decide +kernel
theorem dX7_longestRow_103 : decode cX7_longestRow 103 = .ok (.iload 5, 2) := by decide +kernel
theorem dX7_longestRow_105 : decode cX7_longestRow 105 = .ok (.ifCond .ne 5, 3) := by decide +kernel
theorem dX7_longestRow_108 : decode cX7_longestRow 108 = .ok (.iload_n 3, 1) := by decide +kernel
theorem dX7_longestRow_109 : decode cX7_longestRow 109 = .ok (.ireturn, 1) := by decide +kernel
theorem dX7_longestRow_110 : decode cX7_longestRow 110 = .ok (.iinc 4 1, 3) := by decide +kernel
theorem dX7_longestRow_113 : decode cX7_longestRow 113 = .ok (.goto (-103), 3) := by decide +kernel
theorem dX7_longestRow_116 : decode cX7_longestRow 116 = .ok (.bipush (-2), 2) := by decide +kernel
theorem dX7_longestRow_118 : decode cX7_longestRow 118 = .ok (.ireturn, 1) := by decide +kernel
set_option maxRecDepth 20000 in
theorem ggX7_rowFrom_X7_kindOf : GoodIn wsX7_rowFrom wsX7_kindOf := goodIn_r _ [9, 10, 29, 30, 31, 32, 33, 34, 35, 36, 37] (by decide +kernel) (by decide +kernel)
set_option maxRecDepth 20000 in
theorem gX7_rowFrom_X7_kindOf : GoodIn wsX7_rowFrom (wsV RX7 53 RX7 yX7_kindOf wsX7_kindOf) := goodIn_app (goodIn_of _ (by decide +kernel)) ggX7_rowFrom_X7_kindOf
set_option maxRecDepth 20000 in
theorem ggX7_rowFrom_X7_labelsOf : GoodIn wsX7_rowFrom wsX7_labelsOf := goodIn_r _ [14, 15, 29, 30, 31, 32, 33, 34, 35, 36, 37] (by decide +kernel) (by decide +kernel)
set_option maxRecDepth 20000 in
theorem gX7_rowFrom_X7_labelsOf : GoodIn wsX7_rowFrom (wsV RX7 60 RX7 yX7_labelsOf wsX7_labelsOf) := goodIn_app (goodIn_of _ (by decide +kernel)) ggX7_rowFrom_X7_labelsOf
set_option maxRecDepth 20000 in
theorem ggX7_rowFrom_J6_bitCount_0f7a4 : GoodIn wsX7_rowFrom wsJ6_bitCount_0f7a4 := goodIn_r _ [19, 20, 21, 22] (by decide +kernel) (by decide +kernel)
set_option maxRecDepth 20000 in
theorem gX7_rowFrom_J6_bitCount_0f7a4 : GoodIn wsX7_rowFrom (va_wsS RX7 63 yJ6_bitCount_0f7a4 wsJ6_bitCount_0f7a4) := goodIn_app (goodIn_of _ (by decide +kernel)) ggX7_rowFrom_J6_bitCount_0f7a4
set_option maxRecDepth 20000 in
theorem ggX7_rowFrom_X7_stepOf : GoodIn wsX7_rowFrom wsX7_stepOf := goodIn_r _ [26, 27, 28, 29, 30, 31, 32, 33, 34, 35, 36, 37] (by decide +kernel) (by decide +kernel)
set_option maxRecDepth 20000 in
theorem gX7_rowFrom_X7_stepOf : GoodIn wsX7_rowFrom (wsV RX7 56 RX7 yX7_stepOf wsX7_stepOf) := goodIn_app (goodIn_of _ (by decide +kernel)) ggX7_rowFrom_X7_stepOf
theorem dX7_rowFrom_0 : decode cX7_rowFrom 0 = .ok (.aload_n 0, 1) := by decide +kernel
theorem dX7_rowFrom_1 : decode cX7_rowFrom 1 = .ok (.iload_n 1, 1) := by decide +kernel
theorem dX7_rowFrom_2 : decode cX7_rowFrom 2 = .ok (.invokevirtual 53, 3) := by decide +kernel
theorem dX7_rowFrom_5 : decode cX7_rowFrom 5 = .ok (.istore 4, 2) := by decide +kernel
theorem dX7_rowFrom_7 : decode cX7_rowFrom 7 = .ok (.iload_n 2, 1) := by decide +kernel
theorem dX7_rowFrom_8 : decode cX7_rowFrom 8 = .ok (.ifCond .ne 23, 3) := by decide +kernel
theorem dX7_rowFrom_11 : decode cX7_rowFrom 11 = .ok (.iload 4, 2) := by decide +kernel
theorem dX7_rowFrom_13 : decode cX7_rowFrom 13 = .ok (.iconst 1, 1) := by decide +kernel
theorem dX7_rowFrom_14 : decode cX7_rowFrom 14 = .ok (.if_icmp .eq 9, 3) := by decide +kernel
theorem dX7_rowFrom_17 : decode cX7_rowFrom 17 = .ok (.iload 4, 2) := by decide +kernel
theorem dX7_rowFrom_19 : decode cX7_rowFrom 19 = .ok (.iconst 3, 1) := by decide +kernel
theorem dX7_rowFrom_20 : decode cX7_rowFrom 20 = .ok (.if_icmp .ne 7, 3) := by decide +kernel
theorem dX7_rowFrom_23 : decode cX7_rowFrom 23 = .ok (.iconst 1, 1) := by decide +kernel
theorem dX7_rowFrom_24 : decode cX7_rowFrom 24 = .ok (.goto 24, 3) := by decide +kernel
theorem dX7_rowFrom_27 : decode cX7_rowFrom 27 = .ok (.iconst 0, 1) := by decide +kernel
theorem dX7_rowFrom_28 : decode cX7_rowFrom 28 = .ok (.goto 20, 3) := by decide +kernel
theorem dX7_rowFrom_31 : decode cX7_rowFrom 31 = .ok (.iload 4, 2) := by decide +kernel
theorem dX7_rowFrom_33 : decode cX7_rowFrom 33 = .ok (.iconst 2, 1) := by decide +kernel
theorem dX7_rowFrom_34 : decode cX7_rowFrom 34 = .ok (.if_icmp .eq 9, 3) := by decide +kernel
theorem dX7_rowFrom_37 : decode cX7_rowFrom 37 = .ok (.iload 4, 2) := by decide +kernel
theorem dX7_rowFrom_39 : decode cX7_rowFrom 39 = .ok (.iconst 4, 1) := by decide +kernel
theorem dX7_rowFrom_40 : decode cX7_rowFrom 40 = .ok (.if_icmp .ne 7, 3) := by decide +kernel
theorem dX7_rowFrom_43 : decode cX7_rowFrom 43 = .ok (.iconst 1, 1) := by decide +kernel
theorem dX7_rowFrom_44 : decode cX7_rowFrom 44 = .ok (.goto 4, 3) := by decide +kernel
theorem dX7_rowFrom_47 : decode cX7_rowFrom 47 = .ok (.iconst 0, 1) := by decide +kernel
theorem dX7_rowFrom_48 : decode cX7_rowFrom 48 = .ok (.istore 5, 2) := by decide +kernel
theorem dX7_rowFrom_50 : decode cX7_rowFrom 50 = .ok (.iload 5, 2) := by decide +kernel
theorem dX7_rowFrom_52 : decode cX7_rowFrom 52 = .ok (.ifCond .ne 5, 3) := by decide +kernel
theorem dX7_rowFrom_55 : decode cX7_rowFrom 55 = .ok (.iconst 0, 1) := by decide +kernel
theorem dX7_rowFrom_56 : decode cX7_rowFrom 56 = .ok (.ireturn, 1) := by decide +kernel
theorem dX7_rowFrom_57 : decode cX7_rowFrom 57 = .ok (.iload 4, 2) := by decide +kernel
theorem dX7_rowFrom_59 : decode cX7_rowFrom 59 = .ok (.iconst 3, 1) := by decide +kernel
theorem dX7_rowFrom_60 : decode cX7_rowFrom 60 = .ok (.if_icmp .eq 9, 3) := by decide +kernel
theorem dX7_rowFrom_63 : decode cX7_rowFrom 63 = .ok (.iload 4, 2) := by decide +kernel
theorem dX7_rowFrom_65 : decode cX7_rowFrom 65 = .ok (.iconst 4, 1) := by decide +kernel
theorem dX7_rowFrom_66 : decode cX7_rowFrom 66 = .ok (.if_icmp .ne 14, 3) := by decide +kernel
theorem dX7_rowFrom_69 : decode cX7_rowFrom 69 = .ok (.aload_n 0, 1) := by decide +kernel
theorem dX7_rowFrom_70 : decode cX7_rowFrom 70 = .ok (.iload_n 1, 1) := by decide +kernel
theorem dX7_rowFrom_71 : decode cX7_rowFrom 71 = .ok (.invokevirtual 60, 3) := by decide +kernel
theorem dX7_rowFrom_74 : decode cX7_rowFrom 74 = .ok (.invokestatic 63, 3) := by decide +kernel
theorem dX7_rowFrom_77 : decode cX7_rowFrom 77 = .ok (.goto 4, 3) := by decide +kernel
theorem dX7_rowFrom_80 : decode cX7_rowFrom 80 = .ok (.iconst 1, 1) := by decide +kernel
theorem dX7_rowFrom_81 : decode cX7_rowFrom 81 = .ok (.istore 6, 2) := by decide +kernel
theorem dX7_rowFrom_83 : decode cX7_rowFrom 83 = .ok (.iconst 0, 1) := by decide +kernel
theorem dX7_rowFrom_84 : decode cX7_rowFrom 84 = .ok (.istore 7, 2) := by decide +kernel
theorem dX7_rowFrom_86 : decode cX7_rowFrom 86 = .ok (.iconst 0, 1) := by decide +kernel
theorem dX7_rowFrom_87 : decode cX7_rowFrom 87 = .ok (.istore 8, 2) := by decide +kernel
theorem dX7_rowFrom_89 : decode cX7_rowFrom 89 = .ok (.iload 8, 2) := by decide +kernel
theorem dX7_rowFrom_91 : decode cX7_rowFrom 91 = .ok (.iload 6, 2) := by decide +kernel
theorem dX7_rowFrom_93 : decode cX7_rowFrom 93 = .ok (.if_icmp .ge 41, 3) := by decide +kernel
theorem dX7_rowFrom_96 : decode cX7_rowFrom 96 = .ok (.aload_n 0, 1) := by decide +kernel
theorem dX7_rowFrom_97 : decode cX7_rowFrom 97 = .ok (.iload_n 1, 1) := by decide +kernel
theorem dX7_rowFrom_98 : decode cX7_rowFrom 98 = .ok (.iload 8, 2) := by decide +kernel
theorem dX7_rowFrom_100 : decode cX7_rowFrom 100 = .ok (.invokevirtual 56, 3) := by decide +kernel
theorem dX7_rowFrom_103 : decode cX7_rowFrom 103 = .ok (.istore 9, 2) := by decide +kernel
theorem dX7_rowFrom_105 : decode cX7_rowFrom 105 = .ok (.iload 9, 2) := by decide +kernel
theorem dX7_rowFrom_107 : decode cX7_rowFrom 107 = .ok (.ifCond .lt 21, 3) := by decide +kernel
theorem dX7_rowFrom_110 : decode cX7_rowFrom 110 = .ok (.iload 9, 2) := by decide +kernel
theorem dX7_rowFrom_112 : decode cX7_rowFrom 112 = .ok (.aload_n 3, 1) := by decide +kernel
theorem dX7_rowFrom_113 : decode cX7_rowFrom 113 = .ok (.arraylength, 1) := by decide +kernel
theorem dX7_rowFrom_114 : decode cX7_rowFrom 114 = .ok (.if_icmp .ge 14, 3) := by decide +kernel
theorem dX7_rowFrom_117 : decode cX7_rowFrom 117 = .ok (.iload 7, 2) := by decide +kernel
theorem dX7_rowFrom_119 : decode cX7_rowFrom 119 = .ok (.aload_n 3, 1) := by decide +kernel
theorem dX7_rowFrom_120 : decode cX7_rowFrom 120 = .ok (.iload 9, 2) := by decide +kernel
theorem dX7_rowFrom_122 : decode cX7_rowFrom 122 = .ok (.iaload, 1) := by decide +kernel
theorem dX7_rowFrom_123 : decode cX7_rowFrom 123 = .ok (.invokestatic 85, 3) := by decide +kernel
theorem dX7_rowFrom_126 : decode cX7_rowFrom 126 = .ok (.istore 7, 2) := by decide +kernel
theorem dX7_rowFrom_128 : decode cX7_rowFrom 128 = .ok (.iinc 8 1, 3) := by decide +kernel
theorem dX7_rowFrom_131 : decode cX7_rowFrom 131 = .ok (.goto (-42), 3) := by decide +kernel
theorem dX7_rowFrom_134 : decode cX7_rowFrom 134 = .ok (.iconst 1, 1) := by decide +kernel
theorem dX7_rowFrom_135 : decode cX7_rowFrom 135 = .ok (.iload 7, 2) := by decide +kernel
theorem dX7_rowFrom_137 : decode cX7_rowFrom 137 = .ok (.iadd, 1) := by decide +kernel
theorem dX7_rowFrom_138 : decode cX7_rowFrom 138 = .ok (.ireturn, 1) := by decide +kernel
