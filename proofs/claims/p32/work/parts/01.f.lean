set_option maxRecDepth 20000 in
theorem ggX11_init_X8_init : GoodIn wsX11_init wsX8_init := goodIn_r _ [39, 40, 2, 3, 41, 42, 43, 44, 6, 45, 46, 47, 48, 49, 50, 51, 52, 53, 54, 55, 56, 57, 58, 192, 193, 194, 195, 196, 197, 198, 199, 200, 144, 145, 146, 147, 148] (by decide +kernel) (by decide +kernel)
set_option maxRecDepth 20000 in
theorem gX11_init_X8_init_n21 : GoodIn wsX11_init (wsX8_init) := ggX11_init_X8_init
set_option maxRecDepth 20000 in
theorem ggX11_init_X6_init : GoodIn wsX11_init wsX6_init := goodIn_r _ [60, 61, 2, 3, 62, 63, 64, 65, 6, 66, 67, 68, 69, 70, 71, 72, 201, 202, 203, 204, 205, 149, 150, 151, 152] (by decide +kernel) (by decide +kernel)
set_option maxRecDepth 20000 in
theorem gX11_init_X6_init_n28 : GoodIn wsX11_init (wsX6_init) := ggX11_init_X6_init
set_option maxRecDepth 20000 in
theorem ggX11_init_X10_init : GoodIn wsX11_init wsX10_init := goodIn_r _ [74, 75, 2, 3, 6, 76, 153, 154] (by decide +kernel) (by decide +kernel)
set_option maxRecDepth 20000 in
theorem gX11_init_X10_init_n35 : GoodIn wsX11_init (wsX10_init) := ggX11_init_X10_init
set_option maxRecDepth 20000 in
theorem ggX11_init_X1_init : GoodIn wsX11_init wsX1_init := goodIn_r _ [78, 79, 2, 3, 80, 81, 6, 82, 155, 156, 157] (by decide +kernel) (by decide +kernel)
set_option maxRecDepth 20000 in
theorem gX11_init_X1_init_n42 : GoodIn wsX11_init (wsX1_init) := ggX11_init_X1_init
set_option maxRecDepth 20000 in
theorem ggX11_init_X3_init : GoodIn wsX11_init wsX3_init := goodIn_r _ [85, 86, 2, 3, 6, 87, 80, 88, 89, 90, 91, 92, 158, 159, 160, 161, 162, 163, 164, 165] (by decide +kernel) (by decide +kernel)
set_option maxRecDepth 20000 in
theorem gX11_init_X3_init : GoodIn wsX11_init (wsX3_init) := ggX11_init_X3_init
set_option maxRecDepth 20000 in
theorem ggX11_init_X4_init : GoodIn wsX11_init wsX4_init := goodIn_r _ [95, 96, 2, 3, 80, 97, 6, 98, 99, 100, 101, 102, 103, 104, 105, 106, 166, 167, 168, 169, 170, 171, 172, 173, 174, 175, 176, 177, 178, 179, 180] (by decide +kernel) (by decide +kernel)
set_option maxRecDepth 20000 in
theorem gX11_init_X4_init : GoodIn wsX11_init (wsX4_init) := ggX11_init_X4_init
set_option maxRecDepth 20000 in
theorem ggX11_init_X9_init : GoodIn wsX11_init wsX9_init := goodIn_r _ [109, 110, 2, 3, 111, 112, 113, 114, 115, 116, 117, 118, 119, 120, 121, 63, 64, 122, 123, 124, 6, 125, 126, 127, 128, 129, 130, 67, 68, 69, 70, 71, 72, 181, 182, 183, 184, 185, 186, 187, 188, 189, 190, 191, 206, 207, 208, 209, 210, 211, 212, 213, 214, 215, 216, 217, 218, 219, 201, 202, 203, 204, 205] (by decide +kernel) (by decide +kernel)
set_option maxRecDepth 20000 in
theorem gX11_init_X9_init : GoodIn wsX11_init (wsX9_init) := ggX11_init_X9_init
theorem dX11_init_0 : decode cX11_init 0 = .ok (.aload_n 0, 1) := by decide +kernel
theorem dX11_init_1 : decode cX11_init 1 = .ok (.invokespecial 1, 3) := by decide +kernel
theorem dX11_init_4 : decode cX11_init 4 = .ok (.aload_n 0, 1) := by decide +kernel
theorem dX11_init_5 : decode cX11_init 5 = .ok (.bipush 16, 2) := by decide +kernel
theorem dX11_init_7 : decode cX11_init 7 = .ok (.anewarray 9, 3) := by decide +kernel
theorem dX11_init_10 : decode cX11_init 10 = .ok (.putfield 11, 3) := by decide +kernel
theorem dX11_init_13 : decode cX11_init 13 = .ok (.aload_n 0, 1) := by decide +kernel
theorem dX11_init_14 : decode cX11_init 14 = .ok (.sipush 200, 3) := by decide +kernel
theorem dX11_init_17 : decode cX11_init 17 = .ok (.newarray .int, 2) := by decide +kernel
theorem dX11_init_19 : decode cX11_init 19 = .ok (.putfield 15, 3) := by decide +kernel
theorem dX11_init_22 : decode cX11_init 22 = .ok (.aload_n 0, 1) := by decide +kernel
theorem dX11_init_23 : decode cX11_init 23 = .ok (.new 19, 3) := by decide +kernel
theorem dX11_init_26 : decode cX11_init 26 = .ok (.dup, 1) := by decide +kernel
theorem dX11_init_27 : decode cX11_init 27 = .ok (.invokespecial 21, 3) := by decide +kernel
theorem dX11_init_30 : decode cX11_init 30 = .ok (.putfield 22, 3) := by decide +kernel
theorem dX11_init_33 : decode cX11_init 33 = .ok (.aload_n 0, 1) := by decide +kernel
theorem dX11_init_34 : decode cX11_init 34 = .ok (.new 26, 3) := by decide +kernel
theorem dX11_init_37 : decode cX11_init 37 = .ok (.dup, 1) := by decide +kernel
theorem dX11_init_38 : decode cX11_init 38 = .ok (.invokespecial 28, 3) := by decide +kernel
theorem dX11_init_41 : decode cX11_init 41 = .ok (.putfield 29, 3) := by decide +kernel
theorem dX11_init_44 : decode cX11_init 44 = .ok (.aload_n 0, 1) := by decide +kernel
theorem dX11_init_45 : decode cX11_init 45 = .ok (.new 33, 3) := by decide +kernel
theorem dX11_init_48 : decode cX11_init 48 = .ok (.dup, 1) := by decide +kernel
theorem dX11_init_49 : decode cX11_init 49 = .ok (.invokespecial 35, 3) := by decide +kernel
theorem dX11_init_52 : decode cX11_init 52 = .ok (.putfield 36, 3) := by decide +kernel
theorem dX11_init_55 : decode cX11_init 55 = .ok (.aload_n 0, 1) := by decide +kernel
theorem dX11_init_56 : decode cX11_init 56 = .ok (.new 40, 3) := by decide +kernel
theorem dX11_init_59 : decode cX11_init 59 = .ok (.dup, 1) := by decide +kernel
theorem dX11_init_60 : decode cX11_init 60 = .ok (.invokespecial 42, 3) := by decide +kernel
theorem dX11_init_63 : decode cX11_init 63 = .ok (.putfield 43, 3) := by decide +kernel
theorem dX11_init_66 : decode cX11_init 66 = .ok (.aload_n 0, 1) := by decide +kernel
theorem dX11_init_67 : decode cX11_init 67 = .ok (.new 47, 3) := by decide +kernel
theorem dX11_init_70 : decode cX11_init 70 = .ok (.dup, 1) := by decide +kernel
theorem dX11_init_71 : decode cX11_init 71 = .ok (.aload_n 0, 1) := by decide +kernel
theorem dX11_init_72 : decode cX11_init 72 = .ok (.getfield 43, 3) := by decide +kernel
theorem dX11_init_75 : decode cX11_init 75 = .ok (.invokespecial 49, 3) := by decide +kernel
theorem dX11_init_78 : decode cX11_init 78 = .ok (.putfield 52, 3) := by decide +kernel
theorem dX11_init_81 : decode cX11_init 81 = .ok (.aload_n 0, 1) := by decide +kernel
theorem dX11_init_82 : decode cX11_init 82 = .ok (.new 56, 3) := by decide +kernel
theorem dX11_init_85 : decode cX11_init 85 = .ok (.dup, 1) := by decide +kernel
theorem dX11_init_86 : decode cX11_init 86 = .ok (.aload_n 0, 1) := by decide +kernel
theorem dX11_init_87 : decode cX11_init 87 = .ok (.getfield 43, 3) := by decide +kernel
theorem dX11_init_90 : decode cX11_init 90 = .ok (.invokespecial 58, 3) := by decide +kernel
theorem dX11_init_93 : decode cX11_init 93 = .ok (.putfield 59, 3) := by decide +kernel
theorem dX11_init_96 : decode cX11_init 96 = .ok (.aload_n 0, 1) := by decide +kernel
theorem dX11_init_97 : decode cX11_init 97 = .ok (.bipush 60, 2) := by decide +kernel
theorem dX11_init_99 : decode cX11_init 99 = .ok (.newarray .int, 2) := by decide +kernel
theorem dX11_init_101 : decode cX11_init 101 = .ok (.putfield 63, 3) := by decide +kernel
theorem dX11_init_104 : decode cX11_init 104 = .ok (.aload_n 0, 1) := by decide +kernel
theorem dX11_init_105 : decode cX11_init 105 = .ok (.new 66, 3) := by decide +kernel
theorem dX11_init_108 : decode cX11_init 108 = .ok (.dup, 1) := by decide +kernel
theorem dX11_init_109 : decode cX11_init 109 = .ok (.invokespecial 68, 3) := by decide +kernel
theorem dX11_init_112 : decode cX11_init 112 = .ok (.putfield 69, 3) := by decide +kernel
theorem dX11_init_115 : decode cX11_init 115 = .ok (.aload_n 0, 1) := by decide +kernel
theorem dX11_init_116 : decode cX11_init 116 = .ok (.new 66, 3) := by decide +kernel
theorem dX11_init_119 : decode cX11_init 119 = .ok (.dup, 1) := by decide +kernel
theorem dX11_init_120 : decode cX11_init 120 = .ok (.invokespecial 68, 3) := by decide +kernel
theorem dX11_init_123 : decode cX11_init 123 = .ok (.putfield 73, 3) := by decide +kernel
theorem dX11_init_126 : decode cX11_init 126 = .ok (.return_, 1) := by decide +kernel
theorem dX11_feed_0 : decode cX11_feed 0 = .ok (.iload_n 1, 1) := by decide +kernel
theorem dX11_feed_1 : decode cX11_feed 1 = .ok (.iconst 1, 1) := by decide +kernel
theorem dX11_feed_2 : decode cX11_feed 2 = .ok (.if_icmp .lt 10, 3) := by decide +kernel
theorem dX11_feed_5 : decode cX11_feed 5 = .ok (.iload_n 1, 1) := by decide +kernel
theorem dX11_feed_6 : decode cX11_feed 6 = .ok (.sipush 255, 3) := by decide +kernel
theorem dX11_feed_9 : decode cX11_feed 9 = .ok (.if_icmp .le 5, 3) := by decide +kernel
theorem dX11_feed_12 : decode cX11_feed 12 = .ok (.iconst (-1), 1) := by decide +kernel
theorem dX11_feed_13 : decode cX11_feed 13 = .ok (.ireturn, 1) := by decide +kernel
theorem dX11_feed_14 : decode cX11_feed 14 = .ok (.aload_n 0, 1) := by decide +kernel
theorem dX11_feed_15 : decode cX11_feed 15 = .ok (.getfield 76, 3) := by decide +kernel
theorem dX11_feed_18 : decode cX11_feed 18 = .ok (.ifCond .lt 15, 3) := by decide +kernel
theorem dX11_feed_21 : decode cX11_feed 21 = .ok (.aload_n 0, 1) := by decide +kernel
theorem dX11_feed_22 : decode cX11_feed 22 = .ok (.getfield 76, 3) := by decide +kernel
theorem dX11_feed_25 : decode cX11_feed 25 = .ok (.aload_n 0, 1) := by decide +kernel
theorem dX11_feed_26 : decode cX11_feed 26 = .ok (.getfield 15, 3) := by decide +kernel
theorem dX11_feed_29 : decode cX11_feed 29 = .ok (.arraylength, 1) := by decide +kernel
theorem dX11_feed_30 : decode cX11_feed 30 = .ok (.if_icmp .lt 6, 3) := by decide +kernel
theorem dX11_feed_33 : decode cX11_feed 33 = .ok (.bipush (-3), 2) := by decide +kernel
theorem dX11_feed_35 : decode cX11_feed 35 = .ok (.ireturn, 1) := by decide +kernel
theorem dX11_feed_36 : decode cX11_feed 36 = .ok (.aload_n 0, 1) := by decide +kernel
theorem dX11_feed_37 : decode cX11_feed 37 = .ok (.getfield 15, 3) := by decide +kernel
theorem dX11_feed_40 : decode cX11_feed 40 = .ok (.aload_n 0, 1) := by decide +kernel
theorem dX11_feed_41 : decode cX11_feed 41 = .ok (.getfield 76, 3) := by decide +kernel
theorem dX11_feed_44 : decode cX11_feed 44 = .ok (.iload_n 1, 1) := by decide +kernel
theorem dX11_feed_45 : decode cX11_feed 45 = .ok (.iastore, 1) := by decide +kernel
theorem dX11_feed_46 : decode cX11_feed 46 = .ok (.aload_n 0, 1) := by decide +kernel
theorem dX11_feed_47 : decode cX11_feed 47 = .ok (.dup, 1) := by decide +kernel
theorem dX11_feed_48 : decode cX11_feed 48 = .ok (.getfield 76, 3) := by decide +kernel
theorem dX11_feed_51 : decode cX11_feed 51 = .ok (.iconst 1, 1) := by decide +kernel
theorem dX11_feed_52 : decode cX11_feed 52 = .ok (.iadd, 1) := by decide +kernel
theorem dX11_feed_53 : decode cX11_feed 53 = .ok (.putfield 76, 3) := by decide +kernel
theorem dX11_feed_56 : decode cX11_feed 56 = .ok (.aload_n 0, 1) := by decide +kernel
theorem dX11_feed_57 : decode cX11_feed 57 = .ok (.getfield 76, 3) := by decide +kernel
theorem dX11_feed_60 : decode cX11_feed 60 = .ok (.ireturn, 1) := by decide +kernel
set_option maxRecDepth 20000 in
theorem ggX11_define_X8_read : GoodIn wsX11_define wsX8_read := goodIn_r _ [14, 15, 16, 17, 18, 19, 20, 21, 22, 23, 24, 25, 26, 13, 27, 28, 29, 30, 31, 32, 33, 34, 35, 36, 37, 38, 39, 40, 41, 42, 43, 44, 45, 46, 47, 48, 49, 50, 51, 52, 53, 54, 55, 56, 7, 57, 58, 59, 60, 61, 62, 63, 64, 65, 66, 67, 68, 69, 70, 71, 72, 73, 74, 75, 76, 77, 78, 79, 80, 81, 82, 83, 84, 85, 86, 87, 88, 89, 90, 91, 92, 93, 94, 95, 96, 97, 98, 99, 100, 101, 102, 103, 104, 105, 106, 107, 108, 109, 159, 160, 161, 162, 163, 150, 151, 152, 153, 154, 155, 156, 157, 158] (by decide +kernel) (by decide +kernel)
set_option maxRecDepth 20000 in
theorem gX11_define_X8_read : GoodIn wsX11_define (wsV RX11 80 RX8 yX8_read wsX8_read) := goodIn_app (goodIn_of _ (by decide +kernel)) ggX11_define_X8_read
set_option maxRecDepth 20000 in
theorem ggX11_define_X7_init_ : GoodIn wsX11_define wsX7_init_ := goodIn_r _ [112, 113, 114, 115, 116, 58, 117, 63, 87, 118, 119, 109, 120, 121, 122, 123, 124, 125, 126, 127, 128, 129, 130, 131, 132, 17, 18, 19, 133, 134, 135, 136, 150, 151, 152, 153, 154, 155, 156, 157, 158] (by decide +kernel) (by decide +kernel)
set_option maxRecDepth 20000 in
theorem gX11_define_X7_init_ : GoodIn wsX11_define (wsX7_init_) := ggX11_define_X7_init_
theorem dX11_define_0 : decode cX11_define 0 = .ok (.iload_n 1, 1) := by decide +kernel
theorem dX11_define_1 : decode cX11_define 1 = .ok (.ifCond .lt 12, 3) := by decide +kernel
theorem dX11_define_4 : decode cX11_define 4 = .ok (.iload_n 1, 1) := by decide +kernel
theorem dX11_define_5 : decode cX11_define 5 = .ok (.aload_n 0, 1) := by decide +kernel
theorem dX11_define_6 : decode cX11_define 6 = .ok (.getfield 11, 3) := by decide +kernel
theorem dX11_define_9 : decode cX11_define 9 = .ok (.arraylength, 1) := by decide +kernel
theorem dX11_define_10 : decode cX11_define 10 = .ok (.if_icmp .lt 5, 3) := by decide +kernel
theorem dX11_define_13 : decode cX11_define 13 = .ok (.iconst (-1), 1) := by decide +kernel
theorem dX11_define_14 : decode cX11_define 14 = .ok (.ireturn, 1) := by decide +kernel
theorem dX11_define_15 : decode cX11_define 15 = .ok (.aload_n 0, 1) := by decide +kernel
theorem dX11_define_16 : decode cX11_define 16 = .ok (.getfield 22, 3) := by decide +kernel
theorem dX11_define_19 : decode cX11_define 19 = .ok (.aload_n 0, 1) := by decide +kernel
theorem dX11_define_20 : decode cX11_define 20 = .ok (.getfield 15, 3) := by decide +kernel
theorem dX11_define_23 : decode cX11_define 23 = .ok (.aload_n 0, 1) := by decide +kernel
theorem dX11_define_24 : decode cX11_define 24 = .ok (.getfield 76, 3) := by decide +kernel
theorem dX11_define_27 : decode cX11_define 27 = .ok (.invokevirtual 80, 3) := by decide +kernel
theorem dX11_define_30 : decode cX11_define 30 = .ok (.istore_n 2, 1) := by decide +kernel
theorem dX11_define_31 : decode cX11_define 31 = .ok (.aload_n 0, 1) := by decide +kernel
theorem dX11_define_32 : decode cX11_define 32 = .ok (.iconst 0, 1) := by decide +kernel
theorem dX11_define_33 : decode cX11_define 33 = .ok (.putfield 76, 3) := by decide +kernel
theorem dX11_define_36 : decode cX11_define 36 = .ok (.iload_n 2, 1) := by decide +kernel
theorem dX11_define_37 : decode cX11_define 37 = .ok (.ifCond .lt 8, 3) := by decide +kernel
theorem dX11_define_40 : decode cX11_define 40 = .ok (.bipush (-100), 2) := by decide +kernel
theorem dX11_define_42 : decode cX11_define 42 = .ok (.iload_n 2, 1) := by decide +kernel
theorem dX11_define_43 : decode cX11_define 43 = .ok (.isub, 1) := by decide +kernel
theorem dX11_define_44 : decode cX11_define 44 = .ok (.ireturn, 1) := by decide +kernel
theorem dX11_define_45 : decode cX11_define 45 = .ok (.new 9, 3) := by decide +kernel
theorem dX11_define_48 : decode cX11_define 48 = .ok (.dup, 1) := by decide +kernel
theorem dX11_define_49 : decode cX11_define 49 = .ok (.aload_n 0, 1) := by decide +kernel
theorem dX11_define_50 : decode cX11_define 50 = .ok (.getfield 22, 3) := by decide +kernel
theorem dX11_define_53 : decode cX11_define 53 = .ok (.getfield 84, 3) := by decide +kernel
theorem dX11_define_56 : decode cX11_define 56 = .ok (.invokespecial 88, 3) := by decide +kernel
theorem dX11_define_59 : decode cX11_define 59 = .ok (.astore_n 3, 1) := by decide +kernel
theorem dX11_define_60 : decode cX11_define 60 = .ok (.aload_n 0, 1) := by decide +kernel
theorem dX11_define_61 : decode cX11_define 61 = .ok (.getfield 11, 3) := by decide +kernel
theorem dX11_define_64 : decode cX11_define 64 = .ok (.iload_n 1, 1) := by decide +kernel
theorem dX11_define_65 : decode cX11_define 65 = .ok (.aload_n 3, 1) := by decide +kernel
theorem dX11_define_66 : decode cX11_define 66 = .ok (.aastore, 1) := by decide +kernel
theorem dX11_define_67 : decode cX11_define 67 = .ok (.aload_n 3, 1) := by decide +kernel
theorem dX11_define_68 : decode cX11_define 68 = .ok (.getfield 91, 3) := by decide +kernel
theorem dX11_define_71 : decode cX11_define 71 = .ok (.ireturn, 1) := by decide +kernel
set_option maxRecDepth 20000 in
theorem ggX11_dual_X11_protocolAt : GoodIn wsX11_dual wsX11_protocolAt := goodIn_r _ [7, 1, 52, 53, 54, 55, 56, 57, 58, 59, 60, 61, 62, 63, 64] (by decide +kernel) (by decide +kernel)
set_option maxRecDepth 20000 in
theorem gX11_dual_X11_protocolAt : GoodIn wsX11_dual (wsV RX11 94 RX11 yX11_protocolAt wsX11_protocolAt) := goodIn_app (goodIn_of _ (by decide +kernel)) ggX11_dual_X11_protocolAt
set_option maxRecDepth 20000 in
theorem ggX11_dual_X7_turned : GoodIn wsX11_dual wsX7_turned := goodIn_r _ [12, 13, 14, 11, 15, 16, 17, 18, 19, 20, 21, 22, 23, 24, 25, 26, 27, 28, 29, 30, 31, 32, 33, 34, 35, 36, 37, 38, 39, 40, 41, 42, 43, 44, 45, 46, 47, 48, 49, 50, 51, 65, 66, 67, 68, 69, 70, 71, 72, 73] (by decide +kernel) (by decide +kernel)
set_option maxRecDepth 20000 in
theorem gX11_dual_X7_turned : GoodIn wsX11_dual (wsV RX11 98 RX7 yX7_turned wsX7_turned) := goodIn_app (goodIn_of _ (by decide +kernel)) ggX11_dual_X7_turned
theorem dX11_dual_0 : decode cX11_dual 0 = .ok (.aload_n 0, 1) := by decide +kernel
theorem dX11_dual_1 : decode cX11_dual 1 = .ok (.iload_n 1, 1) := by decide +kernel
theorem dX11_dual_2 : decode cX11_dual 2 = .ok (.invokevirtual 94, 3) := by decide +kernel
theorem dX11_dual_5 : decode cX11_dual 5 = .ok (.astore_n 3, 1) := by decide +kernel
theorem dX11_dual_6 : decode cX11_dual 6 = .ok (.aload_n 3, 1) := by decide +kernel
theorem dX11_dual_7 : decode cX11_dual 7 = .ok (.ifnull 16, 3) := by decide +kernel
theorem dX11_dual_10 : decode cX11_dual 10 = .ok (.iload_n 2, 1) := by decide +kernel
theorem dX11_dual_11 : decode cX11_dual 11 = .ok (.ifCond .lt 12, 3) := by decide +kernel
theorem dX11_dual_14 : decode cX11_dual 14 = .ok (.iload_n 2, 1) := by decide +kernel
theorem dX11_dual_15 : decode cX11_dual 15 = .ok (.aload_n 0, 1) := by decide +kernel
theorem dX11_dual_16 : decode cX11_dual 16 = .ok (.getfield 11, 3) := by decide +kernel
theorem dX11_dual_19 : decode cX11_dual 19 = .ok (.arraylength, 1) := by decide +kernel
theorem dX11_dual_20 : decode cX11_dual 20 = .ok (.if_icmp .lt 5, 3) := by decide +kernel
theorem dX11_dual_23 : decode cX11_dual 23 = .ok (.iconst (-1), 1) := by decide +kernel
theorem dX11_dual_24 : decode cX11_dual 24 = .ok (.ireturn, 1) := by decide +kernel
theorem dX11_dual_25 : decode cX11_dual 25 = .ok (.aload_n 3, 1) := by decide +kernel
theorem dX11_dual_26 : decode cX11_dual 26 = .ok (.invokevirtual 98, 3) := by decide +kernel
theorem dX11_dual_29 : decode cX11_dual 29 = .ok (.astore 4, 2) := by decide +kernel
theorem dX11_dual_31 : decode cX11_dual 31 = .ok (.aload_n 0, 1) := by decide +kernel
theorem dX11_dual_32 : decode cX11_dual 32 = .ok (.getfield 11, 3) := by decide +kernel
theorem dX11_dual_35 : decode cX11_dual 35 = .ok (.iload_n 2, 1) := by decide +kernel
theorem dX11_dual_36 : decode cX11_dual 36 = .ok (.aload 4, 2) := by decide +kernel
theorem dX11_dual_38 : decode cX11_dual 38 = .ok (.aastore, 1) := by decide +kernel
theorem dX11_dual_39 : decode cX11_dual 39 = .ok (.aload 4, 2) := by decide +kernel
theorem dX11_dual_41 : decode cX11_dual 41 = .ok (.getfield 91, 3) := by decide +kernel
theorem dX11_dual_44 : decode cX11_dual 44 = .ok (.ireturn, 1) := by decide +kernel
set_option maxRecDepth 20000 in
theorem ggX11_ask_X11_protocolAt : GoodIn wsX11_ask wsX11_protocolAt := goodIn_r _ [6, 7, 99, 100, 101, 102, 103, 104, 105, 106, 107, 108, 109, 110, 111] (by decide +kernel) (by decide +kernel)
set_option maxRecDepth 20000 in
theorem gX11_ask_X11_protocolAt : GoodIn wsX11_ask (wsV RX11 94 RX11 yX11_protocolAt wsX11_protocolAt) := goodIn_app (goodIn_of _ (by decide +kernel)) ggX11_ask_X11_protocolAt
set_option maxRecDepth 20000 in
theorem ggX11_ask_X7_statesOutside : GoodIn wsX11_ask wsX7_statesOutside := goodIn_r _ [12, 13, 14, 15, 16, 11, 17, 18, 19, 20, 21, 22, 23, 90, 91, 92, 93, 94, 95, 96, 97, 98] (by decide +kernel) (by decide +kernel)
set_option maxRecDepth 20000 in
theorem gX11_ask_X7_statesOutside : GoodIn wsX11_ask (wsV RX11 111 RX7 yX7_statesOutside wsX7_statesOutside) := goodIn_app (goodIn_of _ (by decide +kernel)) ggX11_ask_X7_statesOutside
set_option maxRecDepth 20000 in
theorem ggX11_ask_X11_unlikeStates : GoodIn wsX11_ask wsX11_unlikeStates := goodIn_r _ [27, 1, 28, 29, 15, 16, 11, 17, 18, 19, 20, 21, 22, 23, 30, 31, 32, 5, 33, 34, 35, 36, 37, 38, 39, 40, 41, 42, 43, 44, 45, 46, 47, 48, 49, 50, 51, 52, 53, 54, 55, 56, 57, 58, 59, 60, 61, 62, 63, 64, 65, 66, 67, 68, 69, 70, 71, 72, 73, 74, 75, 76, 77, 78, 79, 90, 91, 92, 93, 94, 95, 96, 97, 98, 99, 100, 101, 102, 103, 104, 105, 106, 107, 108, 109, 110, 111, 112, 113, 114] (by decide +kernel) (by decide +kernel)
set_option maxRecDepth 20000 in
theorem gX11_ask_X11_unlikeStates : GoodIn wsX11_ask (wsV RX11 115 RX11 yX11_unlikeStates wsX11_unlikeStates) := goodIn_app (goodIn_of _ (by decide +kernel)) ggX11_ask_X11_unlikeStates
set_option maxRecDepth 20000 in
theorem ggX11_ask_X7_deepest : GoodIn wsX11_ask wsX7_deepest := goodIn_r _ [83, 18, 90, 91, 92, 93, 94, 95, 96, 97, 98] (by decide +kernel) (by decide +kernel)
set_option maxRecDepth 20000 in
theorem gX11_ask_X7_deepest : GoodIn wsX11_ask (wsV RX11 119 RX7 yX7_deepest wsX7_deepest) := goodIn_app (goodIn_of _ (by decide +kernel)) ggX11_ask_X7_deepest
set_option maxRecDepth 20000 in
theorem ggX11_ask_X7_beginning : GoodIn wsX11_ask wsX7_beginning := goodIn_r _ [87, 66, 90, 91, 92, 93, 94, 95, 96, 97, 98] (by decide +kernel) (by decide +kernel)
set_option maxRecDepth 20000 in
theorem gX11_ask_X7_beginning : GoodIn wsX11_ask (wsV RX11 122 RX7 yX7_beginning wsX7_beginning) := goodIn_app (goodIn_of _ (by decide +kernel)) ggX11_ask_X7_beginning
set_option maxRecDepth 20000 in
theorem ggX11_ask_X7_kindOf : GoodIn wsX11_ask wsX7_kindOf := goodIn_r _ [22, 23, 90, 91, 92, 93, 94, 95, 96, 97, 98] (by decide +kernel) (by decide +kernel)
set_option maxRecDepth 20000 in
theorem gX11_ask_X7_kindOf : GoodIn wsX11_ask (wsV RX11 125 RX7 yX7_kindOf wsX7_kindOf) := goodIn_app (goodIn_of _ (by decide +kernel)) ggX11_ask_X7_kindOf
set_option maxRecDepth 20000 in
theorem ggX11_ask_X7_labelsOf : GoodIn wsX11_ask wsX7_labelsOf := goodIn_r _ [75, 76, 90, 91, 92, 93, 94, 95, 96, 97, 98] (by decide +kernel) (by decide +kernel)
set_option maxRecDepth 20000 in
theorem gX11_ask_X7_labelsOf : GoodIn wsX11_ask (wsV RX11 129 RX7 yX7_labelsOf wsX7_labelsOf) := goodIn_app (goodIn_of _ (by decide +kernel)) ggX11_ask_X7_labelsOf
theorem dX11_ask_0 : decode cX11_ask 0 = .ok (.aload_n 0, 1) := by decide +kernel
theorem dX11_ask_1 : decode cX11_ask 1 = .ok (.iload_n 1, 1) := by decide +kernel
theorem dX11_ask_2 : decode cX11_ask 2 = .ok (.invokevirtual 94, 3) := by decide +kernel
theorem dX11_ask_5 : decode cX11_ask 5 = .ok (.astore_n 3, 1) := by decide +kernel
theorem dX11_ask_6 : decode cX11_ask 6 = .ok (.aload_n 3, 1) := by decide +kernel
theorem dX11_ask_7 : decode cX11_ask 7 = .ok (.ifnonnull 5, 3) := by decide +kernel
theorem dX11_ask_10 : decode cX11_ask 10 = .ok (.iconst (-1), 1) := by decide +kernel
theorem dX11_ask_11 : decode cX11_ask 11 = .ok (.ireturn, 1) := by decide +kernel
theorem dX11_ask_12 : decode cX11_ask 12 = .ok (.iload_n 2, 1) := by decide +kernel
theorem dX11_ask_13 : decode cX11_ask 13 = .ok (.tableswitch 78 0 5 #[39, 44, 49, 55, 60, 69], 39) := by decide +kernel
theorem dX11_ask_52 : decode cX11_ask 52 = .ok (.aload_n 3, 1) := by decide +kernel
theorem dX11_ask_53 : decode cX11_ask 53 = .ok (.getfield 91, 3) := by decide +kernel
theorem dX11_ask_56 : decode cX11_ask 56 = .ok (.ireturn, 1) := by decide +kernel
theorem dX11_ask_57 : decode cX11_ask 57 = .ok (.aload_n 3, 1) := by decide +kernel
theorem dX11_ask_58 : decode cX11_ask 58 = .ok (.invokevirtual 111, 3) := by decide +kernel
theorem dX11_ask_61 : decode cX11_ask 61 = .ok (.ireturn, 1) := by decide +kernel
theorem dX11_ask_62 : decode cX11_ask 62 = .ok (.aload_n 0, 1) := by decide +kernel
theorem dX11_ask_63 : decode cX11_ask 63 = .ok (.aload_n 3, 1) := by decide +kernel
theorem dX11_ask_64 : decode cX11_ask 64 = .ok (.invokevirtual 115, 3) := by decide +kernel
theorem dX11_ask_67 : decode cX11_ask 67 = .ok (.ireturn, 1) := by decide +kernel
theorem dX11_ask_68 : decode cX11_ask 68 = .ok (.aload_n 3, 1) := by decide +kernel
theorem dX11_ask_69 : decode cX11_ask 69 = .ok (.invokevirtual 119, 3) := by decide +kernel
theorem dX11_ask_72 : decode cX11_ask 72 = .ok (.ireturn, 1) := by decide +kernel
theorem dX11_ask_73 : decode cX11_ask 73 = .ok (.aload_n 3, 1) := by decide +kernel
theorem dX11_ask_74 : decode cX11_ask 74 = .ok (.aload_n 3, 1) := by decide +kernel
theorem dX11_ask_75 : decode cX11_ask 75 = .ok (.invokevirtual 122, 3) := by decide +kernel
theorem dX11_ask_78 : decode cX11_ask 78 = .ok (.invokevirtual 125, 3) := by decide +kernel
theorem dX11_ask_81 : decode cX11_ask 81 = .ok (.ireturn, 1) := by decide +kernel
theorem dX11_ask_82 : decode cX11_ask 82 = .ok (.aload_n 3, 1) := by decide +kernel
theorem dX11_ask_83 : decode cX11_ask 83 = .ok (.aload_n 3, 1) := by decide +kernel
theorem dX11_ask_84 : decode cX11_ask 84 = .ok (.invokevirtual 122, 3) := by decide +kernel
theorem dX11_ask_87 : decode cX11_ask 87 = .ok (.invokevirtual 129, 3) := by decide +kernel
theorem dX11_ask_90 : decode cX11_ask 90 = .ok (.ireturn, 1) := by decide +kernel
theorem dX11_ask_91 : decode cX11_ask 91 = .ok (.iconst (-1), 1) := by decide +kernel
theorem dX11_ask_92 : decode cX11_ask 92 = .ok (.ireturn, 1) := by decide +kernel
set_option maxRecDepth 20000 in
theorem ggX11_fits_X11_protocolAt : GoodIn wsX11_fits wsX11_protocolAt := goodIn_r _ [6, 7, 62, 63, 64, 65, 66, 67, 68, 69, 70, 71, 72, 73, 74] (by decide +kernel) (by decide +kernel)
set_option maxRecDepth 20000 in
theorem gX11_fits_X11_protocolAt : GoodIn wsX11_fits (wsV RX11 94 RX11 yX11_protocolAt wsX11_protocolAt) := goodIn_app (goodIn_of _ (by decide +kernel)) ggX11_fits_X11_protocolAt
set_option maxRecDepth 20000 in
theorem ggX11_fits_X7_beginning : GoodIn wsX11_fits wsX7_beginning := goodIn_r _ [12, 13, 75, 76, 77, 78, 79, 80, 81, 82, 83] (by decide +kernel) (by decide +kernel)
set_option maxRecDepth 20000 in
theorem gX11_fits_X7_beginning : GoodIn wsX11_fits (wsV RX11 122 RX7 yX7_beginning wsX7_beginning) := goodIn_app (goodIn_of _ (by decide +kernel)) ggX11_fits_X7_beginning
set_option maxRecDepth 20000 in
theorem ggX11_fits_X1_holds : GoodIn wsX11_fits wsX1_holds := goodIn_r _ [18, 19, 20, 21, 22, 23, 24, 25, 26, 27, 28, 17, 29, 30, 31, 32, 33, 34, 35, 36, 11, 37, 38, 39, 40, 41, 42, 43, 44, 45, 46, 47, 48, 13, 49, 50, 51, 52, 53, 54, 55, 56, 57, 58, 59, 60, 61, 84, 85, 86, 75, 76, 77, 78, 79, 80, 81, 82, 83] (by decide +kernel) (by decide +kernel)
set_option maxRecDepth 20000 in
theorem gX11_fits_X1_holds : GoodIn wsX11_fits (wsV RX11 132 RX1 yX1_holds wsX1_holds) := goodIn_app (goodIn_of _ (by decide +kernel)) ggX11_fits_X1_holds
theorem dX11_fits_0 : decode cX11_fits 0 = .ok (.aload_n 0, 1) := by decide +kernel
theorem dX11_fits_1 : decode cX11_fits 1 = .ok (.iload_n 1, 1) := by decide +kernel
theorem dX11_fits_2 : decode cX11_fits 2 = .ok (.invokevirtual 94, 3) := by decide +kernel
theorem dX11_fits_5 : decode cX11_fits 5 = .ok (.astore_n 3, 1) := by decide +kernel
theorem dX11_fits_6 : decode cX11_fits 6 = .ok (.aload_n 0, 1) := by decide +kernel
theorem dX11_fits_7 : decode cX11_fits 7 = .ok (.iload_n 2, 1) := by decide +kernel
theorem dX11_fits_8 : decode cX11_fits 8 = .ok (.invokevirtual 94, 3) := by decide +kernel
theorem dX11_fits_11 : decode cX11_fits 11 = .ok (.astore 4, 2) := by decide +kernel
theorem dX11_fits_13 : decode cX11_fits 13 = .ok (.aload_n 3, 1) := by decide +kernel
theorem dX11_fits_14 : decode cX11_fits 14 = .ok (.ifnull 8, 3) := by decide +kernel
theorem dX11_fits_17 : decode cX11_fits 17 = .ok (.aload 4, 2) := by decide +kernel
theorem dX11_fits_19 : decode cX11_fits 19 = .ok (.ifnonnull 5, 3) := by decide +kernel
theorem dX11_fits_22 : decode cX11_fits 22 = .ok (.iconst (-1), 1) := by decide +kernel
theorem dX11_fits_23 : decode cX11_fits 23 = .ok (.ireturn, 1) := by decide +kernel
theorem dX11_fits_24 : decode cX11_fits 24 = .ok (.aload_n 0, 1) := by decide +kernel
theorem dX11_fits_25 : decode cX11_fits 25 = .ok (.getfield 43, 3) := by decide +kernel
theorem dX11_fits_28 : decode cX11_fits 28 = .ok (.aload_n 3, 1) := by decide +kernel
theorem dX11_fits_29 : decode cX11_fits 29 = .ok (.aload_n 3, 1) := by decide +kernel
theorem dX11_fits_30 : decode cX11_fits 30 = .ok (.invokevirtual 122, 3) := by decide +kernel
theorem dX11_fits_33 : decode cX11_fits 33 = .ok (.aload 4, 2) := by decide +kernel
theorem dX11_fits_35 : decode cX11_fits 35 = .ok (.aload 4, 2) := by decide +kernel
theorem dX11_fits_37 : decode cX11_fits 37 = .ok (.invokevirtual 122, 3) := by decide +kernel
theorem dX11_fits_40 : decode cX11_fits 40 = .ok (.iconst 0, 1) := by decide +kernel
theorem dX11_fits_41 : decode cX11_fits 41 = .ok (.invokevirtual 132, 3) := by decide +kernel
theorem dX11_fits_44 : decode cX11_fits 44 = .ok (.ifCond .eq 7, 3) := by decide +kernel
theorem dX11_fits_47 : decode cX11_fits 47 = .ok (.iconst 1, 1) := by decide +kernel
theorem dX11_fits_48 : decode cX11_fits 48 = .ok (.goto 4, 3) := by decide +kernel
theorem dX11_fits_51 : decode cX11_fits 51 = .ok (.iconst 0, 1) := by decide +kernel
theorem dX11_fits_52 : decode cX11_fits 52 = .ok (.ireturn, 1) := by decide +kernel
set_option maxRecDepth 20000 in
theorem ggX11_witness_X11_protocolAt : GoodIn wsX11_witness wsX11_protocolAt := goodIn_r _ [7, 8, 112, 113, 114, 115, 116, 117, 118, 119, 120, 121, 122, 123, 124] (by decide +kernel) (by decide +kernel)
set_option maxRecDepth 20000 in
theorem gX11_witness_X11_protocolAt : GoodIn wsX11_witness (wsV RX11 94 RX11 yX11_protocolAt wsX11_protocolAt) := goodIn_app (goodIn_of _ (by decide +kernel)) ggX11_witness_X11_protocolAt
set_option maxRecDepth 20000 in
theorem ggX11_witness_X7_beginning : GoodIn wsX11_witness wsX7_beginning := goodIn_r _ [13, 14, 133, 134, 135, 136, 137, 138, 139, 140, 141] (by decide +kernel) (by decide +kernel)
set_option maxRecDepth 20000 in
theorem gX11_witness_X7_beginning : GoodIn wsX11_witness (wsV RX11 122 RX7 yX7_beginning wsX7_beginning) := goodIn_app (goodIn_of _ (by decide +kernel)) ggX11_witness_X7_beginning
set_option maxRecDepth 20000 in
theorem ggX11_witness_X3_find : GoodIn wsX11_witness wsX3_find := goodIn_r _ [19, 20, 21, 22, 23, 24, 25, 26, 27, 28, 29, 30, 31, 18, 32, 33, 34, 35, 36, 37, 38, 39, 40, 12, 41, 42, 43, 44, 45, 46, 47, 48, 49, 50, 51, 52, 53, 54, 55, 56, 57, 58, 59, 60, 61, 14, 62, 63, 64, 65, 66, 67, 68, 69, 70, 71, 72, 73, 74, 75, 76, 77, 78, 79, 80, 81, 82, 83, 84, 85, 86, 87, 88, 89, 90, 91, 92, 93, 94, 95, 96, 97, 98, 99, 100, 101, 102, 103, 104, 105, 106, 107, 108, 109, 110, 111, 125, 126, 127, 128, 129, 130, 131, 132, 133, 134, 135, 136, 137, 138, 139, 140, 141, 142, 143, 144] (by decide +kernel) (by decide +kernel)
set_option maxRecDepth 20000 in
theorem gX11_witness_X3_find : GoodIn wsX11_witness (wsV RX11 136 RX3 yX3_find wsX3_find) := goodIn_app (goodIn_of _ (by decide +kernel)) ggX11_witness_X3_find
theorem dX11_witness_0 : decode cX11_witness 0 = .ok (.aload_n 0, 1) := by decide +kernel
theorem dX11_witness_1 : decode cX11_witness 1 = .ok (.iload_n 1, 1) := by decide +kernel
theorem dX11_witness_2 : decode cX11_witness 2 = .ok (.invokevirtual 94, 3) := by decide +kernel
theorem dX11_witness_5 : decode cX11_witness 5 = .ok (.astore 4, 2) := by decide +kernel
theorem dX11_witness_7 : decode cX11_witness 7 = .ok (.aload_n 0, 1) := by decide +kernel
theorem dX11_witness_8 : decode cX11_witness 8 = .ok (.iload_n 2, 1) := by decide +kernel
theorem dX11_witness_9 : decode cX11_witness 9 = .ok (.invokevirtual 94, 3) := by decide +kernel
theorem dX11_witness_12 : decode cX11_witness 12 = .ok (.astore 5, 2) := by decide +kernel
theorem dX11_witness_14 : decode cX11_witness 14 = .ok (.aload 4, 2) := by decide +kernel
theorem dX11_witness_16 : decode cX11_witness 16 = .ok (.ifnull 13, 3) := by decide +kernel
theorem dX11_witness_19 : decode cX11_witness 19 = .ok (.aload 5, 2) := by decide +kernel
theorem dX11_witness_21 : decode cX11_witness 21 = .ok (.ifnull 8, 3) := by decide +kernel
theorem dX11_witness_24 : decode cX11_witness 24 = .ok (.iload_n 3, 1) := by decide +kernel
theorem dX11_witness_25 : decode cX11_witness 25 = .ok (.iconst (-1), 1) := by decide +kernel
theorem dX11_witness_26 : decode cX11_witness 26 = .ok (.if_icmp .ge 5, 3) := by decide +kernel
theorem dX11_witness_29 : decode cX11_witness 29 = .ok (.iconst (-1), 1) := by decide +kernel
theorem dX11_witness_30 : decode cX11_witness 30 = .ok (.ireturn, 1) := by decide +kernel
theorem dX11_witness_31 : decode cX11_witness 31 = .ok (.aload_n 0, 1) := by decide +kernel
theorem dX11_witness_32 : decode cX11_witness 32 = .ok (.getfield 52, 3) := by decide +kernel
theorem dX11_witness_35 : decode cX11_witness 35 = .ok (.aload 4, 2) := by decide +kernel
theorem dX11_witness_37 : decode cX11_witness 37 = .ok (.aload 4, 2) := by decide +kernel
theorem dX11_witness_39 : decode cX11_witness 39 = .ok (.invokevirtual 122, 3) := by decide +kernel
theorem dX11_witness_42 : decode cX11_witness 42 = .ok (.aload 5, 2) := by decide +kernel
theorem dX11_witness_44 : decode cX11_witness 44 = .ok (.aload 5, 2) := by decide +kernel
theorem dX11_witness_46 : decode cX11_witness 46 = .ok (.invokevirtual 122, 3) := by decide +kernel
theorem dX11_witness_49 : decode cX11_witness 49 = .ok (.invokevirtual 136, 3) := by decide +kernel
theorem dX11_witness_52 : decode cX11_witness 52 = .ok (.istore 6, 2) := by decide +kernel
theorem dX11_witness_54 : decode cX11_witness 54 = .ok (.iload 6, 2) := by decide +kernel
theorem dX11_witness_56 : decode cX11_witness 56 = .ok (.ifCond .ne 6, 3) := by decide +kernel
theorem dX11_witness_59 : decode cX11_witness 59 = .ok (.bipush (-2), 2) := by decide +kernel
theorem dX11_witness_61 : decode cX11_witness 61 = .ok (.ireturn, 1) := by decide +kernel
theorem dX11_witness_62 : decode cX11_witness 62 = .ok (.iload_n 3, 1) := by decide +kernel
theorem dX11_witness_63 : decode cX11_witness 63 = .ok (.ifCond .ge 8, 3) := by decide +kernel
theorem dX11_witness_66 : decode cX11_witness 66 = .ok (.iload 6, 2) := by decide +kernel
theorem dX11_witness_68 : decode cX11_witness 68 = .ok (.goto 35, 3) := by decide +kernel
theorem dX11_witness_71 : decode cX11_witness 71 = .ok (.iload_n 3, 1) := by decide +kernel
theorem dX11_witness_72 : decode cX11_witness 72 = .ok (.iload 6, 2) := by decide +kernel
theorem dX11_witness_74 : decode cX11_witness 74 = .ok (.if_icmp .ge 27, 3) := by decide +kernel
theorem dX11_witness_77 : decode cX11_witness 77 = .ok (.iload_n 3, 1) := by decide +kernel
theorem dX11_witness_78 : decode cX11_witness 78 = .ok (.aload_n 0, 1) := by decide +kernel
theorem dX11_witness_79 : decode cX11_witness 79 = .ok (.getfield 52, 3) := by decide +kernel
theorem dX11_witness_82 : decode cX11_witness 82 = .ok (.getfield 140, 3) := by decide +kernel
theorem dX11_witness_85 : decode cX11_witness 85 = .ok (.arraylength, 1) := by decide +kernel
theorem dX11_witness_86 : decode cX11_witness 86 = .ok (.if_icmp .ge 15, 3) := by decide +kernel
theorem dX11_witness_89 : decode cX11_witness 89 = .ok (.aload_n 0, 1) := by decide +kernel
theorem dX11_witness_90 : decode cX11_witness 90 = .ok (.getfield 52, 3) := by decide +kernel
theorem dX11_witness_93 : decode cX11_witness 93 = .ok (.getfield 140, 3) := by decide +kernel
theorem dX11_witness_96 : decode cX11_witness 96 = .ok (.iload_n 3, 1) := by decide +kernel
theorem dX11_witness_97 : decode cX11_witness 97 = .ok (.iaload, 1) := by decide +kernel
theorem dX11_witness_98 : decode cX11_witness 98 = .ok (.goto 5, 3) := by decide +kernel
theorem dX11_witness_101 : decode cX11_witness 101 = .ok (.bipush (-2), 2) := by decide +kernel
theorem dX11_witness_103 : decode cX11_witness 103 = .ok (.ireturn, 1) := by decide +kernel
set_option maxRecDepth 20000 in
theorem ggX11_bound_X11_protocolAt : GoodIn wsX11_bound wsX11_protocolAt := goodIn_r _ [6, 7, 57, 58, 59, 60, 61, 62, 63, 64, 65, 66, 67, 68, 69] (by decide +kernel) (by decide +kernel)
set_option maxRecDepth 20000 in
theorem gX11_bound_X11_protocolAt : GoodIn wsX11_bound (wsV RX11 94 RX11 yX11_protocolAt wsX11_protocolAt) := goodIn_app (goodIn_of _ (by decide +kernel)) ggX11_bound_X11_protocolAt
set_option maxRecDepth 20000 in
theorem ggX11_bound_X7_longestRow : GoodIn wsX11_bound wsX7_longestRow := goodIn_r _ [12, 13, 14, 15, 16, 17, 18, 19, 20, 21, 22, 23, 24, 25, 26, 27, 11, 28, 29, 30, 31, 32, 33, 34, 35, 36, 37, 38, 39, 40, 41, 42, 43, 44, 45, 46, 47, 48, 49, 50, 51, 52, 53, 54, 55, 56, 70, 71, 72, 73, 74, 75, 76, 77, 78] (by decide +kernel) (by decide +kernel)
set_option maxRecDepth 20000 in
theorem gX11_bound_X7_longestRow : GoodIn wsX11_bound (wsV RX11 141 RX7 yX7_longestRow wsX7_longestRow) := goodIn_app (goodIn_of _ (by decide +kernel)) ggX11_bound_X7_longestRow
theorem dX11_bound_0 : decode cX11_bound 0 = .ok (.aload_n 0, 1) := by decide +kernel
theorem dX11_bound_1 : decode cX11_bound 1 = .ok (.iload_n 1, 1) := by decide +kernel
theorem dX11_bound_2 : decode cX11_bound 2 = .ok (.invokevirtual 94, 3) := by decide +kernel
theorem dX11_bound_5 : decode cX11_bound 5 = .ok (.astore_n 3, 1) := by decide +kernel
theorem dX11_bound_6 : decode cX11_bound 6 = .ok (.aload_n 3, 1) := by decide +kernel
theorem dX11_bound_7 : decode cX11_bound 7 = .ok (.ifnull 12, 3) := by decide +kernel
theorem dX11_bound_10 : decode cX11_bound 10 = .ok (.iload_n 2, 1) := by decide +kernel
theorem dX11_bound_11 : decode cX11_bound 11 = .ok (.ifCond .lt 8, 3) := by decide +kernel
theorem dX11_bound_14 : decode cX11_bound 14 = .ok (.iload_n 2, 1) := by decide +kernel
theorem dX11_bound_15 : decode cX11_bound 15 = .ok (.iconst 1, 1) := by decide +kernel
theorem dX11_bound_16 : decode cX11_bound 16 = .ok (.if_icmp .le 5, 3) := by decide +kernel
theorem dX11_bound_19 : decode cX11_bound 19 = .ok (.iconst (-1), 1) := by decide +kernel
theorem dX11_bound_20 : decode cX11_bound 20 = .ok (.ireturn, 1) := by decide +kernel
theorem dX11_bound_21 : decode cX11_bound 21 = .ok (.aload_n 3, 1) := by decide +kernel
theorem dX11_bound_22 : decode cX11_bound 22 = .ok (.iload_n 2, 1) := by decide +kernel
theorem dX11_bound_23 : decode cX11_bound 23 = .ok (.aload_n 0, 1) := by decide +kernel
theorem dX11_bound_24 : decode cX11_bound 24 = .ok (.getfield 63, 3) := by decide +kernel
theorem dX11_bound_27 : decode cX11_bound 27 = .ok (.invokevirtual 141, 3) := by decide +kernel
theorem dX11_bound_30 : decode cX11_bound 30 = .ok (.ireturn, 1) := by decide +kernel
set_option maxRecDepth 20000 in
theorem ggX11_meet_X11_protocolAt : GoodIn wsX11_meet wsX11_protocolAt := goodIn_r _ [11, 12, 160, 161, 162, 163, 164, 165, 166, 167, 168, 169, 170, 171, 172] (by decide +kernel) (by decide +kernel)
set_option maxRecDepth 20000 in
theorem gX11_meet_X11_protocolAt : GoodIn wsX11_meet (wsV RX11 94 RX11 yX11_protocolAt wsX11_protocolAt) := goodIn_app (goodIn_of _ (by decide +kernel)) ggX11_meet_X11_protocolAt
set_option maxRecDepth 20000 in
theorem ggX11_meet_X4_explore : GoodIn wsX11_meet wsX4_explore := goodIn_r _ [17, 18, 19, 20, 21, 22, 23, 24, 25, 26, 16, 27, 28, 29, 30, 31, 32, 33, 34, 35, 36, 37, 38, 39, 40, 41, 42, 43, 44, 45, 46, 47, 48, 49, 50, 51, 52, 53, 54, 55, 56, 57, 58, 59, 60, 61, 62, 63, 64, 65, 66, 67, 68, 69, 70, 71, 72, 73, 74, 75, 76, 77, 78, 79, 80, 81, 82, 83, 84, 85, 86, 87, 88, 89, 90, 91, 92, 93, 94, 95, 96, 97, 98, 99, 100, 101, 102, 103, 104, 105, 106, 107, 108, 109, 110, 111, 112, 113, 114, 115, 116, 117, 118, 119, 120, 121, 122, 123, 124, 125, 126, 127, 128, 129, 130, 131, 132, 133, 134, 135, 136, 137, 138, 139, 140, 141, 142, 143, 144, 145, 146, 147, 148, 149, 150, 151, 152, 153, 154, 155, 156, 157, 158, 159, 173, 174, 175, 176, 177, 178, 179, 180, 181, 182, 183, 184, 185, 186, 187, 188, 189, 190, 191, 192, 193, 194, 195, 196, 197, 198, 199] (by decide +kernel) (by decide +kernel)
set_option maxRecDepth 20000 in
theorem gX11_meet_X4_explore : GoodIn wsX11_meet (wsV RX11 145 RX4 yX4_explore wsX4_explore) := goodIn_app (goodIn_of _ (by decide +kernel)) ggX11_meet_X4_explore
theorem dX11_meet_0 : decode cX11_meet 0 = .ok (.aload_n 0, 1) := by decide +kernel
theorem dX11_meet_1 : decode cX11_meet 1 = .ok (.iload_n 1, 1) := by decide +kernel
theorem dX11_meet_2 : decode cX11_meet 2 = .ok (.invokevirtual 94, 3) := by decide +kernel
theorem dX11_meet_5 : decode cX11_meet 5 = .ok (.astore 5, 2) := by decide +kernel
theorem dX11_meet_7 : decode cX11_meet 7 = .ok (.aload_n 0, 1) := by decide +kernel
theorem dX11_meet_8 : decode cX11_meet 8 = .ok (.iload_n 2, 1) := by decide +kernel
theorem dX11_meet_9 : decode cX11_meet 9 = .ok (.invokevirtual 94, 3) := by decide +kernel
theorem dX11_meet_12 : decode cX11_meet 12 = .ok (.astore 6, 2) := by decide +kernel
theorem dX11_meet_14 : decode cX11_meet 14 = .ok (.aload 5, 2) := by decide +kernel
theorem dX11_meet_16 : decode cX11_meet 16 = .ok (.ifnull 29, 3) := by decide +kernel
theorem dX11_meet_19 : decode cX11_meet 19 = .ok (.aload 6, 2) := by decide +kernel
theorem dX11_meet_21 : decode cX11_meet 21 = .ok (.ifnull 24, 3) := by decide +kernel
theorem dX11_meet_24 : decode cX11_meet 24 = .ok (.iload_n 3, 1) := by decide +kernel
theorem dX11_meet_25 : decode cX11_meet 25 = .ok (.iconst 1, 1) := by decide +kernel
theorem dX11_meet_26 : decode cX11_meet 26 = .ok (.if_icmp .lt 19, 3) := by decide +kernel
theorem dX11_meet_29 : decode cX11_meet 29 = .ok (.iload_n 3, 1) := by decide +kernel
theorem dX11_meet_30 : decode cX11_meet 30 = .ok (.iconst 2, 1) := by decide +kernel
theorem dX11_meet_31 : decode cX11_meet 31 = .ok (.if_icmp .gt 14, 3) := by decide +kernel
theorem dX11_meet_34 : decode cX11_meet 34 = .ok (.iload 4, 2) := by decide +kernel
theorem dX11_meet_36 : decode cX11_meet 36 = .ok (.ifCond .lt 9, 3) := by decide +kernel
theorem dX11_meet_39 : decode cX11_meet 39 = .ok (.iload 4, 2) := by decide +kernel
theorem dX11_meet_41 : decode cX11_meet 41 = .ok (.iconst 4, 1) := by decide +kernel
theorem dX11_meet_42 : decode cX11_meet 42 = .ok (.if_icmp .le 5, 3) := by decide +kernel
theorem dX11_meet_45 : decode cX11_meet 45 = .ok (.iconst (-1), 1) := by decide +kernel
theorem dX11_meet_46 : decode cX11_meet 46 = .ok (.ireturn, 1) := by decide +kernel
theorem dX11_meet_47 : decode cX11_meet 47 = .ok (.aload_n 0, 1) := by decide +kernel
theorem dX11_meet_48 : decode cX11_meet 48 = .ok (.getfield 59, 3) := by decide +kernel
theorem dX11_meet_51 : decode cX11_meet 51 = .ok (.aload 5, 2) := by decide +kernel
theorem dX11_meet_53 : decode cX11_meet 53 = .ok (.aload 6, 2) := by decide +kernel
theorem dX11_meet_55 : decode cX11_meet 55 = .ok (.iload_n 3, 1) := by decide +kernel
theorem dX11_meet_56 : decode cX11_meet 56 = .ok (.invokevirtual 145, 3) := by decide +kernel
theorem dX11_meet_59 : decode cX11_meet 59 = .ok (.ifCond .ne 6, 3) := by decide +kernel
theorem dX11_meet_62 : decode cX11_meet 62 = .ok (.bipush (-3), 2) := by decide +kernel
theorem dX11_meet_64 : decode cX11_meet 64 = .ok (.ireturn, 1) := by decide +kernel
theorem dX11_meet_65 : decode cX11_meet 65 = .ok (.iload 4, 2) := by decide +kernel
theorem dX11_meet_67 : decode cX11_meet 67 = .ok (.tableswitch 61 0 3 #[29, 37, 45, 53], 29) := by decide +kernel
theorem dX11_meet_96 : decode cX11_meet 96 = .ok (.aload_n 0, 1) := by decide +kernel
theorem dX11_meet_97 : decode cX11_meet 97 = .ok (.getfield 59, 3) := by decide +kernel
theorem dX11_meet_100 : decode cX11_meet 100 = .ok (.getfield 149, 3) := by decide +kernel
theorem dX11_meet_103 : decode cX11_meet 103 = .ok (.ireturn, 1) := by decide +kernel
theorem dX11_meet_104 : decode cX11_meet 104 = .ok (.aload_n 0, 1) := by decide +kernel
theorem dX11_meet_105 : decode cX11_meet 105 = .ok (.getfield 59, 3) := by decide +kernel
theorem dX11_meet_108 : decode cX11_meet 108 = .ok (.getfield 152, 3) := by decide +kernel
theorem dX11_meet_111 : decode cX11_meet 111 = .ok (.ireturn, 1) := by decide +kernel
theorem dX11_meet_112 : decode cX11_meet 112 = .ok (.aload_n 0, 1) := by decide +kernel
theorem dX11_meet_113 : decode cX11_meet 113 = .ok (.getfield 59, 3) := by decide +kernel
theorem dX11_meet_116 : decode cX11_meet 116 = .ok (.getfield 155, 3) := by decide +kernel
theorem dX11_meet_119 : decode cX11_meet 119 = .ok (.ireturn, 1) := by decide +kernel
theorem dX11_meet_120 : decode cX11_meet 120 = .ok (.aload_n 0, 1) := by decide +kernel
theorem dX11_meet_121 : decode cX11_meet 121 = .ok (.getfield 59, 3) := by decide +kernel
theorem dX11_meet_124 : decode cX11_meet 124 = .ok (.getfield 158, 3) := by decide +kernel
theorem dX11_meet_127 : decode cX11_meet 127 = .ok (.ireturn, 1) := by decide +kernel
theorem dX11_meet_128 : decode cX11_meet 128 = .ok (.aload_n 0, 1) := by decide +kernel
theorem dX11_meet_129 : decode cX11_meet 129 = .ok (.getfield 59, 3) := by decide +kernel
theorem dX11_meet_132 : decode cX11_meet 132 = .ok (.getfield 161, 3) := by decide +kernel
theorem dX11_meet_135 : decode cX11_meet 135 = .ok (.ireturn, 1) := by decide +kernel
set_option maxRecDepth 20000 in
theorem ggX11_open_X11_protocolAt : GoodIn wsX11_open wsX11_protocolAt := goodIn_r _ [8, 9, 74, 75, 76, 77, 78, 79, 80, 81, 82, 83, 84, 85, 86] (by decide +kernel) (by decide +kernel)
set_option maxRecDepth 20000 in
theorem gX11_open_X11_protocolAt : GoodIn wsX11_open (wsV RX11 94 RX11 yX11_protocolAt wsX11_protocolAt) := goodIn_app (goodIn_of _ (by decide +kernel)) ggX11_open_X11_protocolAt
set_option maxRecDepth 20000 in
theorem ggX11_open_X11_isParty : GoodIn wsX11_open wsX11_isParty := goodIn_r _ [13] (by decide +kernel) (by decide +kernel)
set_option maxRecDepth 20000 in
theorem gX11_open_X11_isParty : GoodIn wsX11_open (wsV RX11 164 RX11 yX11_isParty wsX11_isParty) := goodIn_app (goodIn_of _ (by decide +kernel)) ggX11_open_X11_isParty
set_option maxRecDepth 20000 in
theorem ggX11_open_X2_start : GoodIn wsX11_open wsX2_start := goodIn_r _ [18, 19, 20, 21, 22, 23, 24, 25, 26, 27, 28, 29, 30, 31, 98, 99, 100, 101, 102, 103, 104, 105, 106, 107, 108, 109, 110, 111, 112, 113, 114] (by decide +kernel) (by decide +kernel)
set_option maxRecDepth 20000 in
theorem gX11_open_X2_start : GoodIn wsX11_open (wsV RX11 175 RX2 yX2_start wsX2_start) := goodIn_app (goodIn_of _ (by decide +kernel)) ggX11_open_X2_start
set_option maxRecDepth 20000 in
theorem ggX11_open_X7_turned : GoodIn wsX11_open wsX7_turned := goodIn_r _ [35, 36, 37, 29, 38, 39, 40, 41, 42, 43, 44, 45, 46, 47, 48, 49, 50, 51, 31, 52, 53, 54, 55, 56, 57, 58, 59, 60, 61, 62, 63, 64, 65, 66, 67, 68, 69, 70, 71, 72, 73, 106, 107, 108, 109, 110, 111, 112, 113, 114] (by decide +kernel) (by decide +kernel)
set_option maxRecDepth 20000 in
theorem gX11_open_X7_turned : GoodIn wsX11_open (wsV RX11 98 RX7 yX7_turned wsX7_turned) := goodIn_app (goodIn_of _ (by decide +kernel)) ggX11_open_X7_turned
theorem dX11_open_0 : decode cX11_open 0 = .ok (.aload_n 0, 1) := by decide +kernel
theorem dX11_open_1 : decode cX11_open 1 = .ok (.iload_n 1, 1) := by decide +kernel
theorem dX11_open_2 : decode cX11_open 2 = .ok (.invokevirtual 94, 3) := by decide +kernel
theorem dX11_open_5 : decode cX11_open 5 = .ok (.astore 4, 2) := by decide +kernel
theorem dX11_open_7 : decode cX11_open 7 = .ok (.aload 4, 2) := by decide +kernel
theorem dX11_open_9 : decode cX11_open 9 = .ok (.ifnull 19, 3) := by decide +kernel
theorem dX11_open_12 : decode cX11_open 12 = .ok (.aload_n 0, 1) := by decide +kernel
theorem dX11_open_13 : decode cX11_open 13 = .ok (.iload_n 2, 1) := by decide +kernel
theorem dX11_open_14 : decode cX11_open 14 = .ok (.invokevirtual 164, 3) := by decide +kernel
theorem dX11_open_17 : decode cX11_open 17 = .ok (.ifCond .eq 11, 3) := by decide +kernel
theorem dX11_open_20 : decode cX11_open 20 = .ok (.aload_n 0, 1) := by decide +kernel
theorem dX11_open_21 : decode cX11_open 21 = .ok (.iload_n 3, 1) := by decide +kernel
theorem dX11_open_22 : decode cX11_open 22 = .ok (.invokevirtual 164, 3) := by decide +kernel
theorem dX11_open_25 : decode cX11_open 25 = .ok (.ifCond .ne 5, 3) := by decide +kernel
theorem dX11_open_28 : decode cX11_open 28 = .ok (.iconst (-1), 1) := by decide +kernel
theorem dX11_open_29 : decode cX11_open 29 = .ok (.ireturn, 1) := by decide +kernel
theorem dX11_open_30 : decode cX11_open 30 = .ok (.aload_n 0, 1) := by decide +kernel
theorem dX11_open_31 : decode cX11_open 31 = .ok (.getfield 69, 3) := by decide +kernel
theorem dX11_open_34 : decode cX11_open 34 = .ok (.getfield 168, 3) := by decide +kernel
theorem dX11_open_37 : decode cX11_open 37 = .ok (.istore 5, 2) := by decide +kernel
theorem dX11_open_39 : decode cX11_open 39 = .ok (.iconst 2, 1) := by decide +kernel
theorem dX11_open_40 : decode cX11_open 40 = .ok (.iload 5, 2) := by decide +kernel
theorem dX11_open_42 : decode cX11_open 42 = .ok (.imul, 1) := by decide +kernel
theorem dX11_open_43 : decode cX11_open 43 = .ok (.istore 6, 2) := by decide +kernel
theorem dX11_open_45 : decode cX11_open 45 = .ok (.iload 5, 2) := by decide +kernel
theorem dX11_open_47 : decode cX11_open 47 = .ok (.ifCond .lt 25, 3) := by decide +kernel
theorem dX11_open_50 : decode cX11_open 50 = .ok (.iload 5, 2) := by decide +kernel
theorem dX11_open_52 : decode cX11_open 52 = .ok (.bipush 8, 2) := by decide +kernel
theorem dX11_open_54 : decode cX11_open 54 = .ok (.if_icmp .ge 18, 3) := by decide +kernel
theorem dX11_open_57 : decode cX11_open 57 = .ok (.iload 6, 2) := by decide +kernel
theorem dX11_open_59 : decode cX11_open 59 = .ok (.iconst 1, 1) := by decide +kernel
theorem dX11_open_60 : decode cX11_open 60 = .ok (.iadd, 1) := by decide +kernel
theorem dX11_open_61 : decode cX11_open 61 = .ok (.aload_n 0, 1) := by decide +kernel
theorem dX11_open_62 : decode cX11_open 62 = .ok (.getfield 69, 3) := by decide +kernel
theorem dX11_open_65 : decode cX11_open 65 = .ok (.getfield 171, 3) := by decide +kernel
theorem dX11_open_68 : decode cX11_open 68 = .ok (.arraylength, 1) := by decide +kernel
theorem dX11_open_69 : decode cX11_open 69 = .ok (.if_icmp .lt 6, 3) := by decide +kernel
theorem dX11_open_72 : decode cX11_open 72 = .ok (.bipush (-3), 2) := by decide +kernel
theorem dX11_open_74 : decode cX11_open 74 = .ok (.ireturn, 1) := by decide +kernel
theorem dX11_open_75 : decode cX11_open 75 = .ok (.aload_n 0, 1) := by decide +kernel
theorem dX11_open_76 : decode cX11_open 76 = .ok (.getfield 69, 3) := by decide +kernel
theorem dX11_open_79 : decode cX11_open 79 = .ok (.getfield 171, 3) := by decide +kernel
theorem dX11_open_82 : decode cX11_open 82 = .ok (.iload 6, 2) := by decide +kernel
theorem dX11_open_84 : decode cX11_open 84 = .ok (.aaload, 1) := by decide +kernel
theorem dX11_open_85 : decode cX11_open 85 = .ok (.iload_n 2, 1) := by decide +kernel
theorem dX11_open_86 : decode cX11_open 86 = .ok (.aload 4, 2) := by decide +kernel
theorem dX11_open_88 : decode cX11_open 88 = .ok (.invokevirtual 175, 3) := by decide +kernel
theorem dX11_open_91 : decode cX11_open 91 = .ok (.aload_n 0, 1) := by decide +kernel
theorem dX11_open_92 : decode cX11_open 92 = .ok (.getfield 69, 3) := by decide +kernel
theorem dX11_open_95 : decode cX11_open 95 = .ok (.getfield 171, 3) := by decide +kernel
theorem dX11_open_98 : decode cX11_open 98 = .ok (.iload 6, 2) := by decide +kernel
theorem dX11_open_100 : decode cX11_open 100 = .ok (.iconst 1, 1) := by decide +kernel
theorem dX11_open_101 : decode cX11_open 101 = .ok (.iadd, 1) := by decide +kernel
theorem dX11_open_102 : decode cX11_open 102 = .ok (.aaload, 1) := by decide +kernel
theorem dX11_open_103 : decode cX11_open 103 = .ok (.iload_n 3, 1) := by decide +kernel
theorem dX11_open_104 : decode cX11_open 104 = .ok (.aload 4, 2) := by decide +kernel
theorem dX11_open_106 : decode cX11_open 106 = .ok (.invokevirtual 98, 3) := by decide +kernel
theorem dX11_open_109 : decode cX11_open 109 = .ok (.invokevirtual 175, 3) := by decide +kernel
theorem dX11_open_112 : decode cX11_open 112 = .ok (.aload_n 0, 1) := by decide +kernel
theorem dX11_open_113 : decode cX11_open 113 = .ok (.getfield 69, 3) := by decide +kernel
theorem dX11_open_116 : decode cX11_open 116 = .ok (.iload 5, 2) := by decide +kernel
theorem dX11_open_118 : decode cX11_open 118 = .ok (.iconst 1, 1) := by decide +kernel
theorem dX11_open_119 : decode cX11_open 119 = .ok (.iadd, 1) := by decide +kernel
theorem dX11_open_120 : decode cX11_open 120 = .ok (.putfield 168, 3) := by decide +kernel
theorem dX11_open_123 : decode cX11_open 123 = .ok (.iload 5, 2) := by decide +kernel
theorem dX11_open_125 : decode cX11_open 125 = .ok (.ireturn, 1) := by decide +kernel
theorem dX11_size_0 : decode cX11_size 0 = .ok (.iload_n 1, 1) := by decide +kernel
theorem dX11_size_1 : decode cX11_size 1 = .ok (.iconst 1, 1) := by decide +kernel
theorem dX11_size_2 : decode cX11_size 2 = .ok (.if_icmp .lt 8, 3) := by decide +kernel
theorem dX11_size_5 : decode cX11_size 5 = .ok (.iload_n 1, 1) := by decide +kernel
theorem dX11_size_6 : decode cX11_size 6 = .ok (.iconst 4, 1) := by decide +kernel
theorem dX11_size_7 : decode cX11_size 7 = .ok (.if_icmp .le 5, 3) := by decide +kernel
theorem dX11_size_10 : decode cX11_size 10 = .ok (.iconst (-1), 1) := by decide +kernel
theorem dX11_size_11 : decode cX11_size 11 = .ok (.ireturn, 1) := by decide +kernel
theorem dX11_size_12 : decode cX11_size 12 = .ok (.aload_n 0, 1) := by decide +kernel
theorem dX11_size_13 : decode cX11_size 13 = .ok (.getfield 69, 3) := by decide +kernel
theorem dX11_size_16 : decode cX11_size 16 = .ok (.getfield 181, 3) := by decide +kernel
theorem dX11_size_19 : decode cX11_size 19 = .ok (.istore_n 2, 1) := by decide +kernel
theorem dX11_size_20 : decode cX11_size 20 = .ok (.aload_n 0, 1) := by decide +kernel
theorem dX11_size_21 : decode cX11_size 21 = .ok (.getfield 69, 3) := by decide +kernel
theorem dX11_size_24 : decode cX11_size 24 = .ok (.iload_n 1, 1) := by decide +kernel
theorem dX11_size_25 : decode cX11_size 25 = .ok (.putfield 181, 3) := by decide +kernel
theorem dX11_size_28 : decode cX11_size 28 = .ok (.iload_n 2, 1) := by decide +kernel
theorem dX11_size_29 : decode cX11_size 29 = .ok (.ireturn, 1) := by decide +kernel
set_option maxRecDepth 20000 in
theorem ggX11_say_X11_isParty : GoodIn wsX11_say wsX11_isParty := goodIn_r _ [5] (by decide +kernel) (by decide +kernel)
set_option maxRecDepth 20000 in
theorem gX11_say_X11_isParty : GoodIn wsX11_say (wsV RX11 164 RX11 yX11_isParty wsX11_isParty) := goodIn_app (goodIn_of _ (by decide +kernel)) ggX11_say_X11_isParty
set_option maxRecDepth 20000 in
theorem ggX11_say_X11_isEnd : GoodIn wsX11_say wsX11_isEnd := goodIn_r _ [9, 10, 11, 225, 226, 227, 228, 229, 230, 231, 232, 233, 234, 235, 236, 237, 238, 239, 240, 241, 242, 243, 244, 245, 246, 247, 248] (by decide +kernel) (by decide +kernel)
set_option maxRecDepth 20000 in
theorem gX11_say_X11_isEnd : GoodIn wsX11_say (wsV RX11 184 RX11 yX11_isEnd wsX11_isEnd) := goodIn_app (goodIn_of _ (by decide +kernel)) ggX11_say_X11_isEnd
set_option maxRecDepth 20000 in
theorem ggX11_say_X11_enact : GoodIn wsX11_say wsX11_enact := goodIn_r _ [15, 10, 16, 17, 18, 19, 20, 21, 22, 4, 23, 24, 25, 26, 27, 28, 29, 30, 31, 32, 33, 34, 35, 36, 37, 38, 39, 40, 41, 42, 43, 44, 45, 46, 47, 48, 49, 50, 51, 52, 53, 54, 55, 56, 57, 58, 59, 60, 61, 62, 63, 64, 65, 66, 67, 68, 69, 70, 71, 72, 73, 74, 75, 76, 77, 78, 79, 80, 81, 82, 83, 84, 85, 86, 87, 88, 89, 90, 91, 92, 93, 94, 95, 96, 97, 98, 99, 100, 101, 102, 103, 104, 105, 106, 107, 108, 109, 110, 111, 112, 113, 114, 115, 116, 117, 118, 119, 120, 121, 122, 123, 124, 125, 126, 127, 128, 129, 130, 131, 132, 133, 134, 135, 136, 137, 138, 139, 140, 141, 142, 143, 144, 145, 146, 147, 148, 149, 150, 151, 152, 153, 154, 155, 156, 157, 158, 159, 160, 161, 162, 163, 164, 165, 166, 167, 168, 169, 170, 171, 172, 173, 174, 175, 176, 177, 178, 179, 180, 181, 182, 183, 184, 185, 186, 187, 188, 189, 190, 191, 192, 193, 194, 195, 196, 197, 198, 199, 200, 201, 202, 203, 204, 205, 206, 207, 208, 209, 210, 211, 212, 213, 214, 215, 216, 217, 218, 219, 220, 221, 222, 223, 224, 225, 226, 227, 228, 229, 230, 231, 232, 233, 234, 235, 236, 237, 238, 239, 240, 241, 242, 243, 244, 245, 246, 247, 248, 249, 250, 251, 252, 253, 254, 255, 256, 257, 258, 259, 260, 261, 262, 263, 264, 265, 266, 267, 268, 269, 270, 271, 272, 273, 274, 275, 276, 277, 278, 279, 280, 281, 282] (by decide +kernel) (by decide +kernel)
set_option maxRecDepth 20000 in
theorem gX11_say_X11_enact : GoodIn wsX11_say (wsV RX11 187 RX11 yX11_enact wsX11_enact) := goodIn_app (goodIn_of _ (by decide +kernel)) ggX11_say_X11_enact
theorem dX11_say_0 : decode cX11_say 0 = .ok (.aload_n 0, 1) := by decide +kernel
theorem dX11_say_1 : decode cX11_say 1 = .ok (.iload_n 1, 1) := by decide +kernel
theorem dX11_say_2 : decode cX11_say 2 = .ok (.invokevirtual 164, 3) := by decide +kernel
theorem dX11_say_5 : decode cX11_say 5 = .ok (.ifCond .eq 22, 3) := by decide +kernel
theorem dX11_say_8 : decode cX11_say 8 = .ok (.aload_n 0, 1) := by decide +kernel
theorem dX11_say_9 : decode cX11_say 9 = .ok (.iload_n 2, 1) := by decide +kernel
theorem dX11_say_10 : decode cX11_say 10 = .ok (.invokevirtual 184, 3) := by decide +kernel
theorem dX11_say_13 : decode cX11_say 13 = .ok (.ifCond .eq 14, 3) := by decide +kernel
theorem dX11_say_16 : decode cX11_say 16 = .ok (.aload_n 0, 1) := by decide +kernel
theorem dX11_say_17 : decode cX11_say 17 = .ok (.iload_n 1, 1) := by decide +kernel
theorem dX11_say_18 : decode cX11_say 18 = .ok (.iload_n 2, 1) := by decide +kernel
theorem dX11_say_19 : decode cX11_say 19 = .ok (.iconst 1, 1) := by decide +kernel
theorem dX11_say_20 : decode cX11_say 20 = .ok (.iload_n 3, 1) := by decide +kernel
theorem dX11_say_21 : decode cX11_say 21 = .ok (.invokevirtual 187, 3) := by decide +kernel
theorem dX11_say_24 : decode cX11_say 24 = .ok (.goto 4, 3) := by decide +kernel
theorem dX11_say_27 : decode cX11_say 27 = .ok (.iconst (-1), 1) := by decide +kernel
theorem dX11_say_28 : decode cX11_say 28 = .ok (.ireturn, 1) := by decide +kernel
set_option maxRecDepth 20000 in
theorem ggX11_hear_X11_isParty : GoodIn wsX11_hear wsX11_isParty := goodIn_r _ [5] (by decide +kernel) (by decide +kernel)
set_option maxRecDepth 20000 in
theorem gX11_hear_X11_isParty : GoodIn wsX11_hear (wsV RX11 164 RX11 yX11_isParty wsX11_isParty) := goodIn_app (goodIn_of _ (by decide +kernel)) ggX11_hear_X11_isParty
set_option maxRecDepth 20000 in
theorem ggX11_hear_X11_isEnd : GoodIn wsX11_hear wsX11_isEnd := goodIn_r _ [9, 10, 11, 225, 226, 227, 228, 229, 230, 231, 232, 233, 234, 235, 236, 237, 238, 239, 240, 241, 242, 243, 244, 245, 246, 247, 248] (by decide +kernel) (by decide +kernel)
set_option maxRecDepth 20000 in
theorem gX11_hear_X11_isEnd : GoodIn wsX11_hear (wsV RX11 184 RX11 yX11_isEnd wsX11_isEnd) := goodIn_app (goodIn_of _ (by decide +kernel)) ggX11_hear_X11_isEnd
set_option maxRecDepth 20000 in
theorem ggX11_hear_X11_enact : GoodIn wsX11_hear wsX11_enact := goodIn_r _ [15, 10, 16, 17, 18, 19, 20, 21, 22, 4, 23, 24, 25, 26, 27, 28, 29, 30, 31, 32, 33, 34, 35, 36, 37, 38, 39, 40, 41, 42, 43, 44, 45, 46, 47, 48, 49, 50, 51, 52, 53, 54, 55, 56, 57, 58, 59, 60, 61, 62, 63, 64, 65, 66, 67, 68, 69, 70, 71, 72, 73, 74, 75, 76, 77, 78, 79, 80, 81, 82, 83, 84, 85, 86, 87, 88, 89, 90, 91, 92, 93, 94, 95, 96, 97, 98, 99, 100, 101, 102, 103, 104, 105, 106, 107, 108, 109, 110, 111, 112, 113, 114, 115, 116, 117, 118, 119, 120, 121, 122, 123, 124, 125, 126, 127, 128, 129, 130, 131, 132, 133, 134, 135, 136, 137, 138, 139, 140, 141, 142, 143, 144, 145, 146, 147, 148, 149, 150, 151, 152, 153, 154, 155, 156, 157, 158, 159, 160, 161, 162, 163, 164, 165, 166, 167, 168, 169, 170, 171, 172, 173, 174, 175, 176, 177, 178, 179, 180, 181, 182, 183, 184, 185, 186, 187, 188, 189, 190, 191, 192, 193, 194, 195, 196, 197, 198, 199, 200, 201, 202, 203, 204, 205, 206, 207, 208, 209, 210, 211, 212, 213, 214, 215, 216, 217, 218, 219, 220, 221, 222, 223, 224, 225, 226, 227, 228, 229, 230, 231, 232, 233, 234, 235, 236, 237, 238, 239, 240, 241, 242, 243, 244, 245, 246, 247, 248, 249, 250, 251, 252, 253, 254, 255, 256, 257, 258, 259, 260, 261, 262, 263, 264, 265, 266, 267, 268, 269, 270, 271, 272, 273, 274, 275, 276, 277, 278, 279, 280, 281, 282] (by decide +kernel) (by decide +kernel)
set_option maxRecDepth 20000 in
theorem gX11_hear_X11_enact : GoodIn wsX11_hear (wsV RX11 187 RX11 yX11_enact wsX11_enact) := goodIn_app (goodIn_of _ (by decide +kernel)) ggX11_hear_X11_enact
theorem dX11_hear_0 : decode cX11_hear 0 = .ok (.aload_n 0, 1) := by decide +kernel
theorem dX11_hear_1 : decode cX11_hear 1 = .ok (.iload_n 1, 1) := by decide +kernel
theorem dX11_hear_2 : decode cX11_hear 2 = .ok (.invokevirtual 164, 3) := by decide +kernel
theorem dX11_hear_5 : decode cX11_hear 5 = .ok (.ifCond .eq 22, 3) := by decide +kernel
theorem dX11_hear_8 : decode cX11_hear 8 = .ok (.aload_n 0, 1) := by decide +kernel
theorem dX11_hear_9 : decode cX11_hear 9 = .ok (.iload_n 2, 1) := by decide +kernel
theorem dX11_hear_10 : decode cX11_hear 10 = .ok (.invokevirtual 184, 3) := by decide +kernel
theorem dX11_hear_13 : decode cX11_hear 13 = .ok (.ifCond .eq 14, 3) := by decide +kernel
theorem dX11_hear_16 : decode cX11_hear 16 = .ok (.aload_n 0, 1) := by decide +kernel
theorem dX11_hear_17 : decode cX11_hear 17 = .ok (.iload_n 1, 1) := by decide +kernel
theorem dX11_hear_18 : decode cX11_hear 18 = .ok (.iload_n 2, 1) := by decide +kernel
theorem dX11_hear_19 : decode cX11_hear 19 = .ok (.iconst 2, 1) := by decide +kernel
theorem dX11_hear_20 : decode cX11_hear 20 = .ok (.iconst 0, 1) := by decide +kernel
theorem dX11_hear_21 : decode cX11_hear 21 = .ok (.invokevirtual 187, 3) := by decide +kernel
theorem dX11_hear_24 : decode cX11_hear 24 = .ok (.goto 4, 3) := by decide +kernel
theorem dX11_hear_27 : decode cX11_hear 27 = .ok (.iconst (-1), 1) := by decide +kernel
theorem dX11_hear_28 : decode cX11_hear 28 = .ok (.ireturn, 1) := by decide +kernel
set_option maxRecDepth 20000 in
theorem ggX11_choose_X11_isParty : GoodIn wsX11_choose wsX11_isParty := goodIn_r _ [5] (by decide +kernel) (by decide +kernel)
set_option maxRecDepth 20000 in
theorem gX11_choose_X11_isParty : GoodIn wsX11_choose (wsV RX11 164 RX11 yX11_isParty wsX11_isParty) := goodIn_app (goodIn_of _ (by decide +kernel)) ggX11_choose_X11_isParty
set_option maxRecDepth 20000 in
theorem ggX11_choose_X11_isEnd : GoodIn wsX11_choose wsX11_isEnd := goodIn_r _ [9, 10, 11, 225, 226, 227, 228, 229, 230, 231, 232, 233, 234, 235, 236, 237, 238, 239, 240, 241, 242, 243, 244, 245, 246, 247, 248] (by decide +kernel) (by decide +kernel)
set_option maxRecDepth 20000 in
theorem gX11_choose_X11_isEnd : GoodIn wsX11_choose (wsV RX11 184 RX11 yX11_isEnd wsX11_isEnd) := goodIn_app (goodIn_of _ (by decide +kernel)) ggX11_choose_X11_isEnd
set_option maxRecDepth 20000 in
theorem ggX11_choose_X11_enact : GoodIn wsX11_choose wsX11_enact := goodIn_r _ [15, 10, 16, 17, 18, 19, 20, 21, 22, 4, 23, 24, 25, 26, 27, 28, 29, 30, 31, 32, 33, 34, 35, 36, 37, 38, 39, 40, 41, 42, 43, 44, 45, 46, 47, 48, 49, 50, 51, 52, 53, 54, 55, 56, 57, 58, 59, 60, 61, 62, 63, 64, 65, 66, 67, 68, 69, 70, 71, 72, 73, 74, 75, 76, 77, 78, 79, 80, 81, 82, 83, 84, 85, 86, 87, 88, 89, 90, 91, 92, 93, 94, 95, 96, 97, 98, 99, 100, 101, 102, 103, 104, 105, 106, 107, 108, 109, 110, 111, 112, 113, 114, 115, 116, 117, 118, 119, 120, 121, 122, 123, 124, 125, 126, 127, 128, 129, 130, 131, 132, 133, 134, 135, 136, 137, 138, 139, 140, 141, 142, 143, 144, 145, 146, 147, 148, 149, 150, 151, 152, 153, 154, 155, 156, 157, 158, 159, 160, 161, 162, 163, 164, 165, 166, 167, 168, 169, 170, 171, 172, 173, 174, 175, 176, 177, 178, 179, 180, 181, 182, 183, 184, 185, 186, 187, 188, 189, 190, 191, 192, 193, 194, 195, 196, 197, 198, 199, 200, 201, 202, 203, 204, 205, 206, 207, 208, 209, 210, 211, 212, 213, 214, 215, 216, 217, 218, 219, 220, 221, 222, 223, 224, 225, 226, 227, 228, 229, 230, 231, 232, 233, 234, 235, 236, 237, 238, 239, 240, 241, 242, 243, 244, 245, 246, 247, 248, 249, 250, 251, 252, 253, 254, 255, 256, 257, 258, 259, 260, 261, 262, 263, 264, 265, 266, 267, 268, 269, 270, 271, 272, 273, 274, 275, 276, 277, 278, 279, 280, 281, 282] (by decide +kernel) (by decide +kernel)
set_option maxRecDepth 20000 in
theorem gX11_choose_X11_enact : GoodIn wsX11_choose (wsV RX11 187 RX11 yX11_enact wsX11_enact) := goodIn_app (goodIn_of _ (by decide +kernel)) ggX11_choose_X11_enact
theorem dX11_choose_0 : decode cX11_choose 0 = .ok (.aload_n 0, 1) := by decide +kernel
theorem dX11_choose_1 : decode cX11_choose 1 = .ok (.iload_n 1, 1) := by decide +kernel
theorem dX11_choose_2 : decode cX11_choose 2 = .ok (.invokevirtual 164, 3) := by decide +kernel
theorem dX11_choose_5 : decode cX11_choose 5 = .ok (.ifCond .eq 22, 3) := by decide +kernel
theorem dX11_choose_8 : decode cX11_choose 8 = .ok (.aload_n 0, 1) := by decide +kernel
theorem dX11_choose_9 : decode cX11_choose 9 = .ok (.iload_n 2, 1) := by decide +kernel
theorem dX11_choose_10 : decode cX11_choose 10 = .ok (.invokevirtual 184, 3) := by decide +kernel
theorem dX11_choose_13 : decode cX11_choose 13 = .ok (.ifCond .eq 14, 3) := by decide +kernel
theorem dX11_choose_16 : decode cX11_choose 16 = .ok (.aload_n 0, 1) := by decide +kernel
theorem dX11_choose_17 : decode cX11_choose 17 = .ok (.iload_n 1, 1) := by decide +kernel
theorem dX11_choose_18 : decode cX11_choose 18 = .ok (.iload_n 2, 1) := by decide +kernel
theorem dX11_choose_19 : decode cX11_choose 19 = .ok (.iconst 3, 1) := by decide +kernel
theorem dX11_choose_20 : decode cX11_choose 20 = .ok (.iload_n 3, 1) := by decide +kernel
theorem dX11_choose_21 : decode cX11_choose 21 = .ok (.invokevirtual 187, 3) := by decide +kernel
theorem dX11_choose_24 : decode cX11_choose 24 = .ok (.goto 4, 3) := by decide +kernel
theorem dX11_choose_27 : decode cX11_choose 27 = .ok (.iconst (-1), 1) := by decide +kernel
theorem dX11_choose_28 : decode cX11_choose 28 = .ok (.ireturn, 1) := by decide +kernel
set_option maxRecDepth 20000 in
theorem ggX11_offered_X11_isParty : GoodIn wsX11_offered wsX11_isParty := goodIn_r _ [5] (by decide +kernel) (by decide +kernel)
set_option maxRecDepth 20000 in
theorem gX11_offered_X11_isParty : GoodIn wsX11_offered (wsV RX11 164 RX11 yX11_isParty wsX11_isParty) := goodIn_app (goodIn_of _ (by decide +kernel)) ggX11_offered_X11_isParty
set_option maxRecDepth 20000 in
theorem ggX11_offered_X11_isEnd : GoodIn wsX11_offered wsX11_isEnd := goodIn_r _ [9, 10, 11, 225, 226, 227, 228, 229, 230, 231, 232, 233, 234, 235, 236, 237, 238, 239, 240, 241, 242, 243, 244, 245, 246, 247, 248] (by decide +kernel) (by decide +kernel)
set_option maxRecDepth 20000 in
theorem gX11_offered_X11_isEnd : GoodIn wsX11_offered (wsV RX11 184 RX11 yX11_isEnd wsX11_isEnd) := goodIn_app (goodIn_of _ (by decide +kernel)) ggX11_offered_X11_isEnd
set_option maxRecDepth 20000 in
theorem ggX11_offered_X11_enact : GoodIn wsX11_offered wsX11_enact := goodIn_r _ [15, 10, 16, 17, 18, 19, 20, 21, 22, 4, 23, 24, 25, 26, 27, 28, 29, 30, 31, 32, 33, 34, 35, 36, 37, 38, 39, 40, 41, 42, 43, 44, 45, 46, 47, 48, 49, 50, 51, 52, 53, 54, 55, 56, 57, 58, 59, 60, 61, 62, 63, 64, 65, 66, 67, 68, 69, 70, 71, 72, 73, 74, 75, 76, 77, 78, 79, 80, 81, 82, 83, 84, 85, 86, 87, 88, 89, 90, 91, 92, 93, 94, 95, 96, 97, 98, 99, 100, 101, 102, 103, 104, 105, 106, 107, 108, 109, 110, 111, 112, 113, 114, 115, 116, 117, 118, 119, 120, 121, 122, 123, 124, 125, 126, 127, 128, 129, 130, 131, 132, 133, 134, 135, 136, 137, 138, 139, 140, 141, 142, 143, 144, 145, 146, 147, 148, 149, 150, 151, 152, 153, 154, 155, 156, 157, 158, 159, 160, 161, 162, 163, 164, 165, 166, 167, 168, 169, 170, 171, 172, 173, 174, 175, 176, 177, 178, 179, 180, 181, 182, 183, 184, 185, 186, 187, 188, 189, 190, 191, 192, 193, 194, 195, 196, 197, 198, 199, 200, 201, 202, 203, 204, 205, 206, 207, 208, 209, 210, 211, 212, 213, 214, 215, 216, 217, 218, 219, 220, 221, 222, 223, 224, 225, 226, 227, 228, 229, 230, 231, 232, 233, 234, 235, 236, 237, 238, 239, 240, 241, 242, 243, 244, 245, 246, 247, 248, 249, 250, 251, 252, 253, 254, 255, 256, 257, 258, 259, 260, 261, 262, 263, 264, 265, 266, 267, 268, 269, 270, 271, 272, 273, 274, 275, 276, 277, 278, 279, 280, 281, 282] (by decide +kernel) (by decide +kernel)
set_option maxRecDepth 20000 in
theorem gX11_offered_X11_enact : GoodIn wsX11_offered (wsV RX11 187 RX11 yX11_enact wsX11_enact) := goodIn_app (goodIn_of _ (by decide +kernel)) ggX11_offered_X11_enact
theorem dX11_offered_0 : decode cX11_offered 0 = .ok (.aload_n 0, 1) := by decide +kernel
theorem dX11_offered_1 : decode cX11_offered 1 = .ok (.iload_n 1, 1) := by decide +kernel
theorem dX11_offered_2 : decode cX11_offered 2 = .ok (.invokevirtual 164, 3) := by decide +kernel
theorem dX11_offered_5 : decode cX11_offered 5 = .ok (.ifCond .eq 22, 3) := by decide +kernel
theorem dX11_offered_8 : decode cX11_offered 8 = .ok (.aload_n 0, 1) := by decide +kernel
theorem dX11_offered_9 : decode cX11_offered 9 = .ok (.iload_n 2, 1) := by decide +kernel
theorem dX11_offered_10 : decode cX11_offered 10 = .ok (.invokevirtual 184, 3) := by decide +kernel
theorem dX11_offered_13 : decode cX11_offered 13 = .ok (.ifCond .eq 14, 3) := by decide +kernel
theorem dX11_offered_16 : decode cX11_offered 16 = .ok (.aload_n 0, 1) := by decide +kernel
theorem dX11_offered_17 : decode cX11_offered 17 = .ok (.iload_n 1, 1) := by decide +kernel
theorem dX11_offered_18 : decode cX11_offered 18 = .ok (.iload_n 2, 1) := by decide +kernel
theorem dX11_offered_19 : decode cX11_offered 19 = .ok (.iconst 4, 1) := by decide +kernel
theorem dX11_offered_20 : decode cX11_offered 20 = .ok (.iconst 0, 1) := by decide +kernel
theorem dX11_offered_21 : decode cX11_offered 21 = .ok (.invokevirtual 187, 3) := by decide +kernel
theorem dX11_offered_24 : decode cX11_offered 24 = .ok (.goto 4, 3) := by decide +kernel
theorem dX11_offered_27 : decode cX11_offered 27 = .ok (.iconst (-1), 1) := by decide +kernel
theorem dX11_offered_28 : decode cX11_offered 28 = .ok (.ireturn, 1) := by decide +kernel
set_option maxRecDepth 20000 in
theorem ggX11_end_X11_isParty : GoodIn wsX11_end wsX11_isParty := goodIn_r _ [5] (by decide +kernel) (by decide +kernel)
set_option maxRecDepth 20000 in
theorem gX11_end_X11_isParty : GoodIn wsX11_end (wsV RX11 164 RX11 yX11_isParty wsX11_isParty) := goodIn_app (goodIn_of _ (by decide +kernel)) ggX11_end_X11_isParty
set_option maxRecDepth 20000 in
theorem ggX11_end_X11_isEnd : GoodIn wsX11_end wsX11_isEnd := goodIn_r _ [9, 10, 11, 225, 226, 227, 228, 229, 230, 231, 232, 233, 234, 235, 236, 237, 238, 239, 240, 241, 242, 243, 244, 245, 246, 247, 248] (by decide +kernel) (by decide +kernel)
set_option maxRecDepth 20000 in
theorem gX11_end_X11_isEnd : GoodIn wsX11_end (wsV RX11 184 RX11 yX11_isEnd wsX11_isEnd) := goodIn_app (goodIn_of _ (by decide +kernel)) ggX11_end_X11_isEnd
set_option maxRecDepth 20000 in
theorem ggX11_end_X11_enact : GoodIn wsX11_end wsX11_enact := goodIn_r _ [15, 10, 16, 17, 18, 19, 20, 21, 22, 4, 23, 24, 25, 26, 27, 28, 29, 30, 31, 32, 33, 34, 35, 36, 37, 38, 39, 40, 41, 42, 43, 44, 45, 46, 47, 48, 49, 50, 51, 52, 53, 54, 55, 56, 57, 58, 59, 60, 61, 62, 63, 64, 65, 66, 67, 68, 69, 70, 71, 72, 73, 74, 75, 76, 77, 78, 79, 80, 81, 82, 83, 84, 85, 86, 87, 88, 89, 90, 91, 92, 93, 94, 95, 96, 97, 98, 99, 100, 101, 102, 103, 104, 105, 106, 107, 108, 109, 110, 111, 112, 113, 114, 115, 116, 117, 118, 119, 120, 121, 122, 123, 124, 125, 126, 127, 128, 129, 130, 131, 132, 133, 134, 135, 136, 137, 138, 139, 140, 141, 142, 143, 144, 145, 146, 147, 148, 149, 150, 151, 152, 153, 154, 155, 156, 157, 158, 159, 160, 161, 162, 163, 164, 165, 166, 167, 168, 169, 170, 171, 172, 173, 174, 175, 176, 177, 178, 179, 180, 181, 182, 183, 184, 185, 186, 187, 188, 189, 190, 191, 192, 193, 194, 195, 196, 197, 198, 199, 200, 201, 202, 203, 204, 205, 206, 207, 208, 209, 210, 211, 212, 213, 214, 215, 216, 217, 218, 219, 220, 221, 222, 223, 224, 225, 226, 227, 228, 229, 230, 231, 232, 233, 234, 235, 236, 237, 238, 239, 240, 241, 242, 243, 244, 245, 246, 247, 248, 249, 250, 251, 252, 253, 254, 255, 256, 257, 258, 259, 260, 261, 262, 263, 264, 265, 266, 267, 268, 269, 270, 271, 272, 273, 274, 275, 276, 277, 278, 279, 280, 281, 282] (by decide +kernel) (by decide +kernel)
set_option maxRecDepth 20000 in
theorem gX11_end_X11_enact : GoodIn wsX11_end (wsV RX11 187 RX11 yX11_enact wsX11_enact) := goodIn_app (goodIn_of _ (by decide +kernel)) ggX11_end_X11_enact
theorem dX11_end_0 : decode cX11_end 0 = .ok (.aload_n 0, 1) := by decide +kernel
theorem dX11_end_1 : decode cX11_end 1 = .ok (.iload_n 1, 1) := by decide +kernel
theorem dX11_end_2 : decode cX11_end 2 = .ok (.invokevirtual 164, 3) := by decide +kernel
theorem dX11_end_5 : decode cX11_end 5 = .ok (.ifCond .eq 22, 3) := by decide +kernel
theorem dX11_end_8 : decode cX11_end 8 = .ok (.aload_n 0, 1) := by decide +kernel
theorem dX11_end_9 : decode cX11_end 9 = .ok (.iload_n 2, 1) := by decide +kernel
theorem dX11_end_10 : decode cX11_end 10 = .ok (.invokevirtual 184, 3) := by decide +kernel
theorem dX11_end_13 : decode cX11_end 13 = .ok (.ifCond .eq 14, 3) := by decide +kernel
theorem dX11_end_16 : decode cX11_end 16 = .ok (.aload_n 0, 1) := by decide +kernel
theorem dX11_end_17 : decode cX11_end 17 = .ok (.iload_n 1, 1) := by decide +kernel
theorem dX11_end_18 : decode cX11_end 18 = .ok (.iload_n 2, 1) := by decide +kernel
theorem dX11_end_19 : decode cX11_end 19 = .ok (.iconst 0, 1) := by decide +kernel
theorem dX11_end_20 : decode cX11_end 20 = .ok (.iconst 0, 1) := by decide +kernel
theorem dX11_end_21 : decode cX11_end 21 = .ok (.invokevirtual 187, 3) := by decide +kernel
theorem dX11_end_24 : decode cX11_end 24 = .ok (.goto 4, 3) := by decide +kernel
theorem dX11_end_27 : decode cX11_end 27 = .ok (.iconst (-1), 1) := by decide +kernel
theorem dX11_end_28 : decode cX11_end 28 = .ok (.ireturn, 1) := by decide +kernel
set_option maxRecDepth 20000 in
theorem ggX11_look_X11_isEnd : GoodIn wsX11_look wsX11_isEnd := goodIn_r _ [11, 1, 12, 35, 36, 37, 38, 39, 40, 41, 42, 43, 44, 45, 46, 47, 48, 49, 50, 51, 52, 53, 54, 55, 56, 57, 58] (by decide +kernel) (by decide +kernel)
set_option maxRecDepth 20000 in
theorem gX11_look_X11_isEnd : GoodIn wsX11_look (wsV RX11 184 RX11 yX11_isEnd wsX11_isEnd) := goodIn_app (goodIn_of _ (by decide +kernel)) ggX11_look_X11_isEnd
set_option maxRecDepth 20000 in
theorem ggX11_look_X2_kind : GoodIn wsX11_look wsX2_kind := goodIn_r _ [17, 18, 19, 20, 21, 22, 23, 24, 25, 59, 60, 61, 62, 63, 64, 65, 66, 67, 68, 69, 70, 71, 72, 73, 74, 75] (by decide +kernel) (by decide +kernel)
set_option maxRecDepth 20000 in
theorem gX11_look_X2_kind : GoodIn wsX11_look (wsV RX11 194 RX2 yX2_kind wsX2_kind) := goodIn_app (goodIn_of _ (by decide +kernel)) ggX11_look_X2_kind
set_option maxRecDepth 20000 in
theorem ggX11_look_X2_labels : GoodIn wsX11_look wsX2_labels := goodIn_r _ [29, 18, 19, 30, 31, 32, 23, 33, 34, 59, 60, 61, 62, 63, 64, 65, 66, 67, 68, 69, 70, 71, 72, 73, 74, 75] (by decide +kernel) (by decide +kernel)
set_option maxRecDepth 20000 in
theorem gX11_look_X2_labels : GoodIn wsX11_look (wsV RX11 197 RX2 yX2_labels wsX2_labels) := goodIn_app (goodIn_of _ (by decide +kernel)) ggX11_look_X2_labels
theorem dX11_look_0 : decode cX11_look 0 = .ok (.aload_n 0, 1) := by decide +kernel
theorem dX11_look_1 : decode cX11_look 1 = .ok (.iload_n 1, 1) := by decide +kernel
theorem dX11_look_2 : decode cX11_look 2 = .ok (.invokevirtual 184, 3) := by decide +kernel
theorem dX11_look_5 : decode cX11_look 5 = .ok (.ifCond .eq 15, 3) := by decide +kernel
theorem dX11_look_8 : decode cX11_look 8 = .ok (.iload_n 1, 1) := by decide +kernel
theorem dX11_look_9 : decode cX11_look 9 = .ok (.aload_n 0, 1) := by decide +kernel
theorem dX11_look_10 : decode cX11_look 10 = .ok (.getfield 69, 3) := by decide +kernel
theorem dX11_look_13 : decode cX11_look 13 = .ok (.getfield 171, 3) := by decide +kernel
theorem dX11_look_16 : decode cX11_look 16 = .ok (.arraylength, 1) := by decide +kernel
theorem dX11_look_17 : decode cX11_look 17 = .ok (.if_icmp .lt 5, 3) := by decide +kernel
theorem dX11_look_20 : decode cX11_look 20 = .ok (.iconst (-1), 1) := by decide +kernel
theorem dX11_look_21 : decode cX11_look 21 = .ok (.ireturn, 1) := by decide +kernel
theorem dX11_look_22 : decode cX11_look 22 = .ok (.aload_n 0, 1) := by decide +kernel
theorem dX11_look_23 : decode cX11_look 23 = .ok (.getfield 69, 3) := by decide +kernel
theorem dX11_look_26 : decode cX11_look 26 = .ok (.getfield 171, 3) := by decide +kernel
theorem dX11_look_29 : decode cX11_look 29 = .ok (.iload_n 1, 1) := by decide +kernel
theorem dX11_look_30 : decode cX11_look 30 = .ok (.aaload, 1) := by decide +kernel
theorem dX11_look_31 : decode cX11_look 31 = .ok (.astore_n 3, 1) := by decide +kernel
theorem dX11_look_32 : decode cX11_look 32 = .ok (.iload_n 2, 1) := by decide +kernel
theorem dX11_look_33 : decode cX11_look 33 = .ok (.tableswitch 77 0 5 #[39, 44, 49, 54, 59, 64], 39) := by decide +kernel
theorem dX11_look_72 : decode cX11_look 72 = .ok (.aload_n 3, 1) := by decide +kernel
theorem dX11_look_73 : decode cX11_look 73 = .ok (.getfield 191, 3) := by decide +kernel
theorem dX11_look_76 : decode cX11_look 76 = .ok (.ireturn, 1) := by decide +kernel
theorem dX11_look_77 : decode cX11_look 77 = .ok (.aload_n 3, 1) := by decide +kernel
theorem dX11_look_78 : decode cX11_look 78 = .ok (.invokevirtual 194, 3) := by decide +kernel
theorem dX11_look_81 : decode cX11_look 81 = .ok (.ireturn, 1) := by decide +kernel
theorem dX11_look_82 : decode cX11_look 82 = .ok (.aload_n 3, 1) := by decide +kernel
theorem dX11_look_83 : decode cX11_look 83 = .ok (.invokevirtual 197, 3) := by decide +kernel
theorem dX11_look_86 : decode cX11_look 86 = .ok (.ireturn, 1) := by decide +kernel
theorem dX11_look_87 : decode cX11_look 87 = .ok (.aload_n 3, 1) := by decide +kernel
theorem dX11_look_88 : decode cX11_look 88 = .ok (.getfield 200, 3) := by decide +kernel
theorem dX11_look_91 : decode cX11_look 91 = .ok (.ireturn, 1) := by decide +kernel
theorem dX11_look_92 : decode cX11_look 92 = .ok (.aload_n 3, 1) := by decide +kernel
theorem dX11_look_93 : decode cX11_look 93 = .ok (.getfield 203, 3) := by decide +kernel
theorem dX11_look_96 : decode cX11_look 96 = .ok (.ireturn, 1) := by decide +kernel
theorem dX11_look_97 : decode cX11_look 97 = .ok (.aload_n 3, 1) := by decide +kernel
theorem dX11_look_98 : decode cX11_look 98 = .ok (.getfield 204, 3) := by decide +kernel
theorem dX11_look_101 : decode cX11_look 101 = .ok (.ifCond .eq 7, 3) := by decide +kernel
theorem dX11_look_104 : decode cX11_look 104 = .ok (.iconst 1, 1) := by decide +kernel
theorem dX11_look_105 : decode cX11_look 105 = .ok (.goto 4, 3) := by decide +kernel
theorem dX11_look_108 : decode cX11_look 108 = .ok (.iconst 0, 1) := by decide +kernel
theorem dX11_look_109 : decode cX11_look 109 = .ok (.ireturn, 1) := by decide +kernel
theorem dX11_look_110 : decode cX11_look 110 = .ok (.iconst (-1), 1) := by decide +kernel
theorem dX11_look_111 : decode cX11_look 111 = .ok (.ireturn, 1) := by decide +kernel
set_option maxRecDepth 20000 in
theorem ggX11_blame_X0_causeAt : GoodIn wsX11_blame wsX0_causeAt := goodIn_r _ [12, 13, 14, 39, 40, 41, 42, 43, 44] (by decide +kernel) (by decide +kernel)
set_option maxRecDepth 20000 in
theorem gX11_blame_X0_causeAt : GoodIn wsX11_blame (wsV RX11 229 RX0 yX0_causeAt wsX0_causeAt) := goodIn_app (goodIn_of _ (by decide +kernel)) ggX11_blame_X0_causeAt
theorem dX11_blame_0 : decode cX11_blame 0 = .ok (.iload_n 1, 1) := by decide +kernel
theorem dX11_blame_1 : decode cX11_blame 1 = .ok (.ifCond .lt 9, 3) := by decide +kernel
theorem dX11_blame_4 : decode cX11_blame 4 = .ok (.iload_n 1, 1) := by decide +kernel
theorem dX11_blame_5 : decode cX11_blame 5 = .ok (.bipush 7, 2) := by decide +kernel
theorem dX11_blame_7 : decode cX11_blame 7 = .ok (.if_icmp .le 5, 3) := by decide +kernel
theorem dX11_blame_10 : decode cX11_blame 10 = .ok (.iconst (-1), 1) := by decide +kernel
theorem dX11_blame_11 : decode cX11_blame 11 = .ok (.ireturn, 1) := by decide +kernel
theorem dX11_blame_12 : decode cX11_blame 12 = .ok (.aload_n 0, 1) := by decide +kernel
theorem dX11_blame_13 : decode cX11_blame 13 = .ok (.getfield 69, 3) := by decide +kernel
theorem dX11_blame_16 : decode cX11_blame 16 = .ok (.getfield 208, 3) := by decide +kernel
theorem dX11_blame_19 : decode cX11_blame 19 = .ok (.astore_n 2, 1) := by decide +kernel
theorem dX11_blame_20 : decode cX11_blame 20 = .ok (.aload_n 2, 1) := by decide +kernel
theorem dX11_blame_21 : decode cX11_blame 21 = .ok (.getfield 212, 3) := by decide +kernel
theorem dX11_blame_24 : decode cX11_blame 24 = .ok (.ifCond .ne 6, 3) := by decide +kernel
theorem dX11_blame_27 : decode cX11_blame 27 = .ok (.bipush (-5), 2) := by decide +kernel
theorem dX11_blame_29 : decode cX11_blame 29 = .ok (.ireturn, 1) := by decide +kernel
theorem dX11_blame_30 : decode cX11_blame 30 = .ok (.iload_n 1, 1) := by decide +kernel
theorem dX11_blame_31 : decode cX11_blame 31 = .ok (.tableswitch 58 0 4 #[33, 38, 43, 48, 53], 33) := by decide +kernel
theorem dX11_blame_64 : decode cX11_blame 64 = .ok (.aload_n 2, 1) := by decide +kernel
theorem dX11_blame_65 : decode cX11_blame 65 = .ok (.getfield 217, 3) := by decide +kernel
theorem dX11_blame_68 : decode cX11_blame 68 = .ok (.ireturn, 1) := by decide +kernel
theorem dX11_blame_69 : decode cX11_blame 69 = .ok (.aload_n 2, 1) := by decide +kernel
theorem dX11_blame_70 : decode cX11_blame 70 = .ok (.getfield 220, 3) := by decide +kernel
theorem dX11_blame_73 : decode cX11_blame 73 = .ok (.ireturn, 1) := by decide +kernel
theorem dX11_blame_74 : decode cX11_blame 74 = .ok (.aload_n 2, 1) := by decide +kernel
theorem dX11_blame_75 : decode cX11_blame 75 = .ok (.getfield 212, 3) := by decide +kernel
theorem dX11_blame_78 : decode cX11_blame 78 = .ok (.ireturn, 1) := by decide +kernel
theorem dX11_blame_79 : decode cX11_blame 79 = .ok (.aload_n 2, 1) := by decide +kernel
theorem dX11_blame_80 : decode cX11_blame 80 = .ok (.getfield 223, 3) := by decide +kernel
theorem dX11_blame_83 : decode cX11_blame 83 = .ok (.ireturn, 1) := by decide +kernel
theorem dX11_blame_84 : decode cX11_blame 84 = .ok (.aload_n 2, 1) := by decide +kernel
theorem dX11_blame_85 : decode cX11_blame 85 = .ok (.getfield 226, 3) := by decide +kernel
theorem dX11_blame_88 : decode cX11_blame 88 = .ok (.ireturn, 1) := by decide +kernel
theorem dX11_blame_89 : decode cX11_blame 89 = .ok (.aload_n 2, 1) := by decide +kernel
theorem dX11_blame_90 : decode cX11_blame 90 = .ok (.iload_n 1, 1) := by decide +kernel
theorem dX11_blame_91 : decode cX11_blame 91 = .ok (.iconst 5, 1) := by decide +kernel
theorem dX11_blame_92 : decode cX11_blame 92 = .ok (.isub, 1) := by decide +kernel
theorem dX11_blame_93 : decode cX11_blame 93 = .ok (.invokevirtual 229, 3) := by decide +kernel
theorem dX11_blame_96 : decode cX11_blame 96 = .ok (.ireturn, 1) := by decide +kernel
theorem dX11_led_0 : decode cX11_led 0 = .ok (.iload_n 1, 1) := by decide +kernel
theorem dX11_led_1 : decode cX11_led 1 = .ok (.tableswitch 87 0 5 #[39, 47, 55, 63, 71, 79], 39) := by decide +kernel
theorem dX11_led_40 : decode cX11_led 40 = .ok (.aload_n 0, 1) := by decide +kernel
theorem dX11_led_41 : decode cX11_led 41 = .ok (.getfield 69, 3) := by decide +kernel
theorem dX11_led_44 : decode cX11_led 44 = .ok (.getfield 265, 3) := by decide +kernel
theorem dX11_led_47 : decode cX11_led 47 = .ok (.ireturn, 1) := by decide +kernel
theorem dX11_led_48 : decode cX11_led 48 = .ok (.aload_n 0, 1) := by decide +kernel
theorem dX11_led_49 : decode cX11_led 49 = .ok (.getfield 69, 3) := by decide +kernel
theorem dX11_led_52 : decode cX11_led 52 = .ok (.getfield 268, 3) := by decide +kernel
theorem dX11_led_55 : decode cX11_led 55 = .ok (.ireturn, 1) := by decide +kernel
theorem dX11_led_56 : decode cX11_led 56 = .ok (.aload_n 0, 1) := by decide +kernel
theorem dX11_led_57 : decode cX11_led 57 = .ok (.getfield 69, 3) := by decide +kernel
theorem dX11_led_60 : decode cX11_led 60 = .ok (.getfield 271, 3) := by decide +kernel
theorem dX11_led_63 : decode cX11_led 63 = .ok (.ireturn, 1) := by decide +kernel
theorem dX11_led_64 : decode cX11_led 64 = .ok (.aload_n 0, 1) := by decide +kernel
theorem dX11_led_65 : decode cX11_led 65 = .ok (.getfield 69, 3) := by decide +kernel
theorem dX11_led_68 : decode cX11_led 68 = .ok (.getfield 274, 3) := by decide +kernel
theorem dX11_led_71 : decode cX11_led 71 = .ok (.ireturn, 1) := by decide +kernel
theorem dX11_led_72 : decode cX11_led 72 = .ok (.aload_n 0, 1) := by decide +kernel
theorem dX11_led_73 : decode cX11_led 73 = .ok (.getfield 69, 3) := by decide +kernel
theorem dX11_led_76 : decode cX11_led 76 = .ok (.getfield 277, 3) := by decide +kernel
theorem dX11_led_79 : decode cX11_led 79 = .ok (.ireturn, 1) := by decide +kernel
theorem dX11_led_80 : decode cX11_led 80 = .ok (.aload_n 0, 1) := by decide +kernel
theorem dX11_led_81 : decode cX11_led 81 = .ok (.getfield 69, 3) := by decide +kernel
theorem dX11_led_84 : decode cX11_led 84 = .ok (.getfield 280, 3) := by decide +kernel
theorem dX11_led_87 : decode cX11_led 87 = .ok (.ireturn, 1) := by decide +kernel
theorem dX11_led_88 : decode cX11_led 88 = .ok (.iconst (-1), 1) := by decide +kernel
theorem dX11_led_89 : decode cX11_led 89 = .ok (.ireturn, 1) := by decide +kernel
set_option maxRecDepth 20000 in
theorem ggX11_count_X11_protocolsThere : GoodIn wsX11_count wsX11_protocolsThere := goodIn_r _ [9, 10, 29, 30, 31, 32, 33, 34, 35, 36, 37, 38, 39, 40, 41] (by decide +kernel) (by decide +kernel)
set_option maxRecDepth 20000 in
theorem gX11_count_X11_protocolsThere : GoodIn wsX11_count (wsV RX11 282 RX11 yX11_protocolsThere wsX11_protocolsThere) := goodIn_app (goodIn_of _ (by decide +kernel)) ggX11_count_X11_protocolsThere
set_option maxRecDepth 20000 in
theorem ggX11_count_X9_sessionsOver : GoodIn wsX11_count wsX9_sessionsOver := goodIn_r _ [15, 16, 17, 18, 42, 43, 44, 45, 46, 47, 48, 49, 50, 51, 52, 53, 54, 55, 56, 57, 58, 59, 60] (by decide +kernel) (by decide +kernel)
set_option maxRecDepth 20000 in
theorem gX11_count_X9_sessionsOver : GoodIn wsX11_count (wsV RX11 285 RX9 yX9_sessionsOver wsX9_sessionsOver) := goodIn_app (goodIn_of _ (by decide +kernel)) ggX11_count_X9_sessionsOver
set_option maxRecDepth 20000 in
theorem ggX11_count_X9_lettersLying : GoodIn wsX11_count wsX9_lettersLying := goodIn_r _ [22, 16, 17, 23, 42, 43, 44, 45, 46, 47, 48, 49, 50, 51, 52, 53, 54, 55, 56, 57, 58, 59, 60] (by decide +kernel) (by decide +kernel)
set_option maxRecDepth 20000 in
theorem gX11_count_X9_lettersLying : GoodIn wsX11_count (wsV RX11 288 RX9 yX9_lettersLying wsX9_lettersLying) := goodIn_app (goodIn_of _ (by decide +kernel)) ggX11_count_X9_lettersLying
set_option maxRecDepth 20000 in
theorem ggX11_count_X9_endsUnheld : GoodIn wsX11_count wsX9_endsUnheld := goodIn_r _ [27, 16, 17, 28, 42, 43, 44, 45, 46, 47, 48, 49, 50, 51, 52, 53, 54, 55, 56, 57, 58, 59, 60] (by decide +kernel) (by decide +kernel)
set_option maxRecDepth 20000 in
theorem gX11_count_X9_endsUnheld : GoodIn wsX11_count (wsV RX11 291 RX9 yX9_endsUnheld wsX9_endsUnheld) := goodIn_app (goodIn_of _ (by decide +kernel)) ggX11_count_X9_endsUnheld
theorem dX11_count_0 : decode cX11_count 0 = .ok (.iload_n 1, 1) := by decide +kernel
theorem dX11_count_1 : decode cX11_count 1 = .ok (.tableswitch 93 0 6 #[43, 48, 56, 61, 69, 77, 85], 43) := by decide +kernel
theorem dX11_count_44 : decode cX11_count 44 = .ok (.aload_n 0, 1) := by decide +kernel
theorem dX11_count_45 : decode cX11_count 45 = .ok (.invokevirtual 282, 3) := by decide +kernel
theorem dX11_count_48 : decode cX11_count 48 = .ok (.ireturn, 1) := by decide +kernel
theorem dX11_count_49 : decode cX11_count 49 = .ok (.aload_n 0, 1) := by decide +kernel
theorem dX11_count_50 : decode cX11_count 50 = .ok (.getfield 69, 3) := by decide +kernel
theorem dX11_count_53 : decode cX11_count 53 = .ok (.getfield 168, 3) := by decide +kernel
theorem dX11_count_56 : decode cX11_count 56 = .ok (.ireturn, 1) := by decide +kernel
theorem dX11_count_57 : decode cX11_count 57 = .ok (.aload_n 0, 1) := by decide +kernel
theorem dX11_count_58 : decode cX11_count 58 = .ok (.getfield 76, 3) := by decide +kernel
theorem dX11_count_61 : decode cX11_count 61 = .ok (.ireturn, 1) := by decide +kernel
theorem dX11_count_62 : decode cX11_count 62 = .ok (.aload_n 0, 1) := by decide +kernel
theorem dX11_count_63 : decode cX11_count 63 = .ok (.getfield 69, 3) := by decide +kernel
theorem dX11_count_66 : decode cX11_count 66 = .ok (.invokevirtual 285, 3) := by decide +kernel
theorem dX11_count_69 : decode cX11_count 69 = .ok (.ireturn, 1) := by decide +kernel
theorem dX11_count_70 : decode cX11_count 70 = .ok (.aload_n 0, 1) := by decide +kernel
theorem dX11_count_71 : decode cX11_count 71 = .ok (.getfield 69, 3) := by decide +kernel
theorem dX11_count_74 : decode cX11_count 74 = .ok (.invokevirtual 288, 3) := by decide +kernel
theorem dX11_count_77 : decode cX11_count 77 = .ok (.ireturn, 1) := by decide +kernel
theorem dX11_count_78 : decode cX11_count 78 = .ok (.aload_n 0, 1) := by decide +kernel
theorem dX11_count_79 : decode cX11_count 79 = .ok (.getfield 69, 3) := by decide +kernel
theorem dX11_count_82 : decode cX11_count 82 = .ok (.getfield 181, 3) := by decide +kernel
theorem dX11_count_85 : decode cX11_count 85 = .ok (.ireturn, 1) := by decide +kernel
theorem dX11_count_86 : decode cX11_count 86 = .ok (.aload_n 0, 1) := by decide +kernel
theorem dX11_count_87 : decode cX11_count 87 = .ok (.getfield 69, 3) := by decide +kernel
theorem dX11_count_90 : decode cX11_count 90 = .ok (.invokevirtual 291, 3) := by decide +kernel
theorem dX11_count_93 : decode cX11_count 93 = .ok (.ireturn, 1) := by decide +kernel
theorem dX11_count_94 : decode cX11_count 94 = .ok (.iconst (-1), 1) := by decide +kernel
theorem dX11_count_95 : decode cX11_count 95 = .ok (.ireturn, 1) := by decide +kernel
theorem dX11_protocolAt_0 : decode cX11_protocolAt 0 = .ok (.iload_n 1, 1) := by decide +kernel
theorem dX11_protocolAt_1 : decode cX11_protocolAt 1 = .ok (.ifCond .lt 21, 3) := by decide +kernel
theorem dX11_protocolAt_4 : decode cX11_protocolAt 4 = .ok (.iload_n 1, 1) := by decide +kernel
theorem dX11_protocolAt_5 : decode cX11_protocolAt 5 = .ok (.aload_n 0, 1) := by decide +kernel
theorem dX11_protocolAt_6 : decode cX11_protocolAt 6 = .ok (.getfield 11, 3) := by decide +kernel
theorem dX11_protocolAt_9 : decode cX11_protocolAt 9 = .ok (.arraylength, 1) := by decide +kernel
theorem dX11_protocolAt_10 : decode cX11_protocolAt 10 = .ok (.if_icmp .ge 12, 3) := by decide +kernel
theorem dX11_protocolAt_13 : decode cX11_protocolAt 13 = .ok (.aload_n 0, 1) := by decide +kernel
theorem dX11_protocolAt_14 : decode cX11_protocolAt 14 = .ok (.getfield 11, 3) := by decide +kernel
theorem dX11_protocolAt_17 : decode cX11_protocolAt 17 = .ok (.iload_n 1, 1) := by decide +kernel
theorem dX11_protocolAt_18 : decode cX11_protocolAt 18 = .ok (.aaload, 1) := by decide +kernel
theorem dX11_protocolAt_19 : decode cX11_protocolAt 19 = .ok (.goto 4, 3) := by decide +kernel
theorem dX11_protocolAt_22 : decode cX11_protocolAt 22 = .ok (.aconst_null, 1) := by decide +kernel
theorem dX11_protocolAt_23 : decode cX11_protocolAt 23 = .ok (.areturn, 1) := by decide +kernel
theorem dX11_protocolsThere_0 : decode cX11_protocolsThere 0 = .ok (.iconst 0, 1) := by decide +kernel
theorem dX11_protocolsThere_1 : decode cX11_protocolsThere 1 = .ok (.istore_n 1, 1) := by decide +kernel
theorem dX11_protocolsThere_2 : decode cX11_protocolsThere 2 = .ok (.iconst 0, 1) := by decide +kernel
theorem dX11_protocolsThere_3 : decode cX11_protocolsThere 3 = .ok (.istore_n 2, 1) := by decide +kernel
theorem dX11_protocolsThere_4 : decode cX11_protocolsThere 4 = .ok (.iload_n 2, 1) := by decide +kernel
theorem dX11_protocolsThere_5 : decode cX11_protocolsThere 5 = .ok (.aload_n 0, 1) := by decide +kernel
theorem dX11_protocolsThere_6 : decode cX11_protocolsThere 6 = .ok (.getfield 11, 3) := by decide +kernel
theorem dX11_protocolsThere_9 : decode cX11_protocolsThere 9 = .ok (.arraylength, 1) := by decide +kernel
theorem dX11_protocolsThere_10 : decode cX11_protocolsThere 10 = .ok (.if_icmp .ge 21, 3) := by decide +kernel
theorem dX11_protocolsThere_13 : decode cX11_protocolsThere 13 = .ok (.aload_n 0, 1) := by decide +kernel
theorem dX11_protocolsThere_14 : decode cX11_protocolsThere 14 = .ok (.getfield 11, 3) := by decide +kernel
theorem dX11_protocolsThere_17 : decode cX11_protocolsThere 17 = .ok (.iload_n 2, 1) := by decide +kernel
theorem dX11_protocolsThere_18 : decode cX11_protocolsThere 18 = .ok (.aaload, 1) := by decide +kernel
theorem dX11_protocolsThere_19 : decode cX11_protocolsThere 19 = .ok (.ifnull 6, 3) := by decide +kernel
theorem dX11_protocolsThere_22 : decode cX11_protocolsThere 22 = .ok (.iinc 1 1, 3) := by decide +kernel
theorem dX11_protocolsThere_25 : decode cX11_protocolsThere 25 = .ok (.iinc 2 1, 3) := by decide +kernel
theorem dX11_protocolsThere_28 : decode cX11_protocolsThere 28 = .ok (.goto (-24), 3) := by decide +kernel
theorem dX11_protocolsThere_31 : decode cX11_protocolsThere 31 = .ok (.iload_n 1, 1) := by decide +kernel
theorem dX11_protocolsThere_32 : decode cX11_protocolsThere 32 = .ok (.ireturn, 1) := by decide +kernel
theorem dX11_isParty_0 : decode cX11_isParty 0 = .ok (.iload_n 1, 1) := by decide +kernel
theorem dX11_isParty_1 : decode cX11_isParty 1 = .ok (.ifCond .lt 12, 3) := by decide +kernel
theorem dX11_isParty_4 : decode cX11_isParty 4 = .ok (.iload_n 1, 1) := by decide +kernel
theorem dX11_isParty_5 : decode cX11_isParty 5 = .ok (.iconst 4, 1) := by decide +kernel
theorem dX11_isParty_6 : decode cX11_isParty 6 = .ok (.if_icmp .ge 7, 3) := by decide +kernel
theorem dX11_isParty_9 : decode cX11_isParty 9 = .ok (.iconst 1, 1) := by decide +kernel
theorem dX11_isParty_10 : decode cX11_isParty 10 = .ok (.goto 4, 3) := by decide +kernel
theorem dX11_isParty_13 : decode cX11_isParty 13 = .ok (.iconst 0, 1) := by decide +kernel
theorem dX11_isParty_14 : decode cX11_isParty 14 = .ok (.ireturn, 1) := by decide +kernel
theorem dX11_isEnd_0 : decode cX11_isEnd 0 = .ok (.iload_n 1, 1) := by decide +kernel
theorem dX11_isEnd_1 : decode cX11_isEnd 1 = .ok (.ifCond .lt 26, 3) := by decide +kernel
theorem dX11_isEnd_4 : decode cX11_isEnd 4 = .ok (.iload_n 1, 1) := by decide +kernel
theorem dX11_isEnd_5 : decode cX11_isEnd 5 = .ok (.iconst 2, 1) := by decide +kernel
theorem dX11_isEnd_6 : decode cX11_isEnd 6 = .ok (.aload_n 0, 1) := by decide +kernel
theorem dX11_isEnd_7 : decode cX11_isEnd 7 = .ok (.getfield 69, 3) := by decide +kernel
theorem dX11_isEnd_10 : decode cX11_isEnd 10 = .ok (.getfield 168, 3) := by decide +kernel
theorem dX11_isEnd_13 : decode cX11_isEnd 13 = .ok (.imul, 1) := by decide +kernel
theorem dX11_isEnd_14 : decode cX11_isEnd 14 = .ok (.if_icmp .ge 13, 3) := by decide +kernel
theorem dX11_isEnd_17 : decode cX11_isEnd 17 = .ok (.iload_n 1, 1) := by decide +kernel
theorem dX11_isEnd_18 : decode cX11_isEnd 18 = .ok (.bipush 16, 2) := by decide +kernel
theorem dX11_isEnd_20 : decode cX11_isEnd 20 = .ok (.if_icmp .ge 7, 3) := by decide +kernel
theorem dX11_isEnd_23 : decode cX11_isEnd 23 = .ok (.iconst 1, 1) := by decide +kernel
theorem dX11_isEnd_24 : decode cX11_isEnd 24 = .ok (.goto 4, 3) := by decide +kernel
theorem dX11_isEnd_27 : decode cX11_isEnd 27 = .ok (.iconst 0, 1) := by decide +kernel
theorem dX11_isEnd_28 : decode cX11_isEnd 28 = .ok (.ireturn, 1) := by decide +kernel
set_option maxRecDepth 20000 in
theorem ggX11_unlikeStates_X7_isStateOutside : GoodIn wsX11_unlikeStates wsX7_isStateOutside := goodIn_r _ [7, 8, 9, 10, 11, 6, 12, 13, 65, 66, 67, 68, 69, 70, 71, 72, 73] (by decide +kernel) (by decide +kernel)
set_option maxRecDepth 20000 in
theorem gX11_unlikeStates_X7_isStateOutside : GoodIn wsX11_unlikeStates (wsV RX11 294 RX7 yX7_isStateOutside wsX7_isStateOutside) := goodIn_app (goodIn_of _ (by decide +kernel)) ggX11_unlikeStates_X7_isStateOutside
set_option maxRecDepth 20000 in
theorem ggX11_unlikeStates_X11_isLikeOneOf : GoodIn wsX11_unlikeStates wsX11_isLikeOneOf := goodIn_r _ [18, 2, 19, 20, 21, 22, 23, 24, 25, 26, 27, 28, 29, 30, 31, 32, 33, 34, 35, 36, 37, 38, 39, 40, 10, 11, 6, 12, 13, 41, 42, 43, 44, 45, 46, 47, 48, 49, 50, 51, 52, 53, 54, 55, 56, 57, 58, 59, 60, 61, 62, 63, 64, 74, 75, 76, 77, 78, 79, 80, 81, 82, 83, 84, 85, 86, 87, 88, 89, 65, 66, 67, 68, 69, 70, 71, 72, 73] (by decide +kernel) (by decide +kernel)
set_option maxRecDepth 20000 in
theorem gX11_unlikeStates_X11_isLikeOneOf : GoodIn wsX11_unlikeStates (wsV RX11 297 RX11 yX11_isLikeOneOf wsX11_isLikeOneOf) := goodIn_app (goodIn_of _ (by decide +kernel)) ggX11_unlikeStates_X11_isLikeOneOf
theorem dX11_unlikeStates_0 : decode cX11_unlikeStates 0 = .ok (.iconst 0, 1) := by decide +kernel
theorem dX11_unlikeStates_1 : decode cX11_unlikeStates 1 = .ok (.istore_n 2, 1) := by decide +kernel
theorem dX11_unlikeStates_2 : decode cX11_unlikeStates 2 = .ok (.iconst 0, 1) := by decide +kernel
theorem dX11_unlikeStates_3 : decode cX11_unlikeStates 3 = .ok (.istore_n 3, 1) := by decide +kernel
theorem dX11_unlikeStates_4 : decode cX11_unlikeStates 4 = .ok (.iload_n 3, 1) := by decide +kernel
theorem dX11_unlikeStates_5 : decode cX11_unlikeStates 5 = .ok (.aload_n 1, 1) := by decide +kernel
theorem dX11_unlikeStates_6 : decode cX11_unlikeStates 6 = .ok (.getfield 91, 3) := by decide +kernel
theorem dX11_unlikeStates_9 : decode cX11_unlikeStates 9 = .ok (.if_icmp .ge 49, 3) := by decide +kernel
theorem dX11_unlikeStates_12 : decode cX11_unlikeStates 12 = .ok (.aload_n 1, 1) := by decide +kernel
theorem dX11_unlikeStates_13 : decode cX11_unlikeStates 13 = .ok (.iload_n 3, 1) := by decide +kernel
theorem dX11_unlikeStates_14 : decode cX11_unlikeStates 14 = .ok (.invokevirtual 294, 3) := by decide +kernel
theorem dX11_unlikeStates_17 : decode cX11_unlikeStates 17 = .ok (.ifCond .eq 35, 3) := by decide +kernel
theorem dX11_unlikeStates_20 : decode cX11_unlikeStates 20 = .ok (.aload_n 0, 1) := by decide +kernel
theorem dX11_unlikeStates_21 : decode cX11_unlikeStates 21 = .ok (.aload_n 1, 1) := by decide +kernel
theorem dX11_unlikeStates_22 : decode cX11_unlikeStates 22 = .ok (.iload_n 3, 1) := by decide +kernel
theorem dX11_unlikeStates_23 : decode cX11_unlikeStates 23 = .ok (.iload_n 2, 1) := by decide +kernel
theorem dX11_unlikeStates_24 : decode cX11_unlikeStates 24 = .ok (.invokevirtual 297, 3) := by decide +kernel
theorem dX11_unlikeStates_27 : decode cX11_unlikeStates 27 = .ok (.ifCond .eq 6, 3) := by decide +kernel
theorem dX11_unlikeStates_30 : decode cX11_unlikeStates 30 = .ok (.goto 22, 3) := by decide +kernel
theorem dX11_unlikeStates_33 : decode cX11_unlikeStates 33 = .ok (.iload_n 2, 1) := by decide +kernel
theorem dX11_unlikeStates_34 : decode cX11_unlikeStates 34 = .ok (.aload_n 0, 1) := by decide +kernel
theorem dX11_unlikeStates_35 : decode cX11_unlikeStates 35 = .ok (.getfield 63, 3) := by decide +kernel
theorem dX11_unlikeStates_38 : decode cX11_unlikeStates 38 = .ok (.arraylength, 1) := by decide +kernel
theorem dX11_unlikeStates_39 : decode cX11_unlikeStates 39 = .ok (.if_icmp .ge 10, 3) := by decide +kernel
theorem dX11_unlikeStates_42 : decode cX11_unlikeStates 42 = .ok (.aload_n 0, 1) := by decide +kernel
theorem dX11_unlikeStates_43 : decode cX11_unlikeStates 43 = .ok (.getfield 63, 3) := by decide +kernel
theorem dX11_unlikeStates_46 : decode cX11_unlikeStates 46 = .ok (.iload_n 2, 1) := by decide +kernel
theorem dX11_unlikeStates_47 : decode cX11_unlikeStates 47 = .ok (.iload_n 3, 1) := by decide +kernel
theorem dX11_unlikeStates_48 : decode cX11_unlikeStates 48 = .ok (.iastore, 1) := by decide +kernel
theorem dX11_unlikeStates_49 : decode cX11_unlikeStates 49 = .ok (.iinc 2 1, 3) := by decide +kernel
theorem dX11_unlikeStates_52 : decode cX11_unlikeStates 52 = .ok (.iinc 3 1, 3) := by decide +kernel
theorem dX11_unlikeStates_55 : decode cX11_unlikeStates 55 = .ok (.goto (-51), 3) := by decide +kernel
theorem dX11_unlikeStates_58 : decode cX11_unlikeStates 58 = .ok (.iload_n 2, 1) := by decide +kernel
theorem dX11_unlikeStates_59 : decode cX11_unlikeStates 59 = .ok (.ireturn, 1) := by decide +kernel
set_option maxRecDepth 20000 in
theorem ggX11_isLikeOneOf_X1_holds : GoodIn wsX11_isLikeOneOf wsX1_holds := goodIn_r _ [7, 8, 9, 10, 11, 12, 13, 14, 15, 16, 17, 6, 18, 19, 20, 21, 22, 23, 24, 25, 26, 27, 28, 29, 30, 31, 32, 33, 34, 35, 36, 37, 38, 39, 40, 41, 42, 43, 44, 45, 46, 47, 48, 49, 50, 51, 52, 66, 67, 68, 69, 70, 71, 72, 73, 74, 75, 76, 77] (by decide +kernel) (by decide +kernel)
set_option maxRecDepth 20000 in
theorem gX11_isLikeOneOf_X1_holds : GoodIn wsX11_isLikeOneOf (wsV RX11 132 RX1 yX1_holds wsX1_holds) := goodIn_app (goodIn_of _ (by decide +kernel)) ggX11_isLikeOneOf_X1_holds
theorem dX11_isLikeOneOf_0 : decode cX11_isLikeOneOf 0 = .ok (.iconst 0, 1) := by decide +kernel
theorem dX11_isLikeOneOf_1 : decode cX11_isLikeOneOf 1 = .ok (.istore 4, 2) := by decide +kernel
theorem dX11_isLikeOneOf_3 : decode cX11_isLikeOneOf 3 = .ok (.iload 4, 2) := by decide +kernel
theorem dX11_isLikeOneOf_5 : decode cX11_isLikeOneOf 5 = .ok (.iload_n 3, 1) := by decide +kernel
theorem dX11_isLikeOneOf_6 : decode cX11_isLikeOneOf 6 = .ok (.if_icmp .ge 42, 3) := by decide +kernel
theorem dX11_isLikeOneOf_9 : decode cX11_isLikeOneOf 9 = .ok (.iload 4, 2) := by decide +kernel
theorem dX11_isLikeOneOf_11 : decode cX11_isLikeOneOf 11 = .ok (.aload_n 0, 1) := by decide +kernel
theorem dX11_isLikeOneOf_12 : decode cX11_isLikeOneOf 12 = .ok (.getfield 63, 3) := by decide +kernel
theorem dX11_isLikeOneOf_15 : decode cX11_isLikeOneOf 15 = .ok (.arraylength, 1) := by decide +kernel
theorem dX11_isLikeOneOf_16 : decode cX11_isLikeOneOf 16 = .ok (.if_icmp .ge 32, 3) := by decide +kernel
theorem dX11_isLikeOneOf_19 : decode cX11_isLikeOneOf 19 = .ok (.aload_n 0, 1) := by decide +kernel
theorem dX11_isLikeOneOf_20 : decode cX11_isLikeOneOf 20 = .ok (.getfield 43, 3) := by decide +kernel
theorem dX11_isLikeOneOf_23 : decode cX11_isLikeOneOf 23 = .ok (.aload_n 1, 1) := by decide +kernel
theorem dX11_isLikeOneOf_24 : decode cX11_isLikeOneOf 24 = .ok (.aload_n 0, 1) := by decide +kernel
theorem dX11_isLikeOneOf_25 : decode cX11_isLikeOneOf 25 = .ok (.getfield 63, 3) := by decide +kernel
theorem dX11_isLikeOneOf_28 : decode cX11_isLikeOneOf 28 = .ok (.iload 4, 2) := by decide +kernel
theorem dX11_isLikeOneOf_30 : decode cX11_isLikeOneOf 30 = .ok (.iaload, 1) := by decide +kernel
theorem dX11_isLikeOneOf_31 : decode cX11_isLikeOneOf 31 = .ok (.aload_n 1, 1) := by decide +kernel
theorem dX11_isLikeOneOf_32 : decode cX11_isLikeOneOf 32 = .ok (.iload_n 2, 1) := by decide +kernel
theorem dX11_isLikeOneOf_33 : decode cX11_isLikeOneOf 33 = .ok (.iconst 1, 1) := by decide +kernel
theorem dX11_isLikeOneOf_34 : decode cX11_isLikeOneOf 34 = .ok (.invokevirtual 132, 3) := by decide +kernel
theorem dX11_isLikeOneOf_37 : decode cX11_isLikeOneOf 37 = .ok (.ifCond .eq 5, 3) := by decide +kernel
theorem dX11_isLikeOneOf_40 : decode cX11_isLikeOneOf 40 = .ok (.iconst 1, 1) := by decide +kernel
theorem dX11_isLikeOneOf_41 : decode cX11_isLikeOneOf 41 = .ok (.ireturn, 1) := by decide +kernel
theorem dX11_isLikeOneOf_42 : decode cX11_isLikeOneOf 42 = .ok (.iinc 4 1, 3) := by decide +kernel
theorem dX11_isLikeOneOf_45 : decode cX11_isLikeOneOf 45 = .ok (.goto (-42), 3) := by decide +kernel
theorem dX11_isLikeOneOf_48 : decode cX11_isLikeOneOf 48 = .ok (.iconst 0, 1) := by decide +kernel
theorem dX11_isLikeOneOf_49 : decode cX11_isLikeOneOf 49 = .ok (.ireturn, 1) := by decide +kernel
set_option maxRecDepth 20000 in
theorem ggX11_enact_X11_judge : GoodIn wsX11_enact wsX11_judge := goodIn_r _ [10, 1, 11, 12, 13, 14, 15, 16, 17, 18, 19, 20, 21, 22, 23, 24, 25, 26, 27, 28, 29, 30, 31, 9, 32, 33, 34, 35, 36, 37, 38, 39, 40, 41, 42, 43, 44, 45, 46, 47, 48, 49, 50, 51, 52, 53, 54, 55, 56, 57, 58, 59, 60, 61, 62, 63, 64, 65, 66, 67, 68, 69, 70, 71, 72, 73, 74, 75, 76, 77, 78, 79, 80, 81, 82, 83, 84, 85, 86, 87, 88, 89, 90, 91, 92, 93, 94, 95, 96, 97, 98, 99, 100, 101, 102, 103, 104, 105, 106, 107, 108, 109, 110, 111, 112, 113, 114, 115, 116, 117, 118, 119, 120, 121, 122, 123, 124, 125, 126, 127, 128, 129, 130, 131, 132, 133, 134, 135, 136, 137, 138, 139, 140, 141, 142, 143, 144, 145, 146, 147, 148, 149, 150, 151, 152, 153, 154, 155, 212, 213, 214, 215, 216, 217, 218, 219, 220, 221, 222, 223, 224, 225, 226, 227, 228, 229, 230, 231, 232, 233, 234, 235, 236, 237, 238, 239, 240, 241, 242, 243, 244, 245, 246, 247, 248, 249, 250, 251, 252, 253, 254, 255, 256, 257, 258, 259, 260, 261, 262, 263] (by decide +kernel) (by decide +kernel)
set_option maxRecDepth 20000 in
theorem gX11_enact_X11_judge : GoodIn wsX11_enact (wsV RX11 301 RX11 yX11_judge wsX11_judge) := goodIn_app (goodIn_of _ (by decide +kernel)) ggX11_enact_X11_judge
set_option maxRecDepth 20000 in
theorem ggX11_enact_X11_accuse : GoodIn wsX11_enact wsX11_accuse := goodIn_r _ [159, 1, 11, 160, 2, 12, 161, 15, 162, 163, 164, 165, 166, 167, 168, 169, 170, 171, 172, 173, 174, 175, 176, 177, 17, 18, 19, 20, 21, 22, 23, 24, 25, 26, 27, 28, 29, 30, 31, 9, 32, 178, 179, 180, 72, 181, 76, 130, 212, 213, 214, 215, 216, 217, 218, 219, 220, 221, 222, 223, 224, 225, 226, 227, 228, 229, 230, 231, 232, 233, 234, 235, 236, 237, 238, 239, 240, 241, 242, 243, 253, 254, 255, 256, 257, 258, 259, 260, 264, 265, 266, 267, 268, 269, 244, 245, 246, 247, 248, 249, 250, 251, 252] (by decide +kernel) (by decide +kernel)
set_option maxRecDepth 20000 in
theorem gX11_enact_X11_accuse : GoodIn wsX11_enact (wsV RX11 304 RX11 yX11_accuse wsX11_accuse) := goodIn_app (goodIn_of _ (by decide +kernel)) ggX11_enact_X11_accuse
set_option maxRecDepth 20000 in
theorem ggX11_enact_X11_perform : GoodIn wsX11_enact wsX11_perform := goodIn_r _ [185, 1, 11, 14, 13, 2, 161, 186, 16, 17, 18, 19, 20, 21, 22, 23, 24, 25, 26, 27, 28, 29, 187, 188, 189, 190, 191, 192, 193, 194, 195, 196, 197, 198, 199, 200, 201, 202, 203, 204, 9, 205, 12, 206, 63, 64, 65, 66, 67, 68, 207, 208, 209, 210, 211, 137, 138, 139, 140, 141, 120, 121, 122, 123, 142, 55, 56, 57, 58, 143, 144, 145, 146, 147, 148, 149, 212, 213, 214, 215, 216, 217, 218, 219, 220, 221, 222, 223, 224, 225, 226, 227, 228, 229, 230, 231, 232, 233, 234, 235, 236, 237, 238, 239, 240, 241, 242, 243, 244, 245, 246, 247, 248, 249, 250, 251, 252] (by decide +kernel) (by decide +kernel)
set_option maxRecDepth 20000 in
theorem gX11_enact_X11_perform : GoodIn wsX11_enact (wsV RX11 308 RX11 yX11_perform wsX11_perform) := goodIn_app (goodIn_of _ (by decide +kernel)) ggX11_enact_X11_perform
theorem dX11_enact_0 : decode cX11_enact 0 = .ok (.aload_n 0, 1) := by decide +kernel
theorem dX11_enact_1 : decode cX11_enact 1 = .ok (.getfield 69, 3) := by decide +kernel
theorem dX11_enact_4 : decode cX11_enact 4 = .ok (.dup, 1) := by decide +kernel
theorem dX11_enact_5 : decode cX11_enact 5 = .ok (.getfield 265, 3) := by decide +kernel
theorem dX11_enact_8 : decode cX11_enact 8 = .ok (.iconst 1, 1) := by decide +kernel
theorem dX11_enact_9 : decode cX11_enact 9 = .ok (.iadd, 1) := by decide +kernel
theorem dX11_enact_10 : decode cX11_enact 10 = .ok (.putfield 265, 3) := by decide +kernel
theorem dX11_enact_13 : decode cX11_enact 13 = .ok (.aload_n 0, 1) := by decide +kernel
theorem dX11_enact_14 : decode cX11_enact 14 = .ok (.iload_n 1, 1) := by decide +kernel
theorem dX11_enact_15 : decode cX11_enact 15 = .ok (.iload_n 2, 1) := by decide +kernel
theorem dX11_enact_16 : decode cX11_enact 16 = .ok (.iload_n 3, 1) := by decide +kernel
theorem dX11_enact_17 : decode cX11_enact 17 = .ok (.iload 4, 2) := by decide +kernel
theorem dX11_enact_19 : decode cX11_enact 19 = .ok (.invokevirtual 301, 3) := by decide +kernel
theorem dX11_enact_22 : decode cX11_enact 22 = .ok (.istore 5, 2) := by decide +kernel
theorem dX11_enact_24 : decode cX11_enact 24 = .ok (.iload 5, 2) := by decide +kernel
theorem dX11_enact_26 : decode cX11_enact 26 = .ok (.bipush (-4), 2) := by decide +kernel
theorem dX11_enact_28 : decode cX11_enact 28 = .ok (.if_icmp .ne 19, 3) := by decide +kernel
theorem dX11_enact_31 : decode cX11_enact 31 = .ok (.aload_n 0, 1) := by decide +kernel
theorem dX11_enact_32 : decode cX11_enact 32 = .ok (.getfield 69, 3) := by decide +kernel
theorem dX11_enact_35 : decode cX11_enact 35 = .ok (.dup, 1) := by decide +kernel
theorem dX11_enact_36 : decode cX11_enact 36 = .ok (.getfield 271, 3) := by decide +kernel
theorem dX11_enact_39 : decode cX11_enact 39 = .ok (.iconst 1, 1) := by decide +kernel
theorem dX11_enact_40 : decode cX11_enact 40 = .ok (.iadd, 1) := by decide +kernel
theorem dX11_enact_41 : decode cX11_enact 41 = .ok (.putfield 271, 3) := by decide +kernel
theorem dX11_enact_44 : decode cX11_enact 44 = .ok (.bipush (-4), 2) := by decide +kernel
theorem dX11_enact_46 : decode cX11_enact 46 = .ok (.ireturn, 1) := by decide +kernel
theorem dX11_enact_47 : decode cX11_enact 47 = .ok (.iload 5, 2) := by decide +kernel
theorem dX11_enact_49 : decode cX11_enact 49 = .ok (.ifCond .eq 30, 3) := by decide +kernel
theorem dX11_enact_52 : decode cX11_enact 52 = .ok (.aload_n 0, 1) := by decide +kernel
theorem dX11_enact_53 : decode cX11_enact 53 = .ok (.getfield 69, 3) := by decide +kernel
theorem dX11_enact_56 : decode cX11_enact 56 = .ok (.dup, 1) := by decide +kernel
theorem dX11_enact_57 : decode cX11_enact 57 = .ok (.getfield 274, 3) := by decide +kernel
theorem dX11_enact_60 : decode cX11_enact 60 = .ok (.iconst 1, 1) := by decide +kernel
theorem dX11_enact_61 : decode cX11_enact 61 = .ok (.iadd, 1) := by decide +kernel
theorem dX11_enact_62 : decode cX11_enact 62 = .ok (.putfield 274, 3) := by decide +kernel
theorem dX11_enact_65 : decode cX11_enact 65 = .ok (.aload_n 0, 1) := by decide +kernel
theorem dX11_enact_66 : decode cX11_enact 66 = .ok (.iload_n 1, 1) := by decide +kernel
theorem dX11_enact_67 : decode cX11_enact 67 = .ok (.iload_n 2, 1) := by decide +kernel
theorem dX11_enact_68 : decode cX11_enact 68 = .ok (.iload_n 3, 1) := by decide +kernel
theorem dX11_enact_69 : decode cX11_enact 69 = .ok (.iload 4, 2) := by decide +kernel
theorem dX11_enact_71 : decode cX11_enact 71 = .ok (.iload 5, 2) := by decide +kernel
theorem dX11_enact_73 : decode cX11_enact 73 = .ok (.invokevirtual 304, 3) := by decide +kernel
theorem dX11_enact_76 : decode cX11_enact 76 = .ok (.bipush (-6), 2) := by decide +kernel
theorem dX11_enact_78 : decode cX11_enact 78 = .ok (.ireturn, 1) := by decide +kernel
theorem dX11_enact_79 : decode cX11_enact 79 = .ok (.aload_n 0, 1) := by decide +kernel
theorem dX11_enact_80 : decode cX11_enact 80 = .ok (.getfield 69, 3) := by decide +kernel
theorem dX11_enact_83 : decode cX11_enact 83 = .ok (.dup, 1) := by decide +kernel
theorem dX11_enact_84 : decode cX11_enact 84 = .ok (.getfield 268, 3) := by decide +kernel
theorem dX11_enact_87 : decode cX11_enact 87 = .ok (.iconst 1, 1) := by decide +kernel
theorem dX11_enact_88 : decode cX11_enact 88 = .ok (.iadd, 1) := by decide +kernel
theorem dX11_enact_89 : decode cX11_enact 89 = .ok (.putfield 268, 3) := by decide +kernel
theorem dX11_enact_92 : decode cX11_enact 92 = .ok (.aload_n 0, 1) := by decide +kernel
theorem dX11_enact_93 : decode cX11_enact 93 = .ok (.iload_n 1, 1) := by decide +kernel
theorem dX11_enact_94 : decode cX11_enact 94 = .ok (.iload_n 2, 1) := by decide +kernel
theorem dX11_enact_95 : decode cX11_enact 95 = .ok (.iload_n 3, 1) := by decide +kernel
theorem dX11_enact_96 : decode cX11_enact 96 = .ok (.iload 4, 2) := by decide +kernel
theorem dX11_enact_98 : decode cX11_enact 98 = .ok (.invokevirtual 308, 3) := by decide +kernel
theorem dX11_enact_101 : decode cX11_enact 101 = .ok (.ireturn, 1) := by decide +kernel
set_option maxRecDepth 20000 in
theorem ggX11_judge_X2_kind : GoodIn wsX11_judge wsX2_kind := goodIn_r _ [12, 13, 14, 15, 16, 17, 18, 19, 20, 172, 173, 174, 175, 176, 177, 178, 179, 180, 181, 182, 183, 184, 185, 186, 187, 188] (by decide +kernel) (by decide +kernel)
set_option maxRecDepth 20000 in
theorem gX11_judge_X2_kind : GoodIn wsX11_judge (wsV RX11 194 RX2 yX2_kind wsX2_kind) := goodIn_app (goodIn_of _ (by decide +kernel)) ggX11_judge_X2_kind
set_option maxRecDepth 20000 in
theorem ggX11_judge_X11_kindFor : GoodIn wsX11_judge wsX11_kindFor := goodIn_r _ [24] (by decide +kernel) (by decide +kernel)
set_option maxRecDepth 20000 in
theorem gX11_judge_X11_kindFor : GoodIn wsX11_judge (va_wsS RX11 314 yX11_kindFor wsX11_kindFor) := goodIn_app (goodIn_of _ (by decide +kernel)) ggX11_judge_X11_kindFor
set_option maxRecDepth 20000 in
theorem ggX11_judge_X2_isAtBrackets : GoodIn wsX11_judge wsX2_isAtBrackets := goodIn_r _ [28, 13, 14, 29, 30, 31, 18, 32, 33, 172, 173, 174, 175, 176, 177, 178, 179, 180, 181, 182, 183, 184, 185, 186, 187, 188] (by decide +kernel) (by decide +kernel)
set_option maxRecDepth 20000 in
theorem gX11_judge_X2_isAtBrackets : GoodIn wsX11_judge (wsV RX11 317 RX2 yX2_isAtBrackets wsX2_isAtBrackets) := goodIn_app (goodIn_of _ (by decide +kernel)) ggX11_judge_X2_isAtBrackets
set_option maxRecDepth 20000 in
theorem ggX11_judge_X2_maySay : GoodIn wsX11_judge wsX2_maySay := goodIn_r _ [37, 13, 14, 29, 30, 31, 18, 32, 33, 172, 173, 174, 175, 176, 177, 178, 179, 180, 181, 182, 183, 184, 185, 186, 187, 188] (by decide +kernel) (by decide +kernel)
set_option maxRecDepth 20000 in
theorem gX11_judge_X2_maySay : GoodIn wsX11_judge (wsV RX11 321 RX2 yX2_maySay wsX2_maySay) := goodIn_app (goodIn_of _ (by decide +kernel)) ggX11_judge_X2_maySay
set_option maxRecDepth 20000 in
theorem ggX11_judge_X2_mayPick : GoodIn wsX11_judge wsX2_mayPick := goodIn_r _ [41, 42, 43, 44, 11, 45, 13, 14, 46, 47, 48, 18, 49, 50, 172, 173, 174, 175, 176, 177, 178, 179, 180, 181, 182, 183, 184, 185, 186, 187, 188] (by decide +kernel) (by decide +kernel)
set_option maxRecDepth 20000 in
theorem gX11_judge_X2_mayPick : GoodIn wsX11_judge (wsV RX11 324 RX2 yX2_mayPick wsX2_mayPick) := goodIn_app (goodIn_of _ (by decide +kernel)) ggX11_judge_X2_mayPick
set_option maxRecDepth 20000 in
theorem ggX11_judge_X11_mayBeGiven : GoodIn wsX11_judge wsX11_mayBeGiven := goodIn_r _ [54, 1, 2, 3, 4, 5, 148, 149, 150, 151, 152, 153, 154, 155, 156, 157, 158, 159, 160, 161, 162, 163, 164, 165, 166, 167, 168, 169, 170, 171, 172, 173, 174, 175, 176, 177, 178, 179] (by decide +kernel) (by decide +kernel)
set_option maxRecDepth 20000 in
theorem gX11_judge_X11_mayBeGiven : GoodIn wsX11_judge (wsV RX11 327 RX11 yX11_mayBeGiven wsX11_mayBeGiven) := goodIn_app (goodIn_of _ (by decide +kernel)) ggX11_judge_X11_mayBeGiven
set_option maxRecDepth 20000 in
theorem ggX11_judge_X7_innerOf : GoodIn wsX11_judge wsX7_innerOf := goodIn_r _ [58, 59, 60, 180, 181, 182, 183, 184, 185, 186, 187, 188] (by decide +kernel) (by decide +kernel)
set_option maxRecDepth 20000 in
theorem gX11_judge_X7_innerOf : GoodIn wsX11_judge (wsV RX11 334 RX7 yX7_innerOf wsX7_innerOf) := goodIn_app (goodIn_of _ (by decide +kernel)) ggX11_judge_X7_innerOf
set_option maxRecDepth 20000 in
theorem ggX11_judge_X3_find : GoodIn wsX11_judge wsX3_find := goodIn_r _ [65, 66, 67, 68, 69, 70, 71, 72, 73, 74, 75, 76, 77, 64, 78, 79, 80, 81, 82, 83, 84, 16, 17, 18, 19, 20, 85, 30, 31, 32, 33, 86, 47, 48, 49, 50, 87, 88, 89, 90, 91, 56, 57, 58, 59, 60, 92, 93, 94, 95, 96, 97, 98, 99, 100, 101, 102, 103, 104, 105, 106, 107, 108, 109, 110, 111, 112, 113, 114, 115, 116, 117, 118, 119, 120, 121, 122, 123, 124, 125, 126, 127, 128, 129, 130, 131, 132, 133, 134, 135, 136, 137, 138, 139, 140, 141, 189, 190, 191, 192, 193, 194, 195, 196, 180, 181, 182, 183, 184, 185, 186, 187, 188, 197, 198, 199] (by decide +kernel) (by decide +kernel)
set_option maxRecDepth 20000 in
theorem gX11_judge_X3_find : GoodIn wsX11_judge (wsV RX11 136 RX3 yX3_find wsX3_find) := goodIn_app (goodIn_of _ (by decide +kernel)) ggX11_judge_X3_find
set_option maxRecDepth 20000 in
theorem ggX11_judge_X11_waitsFor : GoodIn wsX11_judge wsX11_waitsFor := goodIn_r _ [145, 1, 2, 146, 147, 21, 22, 23, 24, 148, 149, 150, 151, 152, 153, 154, 155, 156, 157, 158, 159, 160, 161, 162, 163, 164, 165, 166, 167, 168, 169, 170, 171, 172, 173, 174, 175, 176, 177, 178, 179] (by decide +kernel) (by decide +kernel)
set_option maxRecDepth 20000 in
theorem gX11_judge_X11_waitsFor : GoodIn wsX11_judge (wsV RX11 337 RX11 yX11_waitsFor wsX11_waitsFor) := goodIn_app (goodIn_of _ (by decide +kernel)) ggX11_judge_X11_waitsFor
theorem dX11_judge_0 : decode cX11_judge 0 = .ok (.iload_n 2, 1) := by decide +kernel
theorem dX11_judge_1 : decode cX11_judge 1 = .ok (.ifCond .lt 15, 3) := by decide +kernel
theorem dX11_judge_4 : decode cX11_judge 4 = .ok (.iload_n 2, 1) := by decide +kernel
theorem dX11_judge_5 : decode cX11_judge 5 = .ok (.aload_n 0, 1) := by decide +kernel
theorem dX11_judge_6 : decode cX11_judge 6 = .ok (.getfield 69, 3) := by decide +kernel
theorem dX11_judge_9 : decode cX11_judge 9 = .ok (.getfield 171, 3) := by decide +kernel
theorem dX11_judge_12 : decode cX11_judge 12 = .ok (.arraylength, 1) := by decide +kernel
theorem dX11_judge_13 : decode cX11_judge 13 = .ok (.if_icmp .lt 5, 3) := by decide +kernel
theorem dX11_judge_16 : decode cX11_judge 16 = .ok (.iconst 1, 1) := by decide +kernel
theorem dX11_judge_17 : decode cX11_judge 17 = .ok (.ireturn, 1) := by decide +kernel
theorem dX11_judge_18 : decode cX11_judge 18 = .ok (.aload_n 0, 1) := by decide +kernel
theorem dX11_judge_19 : decode cX11_judge 19 = .ok (.getfield 69, 3) := by decide +kernel
theorem dX11_judge_22 : decode cX11_judge 22 = .ok (.getfield 171, 3) := by decide +kernel
theorem dX11_judge_25 : decode cX11_judge 25 = .ok (.iload_n 2, 1) := by decide +kernel
theorem dX11_judge_26 : decode cX11_judge 26 = .ok (.aaload, 1) := by decide +kernel
theorem dX11_judge_27 : decode cX11_judge 27 = .ok (.astore 5, 2) := by decide +kernel
theorem dX11_judge_29 : decode cX11_judge 29 = .ok (.aload 5, 2) := by decide +kernel
theorem dX11_judge_31 : decode cX11_judge 31 = .ok (.getfield 191, 3) := by decide +kernel
theorem dX11_judge_34 : decode cX11_judge 34 = .ok (.iload_n 1, 1) := by decide +kernel
theorem dX11_judge_35 : decode cX11_judge 35 = .ok (.if_icmp .eq 5, 3) := by decide +kernel
theorem dX11_judge_38 : decode cX11_judge 38 = .ok (.iconst 1, 1) := by decide +kernel
theorem dX11_judge_39 : decode cX11_judge 39 = .ok (.ireturn, 1) := by decide +kernel
theorem dX11_judge_40 : decode cX11_judge 40 = .ok (.aload 5, 2) := by decide +kernel
theorem dX11_judge_42 : decode cX11_judge 42 = .ok (.getfield 204, 3) := by decide +kernel
theorem dX11_judge_45 : decode cX11_judge 45 = .ok (.ifCond .eq 5, 3) := by decide +kernel
theorem dX11_judge_48 : decode cX11_judge 48 = .ok (.iconst 2, 1) := by decide +kernel
theorem dX11_judge_49 : decode cX11_judge 49 = .ok (.ireturn, 1) := by decide +kernel
theorem dX11_judge_50 : decode cX11_judge 50 = .ok (.aload 5, 2) := by decide +kernel
theorem dX11_judge_52 : decode cX11_judge 52 = .ok (.getfield 311, 3) := by decide +kernel
theorem dX11_judge_55 : decode cX11_judge 55 = .ok (.ifnull 15, 3) := by decide +kernel
theorem dX11_judge_58 : decode cX11_judge 58 = .ok (.aload 5, 2) := by decide +kernel
theorem dX11_judge_60 : decode cX11_judge 60 = .ok (.invokevirtual 194, 3) := by decide +kernel
theorem dX11_judge_63 : decode cX11_judge 63 = .ok (.iload_n 3, 1) := by decide +kernel
theorem dX11_judge_64 : decode cX11_judge 64 = .ok (.invokestatic 314, 3) := by decide +kernel
theorem dX11_judge_67 : decode cX11_judge 67 = .ok (.if_icmp .eq 5, 3) := by decide +kernel
theorem dX11_judge_70 : decode cX11_judge 70 = .ok (.iconst 3, 1) := by decide +kernel
theorem dX11_judge_71 : decode cX11_judge 71 = .ok (.ireturn, 1) := by decide +kernel
theorem dX11_judge_72 : decode cX11_judge 72 = .ok (.aload 5, 2) := by decide +kernel
theorem dX11_judge_74 : decode cX11_judge 74 = .ok (.invokevirtual 317, 3) := by decide +kernel
theorem dX11_judge_77 : decode cX11_judge 77 = .ok (.iload_n 3, 1) := by decide +kernel
theorem dX11_judge_78 : decode cX11_judge 78 = .ok (.iconst 4, 1) := by decide +kernel
theorem dX11_judge_79 : decode cX11_judge 79 = .ok (.if_icmp .le 7, 3) := by decide +kernel
theorem dX11_judge_82 : decode cX11_judge 82 = .ok (.iconst 1, 1) := by decide +kernel
theorem dX11_judge_83 : decode cX11_judge 83 = .ok (.goto 4, 3) := by decide +kernel
theorem dX11_judge_86 : decode cX11_judge 86 = .ok (.iconst 0, 1) := by decide +kernel
theorem dX11_judge_87 : decode cX11_judge 87 = .ok (.if_icmp .eq 5, 3) := by decide +kernel
theorem dX11_judge_90 : decode cX11_judge 90 = .ok (.iconst 3, 1) := by decide +kernel
theorem dX11_judge_91 : decode cX11_judge 91 = .ok (.ireturn, 1) := by decide +kernel
theorem dX11_judge_92 : decode cX11_judge 92 = .ok (.iload_n 3, 1) := by decide +kernel
theorem dX11_judge_93 : decode cX11_judge 93 = .ok (.iconst 1, 1) := by decide +kernel
theorem dX11_judge_94 : decode cX11_judge 94 = .ok (.if_icmp .ne 15, 3) := by decide +kernel
theorem dX11_judge_97 : decode cX11_judge 97 = .ok (.aload 5, 2) := by decide +kernel
theorem dX11_judge_99 : decode cX11_judge 99 = .ok (.iload 4, 2) := by decide +kernel
theorem dX11_judge_101 : decode cX11_judge 101 = .ok (.invokevirtual 321, 3) := by decide +kernel
theorem dX11_judge_104 : decode cX11_judge 104 = .ok (.ifCond .ne 5, 3) := by decide +kernel
theorem dX11_judge_107 : decode cX11_judge 107 = .ok (.iconst 4, 1) := by decide +kernel
theorem dX11_judge_108 : decode cX11_judge 108 = .ok (.ireturn, 1) := by decide +kernel
theorem dX11_judge_109 : decode cX11_judge 109 = .ok (.iload_n 3, 1) := by decide +kernel
theorem dX11_judge_110 : decode cX11_judge 110 = .ok (.iconst 3, 1) := by decide +kernel
theorem dX11_judge_111 : decode cX11_judge 111 = .ok (.if_icmp .ne 15, 3) := by decide +kernel
theorem dX11_judge_114 : decode cX11_judge 114 = .ok (.aload 5, 2) := by decide +kernel
theorem dX11_judge_116 : decode cX11_judge 116 = .ok (.iload 4, 2) := by decide +kernel
theorem dX11_judge_118 : decode cX11_judge 118 = .ok (.invokevirtual 324, 3) := by decide +kernel
theorem dX11_judge_121 : decode cX11_judge 121 = .ok (.ifCond .ne 5, 3) := by decide +kernel
theorem dX11_judge_124 : decode cX11_judge 124 = .ok (.iconst 4, 1) := by decide +kernel
theorem dX11_judge_125 : decode cX11_judge 125 = .ok (.ireturn, 1) := by decide +kernel
theorem dX11_judge_126 : decode cX11_judge 126 = .ok (.iload_n 3, 1) := by decide +kernel
theorem dX11_judge_127 : decode cX11_judge 127 = .ok (.iconst 5, 1) := by decide +kernel
theorem dX11_judge_128 : decode cX11_judge 128 = .ok (.if_icmp .ne 68, 3) := by decide +kernel
theorem dX11_judge_131 : decode cX11_judge 131 = .ok (.aload_n 0, 1) := by decide +kernel
theorem dX11_judge_132 : decode cX11_judge 132 = .ok (.iload_n 1, 1) := by decide +kernel
theorem dX11_judge_133 : decode cX11_judge 133 = .ok (.iload_n 2, 1) := by decide +kernel
theorem dX11_judge_134 : decode cX11_judge 134 = .ok (.iload 4, 2) := by decide +kernel
theorem dX11_judge_136 : decode cX11_judge 136 = .ok (.invokevirtual 327, 3) := by decide +kernel
theorem dX11_judge_139 : decode cX11_judge 139 = .ok (.ifCond .ne 5, 3) := by decide +kernel
theorem dX11_judge_142 : decode cX11_judge 142 = .ok (.iconst 4, 1) := by decide +kernel
theorem dX11_judge_143 : decode cX11_judge 143 = .ok (.ireturn, 1) := by decide +kernel
theorem dX11_judge_144 : decode cX11_judge 144 = .ok (.aload_n 0, 1) := by decide +kernel
theorem dX11_judge_145 : decode cX11_judge 145 = .ok (.getfield 69, 3) := by decide +kernel
theorem dX11_judge_148 : decode cX11_judge 148 = .ok (.getfield 171, 3) := by decide +kernel
theorem dX11_judge_151 : decode cX11_judge 151 = .ok (.iload 4, 2) := by decide +kernel
theorem dX11_judge_153 : decode cX11_judge 153 = .ok (.aaload, 1) := by decide +kernel
theorem dX11_judge_154 : decode cX11_judge 154 = .ok (.astore 6, 2) := by decide +kernel
theorem dX11_judge_156 : decode cX11_judge 156 = .ok (.aload_n 0, 1) := by decide +kernel
theorem dX11_judge_157 : decode cX11_judge 157 = .ok (.getfield 52, 3) := by decide +kernel
theorem dX11_judge_160 : decode cX11_judge 160 = .ok (.aload 5, 2) := by decide +kernel
theorem dX11_judge_162 : decode cX11_judge 162 = .ok (.getfield 311, 3) := by decide +kernel
theorem dX11_judge_165 : decode cX11_judge 165 = .ok (.aload 5, 2) := by decide +kernel
theorem dX11_judge_167 : decode cX11_judge 167 = .ok (.getfield 311, 3) := by decide +kernel
theorem dX11_judge_170 : decode cX11_judge 170 = .ok (.aload 5, 2) := by decide +kernel
theorem dX11_judge_172 : decode cX11_judge 172 = .ok (.getfield 331, 3) := by decide +kernel
theorem dX11_judge_175 : decode cX11_judge 175 = .ok (.invokevirtual 334, 3) := by decide +kernel
theorem dX11_judge_178 : decode cX11_judge 178 = .ok (.aload 6, 2) := by decide +kernel
theorem dX11_judge_180 : decode cX11_judge 180 = .ok (.getfield 311, 3) := by decide +kernel
theorem dX11_judge_183 : decode cX11_judge 183 = .ok (.aload 6, 2) := by decide +kernel
theorem dX11_judge_185 : decode cX11_judge 185 = .ok (.getfield 331, 3) := by decide +kernel
theorem dX11_judge_188 : decode cX11_judge 188 = .ok (.invokevirtual 136, 3) := by decide +kernel
theorem dX11_judge_191 : decode cX11_judge 191 = .ok (.ifCond .eq 5, 3) := by decide +kernel
theorem dX11_judge_194 : decode cX11_judge 194 = .ok (.iconst 5, 1) := by decide +kernel
theorem dX11_judge_195 : decode cX11_judge 195 = .ok (.ireturn, 1) := by decide +kernel
theorem dX11_judge_196 : decode cX11_judge 196 = .ok (.aload_n 0, 1) := by decide +kernel
theorem dX11_judge_197 : decode cX11_judge 197 = .ok (.iload_n 2, 1) := by decide +kernel
theorem dX11_judge_198 : decode cX11_judge 198 = .ok (.iload_n 3, 1) := by decide +kernel
theorem dX11_judge_199 : decode cX11_judge 199 = .ok (.invokevirtual 337, 3) := by decide +kernel
theorem dX11_judge_202 : decode cX11_judge 202 = .ok (.ifCond .eq 8, 3) := by decide +kernel
theorem dX11_judge_205 : decode cX11_judge 205 = .ok (.bipush (-4), 2) := by decide +kernel
theorem dX11_judge_207 : decode cX11_judge 207 = .ok (.goto 4, 3) := by decide +kernel
theorem dX11_judge_210 : decode cX11_judge 210 = .ok (.iconst 0, 1) := by decide +kernel
theorem dX11_judge_211 : decode cX11_judge 211 = .ok (.ireturn, 1) := by decide +kernel
theorem dX11_kindFor_0 : decode cX11_kindFor 0 = .ok (.iload_n 0, 1) := by decide +kernel
theorem dX11_kindFor_1 : decode cX11_kindFor 1 = .ok (.iconst 4, 1) := by decide +kernel
theorem dX11_kindFor_2 : decode cX11_kindFor 2 = .ok (.if_icmp .le 9, 3) := by decide +kernel
theorem dX11_kindFor_5 : decode cX11_kindFor 5 = .ok (.iload_n 0, 1) := by decide +kernel
theorem dX11_kindFor_6 : decode cX11_kindFor 6 = .ok (.iconst 4, 1) := by decide +kernel
theorem dX11_kindFor_7 : decode cX11_kindFor 7 = .ok (.isub, 1) := by decide +kernel
theorem dX11_kindFor_8 : decode cX11_kindFor 8 = .ok (.goto 4, 3) := by decide +kernel
theorem dX11_kindFor_11 : decode cX11_kindFor 11 = .ok (.iload_n 0, 1) := by decide +kernel
theorem dX11_kindFor_12 : decode cX11_kindFor 12 = .ok (.ireturn, 1) := by decide +kernel
theorem dX11_mayBeGiven_0 : decode cX11_mayBeGiven 0 = .ok (.iload_n 3, 1) := by decide +kernel
theorem dX11_mayBeGiven_1 : decode cX11_mayBeGiven 1 = .ok (.iload_n 2, 1) := by decide +kernel
theorem dX11_mayBeGiven_2 : decode cX11_mayBeGiven 2 = .ok (.if_icmp .eq 19, 3) := by decide +kernel
theorem dX11_mayBeGiven_5 : decode cX11_mayBeGiven 5 = .ok (.iload_n 3, 1) := by decide +kernel
theorem dX11_mayBeGiven_6 : decode cX11_mayBeGiven 6 = .ok (.ifCond .lt 15, 3) := by decide +kernel
theorem dX11_mayBeGiven_9 : decode cX11_mayBeGiven 9 = .ok (.iload_n 3, 1) := by decide +kernel
theorem dX11_mayBeGiven_10 : decode cX11_mayBeGiven 10 = .ok (.aload_n 0, 1) := by decide +kernel
theorem dX11_mayBeGiven_11 : decode cX11_mayBeGiven 11 = .ok (.getfield 69, 3) := by decide +kernel
theorem dX11_mayBeGiven_14 : decode cX11_mayBeGiven 14 = .ok (.getfield 171, 3) := by decide +kernel
theorem dX11_mayBeGiven_17 : decode cX11_mayBeGiven 17 = .ok (.arraylength, 1) := by decide +kernel
theorem dX11_mayBeGiven_18 : decode cX11_mayBeGiven 18 = .ok (.if_icmp .lt 5, 3) := by decide +kernel
theorem dX11_mayBeGiven_21 : decode cX11_mayBeGiven 21 = .ok (.iconst 0, 1) := by decide +kernel
theorem dX11_mayBeGiven_22 : decode cX11_mayBeGiven 22 = .ok (.ireturn, 1) := by decide +kernel
theorem dX11_mayBeGiven_23 : decode cX11_mayBeGiven 23 = .ok (.aload_n 0, 1) := by decide +kernel
theorem dX11_mayBeGiven_24 : decode cX11_mayBeGiven 24 = .ok (.getfield 69, 3) := by decide +kernel
theorem dX11_mayBeGiven_27 : decode cX11_mayBeGiven 27 = .ok (.getfield 171, 3) := by decide +kernel
theorem dX11_mayBeGiven_30 : decode cX11_mayBeGiven 30 = .ok (.iload_n 3, 1) := by decide +kernel
theorem dX11_mayBeGiven_31 : decode cX11_mayBeGiven 31 = .ok (.aaload, 1) := by decide +kernel
theorem dX11_mayBeGiven_32 : decode cX11_mayBeGiven 32 = .ok (.astore 4, 2) := by decide +kernel
theorem dX11_mayBeGiven_34 : decode cX11_mayBeGiven 34 = .ok (.aload 4, 2) := by decide +kernel
theorem dX11_mayBeGiven_36 : decode cX11_mayBeGiven 36 = .ok (.getfield 191, 3) := by decide +kernel
theorem dX11_mayBeGiven_39 : decode cX11_mayBeGiven 39 = .ok (.iload_n 1, 1) := by decide +kernel
theorem dX11_mayBeGiven_40 : decode cX11_mayBeGiven 40 = .ok (.if_icmp .ne 23, 3) := by decide +kernel
theorem dX11_mayBeGiven_43 : decode cX11_mayBeGiven 43 = .ok (.aload 4, 2) := by decide +kernel
theorem dX11_mayBeGiven_45 : decode cX11_mayBeGiven 45 = .ok (.getfield 204, 3) := by decide +kernel
theorem dX11_mayBeGiven_48 : decode cX11_mayBeGiven 48 = .ok (.ifCond .ne 15, 3) := by decide +kernel
theorem dX11_mayBeGiven_51 : decode cX11_mayBeGiven 51 = .ok (.aload 4, 2) := by decide +kernel
theorem dX11_mayBeGiven_53 : decode cX11_mayBeGiven 53 = .ok (.getfield 311, 3) := by decide +kernel
theorem dX11_mayBeGiven_56 : decode cX11_mayBeGiven 56 = .ok (.ifnull 7, 3) := by decide +kernel
theorem dX11_mayBeGiven_59 : decode cX11_mayBeGiven 59 = .ok (.iconst 1, 1) := by decide +kernel
theorem dX11_mayBeGiven_60 : decode cX11_mayBeGiven 60 = .ok (.goto 4, 3) := by decide +kernel
theorem dX11_mayBeGiven_63 : decode cX11_mayBeGiven 63 = .ok (.iconst 0, 1) := by decide +kernel
theorem dX11_mayBeGiven_64 : decode cX11_mayBeGiven 64 = .ok (.ireturn, 1) := by decide +kernel
set_option maxRecDepth 20000 in
theorem ggX11_waitsFor_X11_kindFor : GoodIn wsX11_waitsFor wsX11_kindFor := goodIn_r _ [8] (by decide +kernel) (by decide +kernel)
set_option maxRecDepth 20000 in
theorem gX11_waitsFor_X11_kindFor : GoodIn wsX11_waitsFor (va_wsS RX11 314 yX11_kindFor wsX11_kindFor) := goodIn_app (goodIn_of _ (by decide +kernel)) ggX11_waitsFor_X11_kindFor
theorem dX11_waitsFor_0 : decode cX11_waitsFor 0 = .ok (.iload_n 1, 1) := by decide +kernel
theorem dX11_waitsFor_1 : decode cX11_waitsFor 1 = .ok (.iconst 1, 1) := by decide +kernel
theorem dX11_waitsFor_2 : decode cX11_waitsFor 2 = .ok (.ixor, 1) := by decide +kernel
theorem dX11_waitsFor_3 : decode cX11_waitsFor 3 = .ok (.istore_n 3, 1) := by decide +kernel
theorem dX11_waitsFor_4 : decode cX11_waitsFor 4 = .ok (.iload_n 1, 1) := by decide +kernel
theorem dX11_waitsFor_5 : decode cX11_waitsFor 5 = .ok (.ifCond .lt 31, 3) := by decide +kernel
theorem dX11_waitsFor_8 : decode cX11_waitsFor 8 = .ok (.iload_n 1, 1) := by decide +kernel
theorem dX11_waitsFor_9 : decode cX11_waitsFor 9 = .ok (.aload_n 0, 1) := by decide +kernel
theorem dX11_waitsFor_10 : decode cX11_waitsFor 10 = .ok (.getfield 69, 3) := by decide +kernel
theorem dX11_waitsFor_13 : decode cX11_waitsFor 13 = .ok (.getfield 171, 3) := by decide +kernel
theorem dX11_waitsFor_16 : decode cX11_waitsFor 16 = .ok (.arraylength, 1) := by decide +kernel
theorem dX11_waitsFor_17 : decode cX11_waitsFor 17 = .ok (.if_icmp .ge 19, 3) := by decide +kernel
theorem dX11_waitsFor_20 : decode cX11_waitsFor 20 = .ok (.iload_n 3, 1) := by decide +kernel
theorem dX11_waitsFor_21 : decode cX11_waitsFor 21 = .ok (.ifCond .lt 15, 3) := by decide +kernel
theorem dX11_waitsFor_24 : decode cX11_waitsFor 24 = .ok (.iload_n 3, 1) := by decide +kernel
theorem dX11_waitsFor_25 : decode cX11_waitsFor 25 = .ok (.aload_n 0, 1) := by decide +kernel
theorem dX11_waitsFor_26 : decode cX11_waitsFor 26 = .ok (.getfield 69, 3) := by decide +kernel
theorem dX11_waitsFor_29 : decode cX11_waitsFor 29 = .ok (.getfield 171, 3) := by decide +kernel
theorem dX11_waitsFor_32 : decode cX11_waitsFor 32 = .ok (.arraylength, 1) := by decide +kernel
theorem dX11_waitsFor_33 : decode cX11_waitsFor 33 = .ok (.if_icmp .lt 5, 3) := by decide +kernel
theorem dX11_waitsFor_36 : decode cX11_waitsFor 36 = .ok (.iconst 0, 1) := by decide +kernel
theorem dX11_waitsFor_37 : decode cX11_waitsFor 37 = .ok (.ireturn, 1) := by decide +kernel
theorem dX11_waitsFor_38 : decode cX11_waitsFor 38 = .ok (.iload_n 2, 1) := by decide +kernel
theorem dX11_waitsFor_39 : decode cX11_waitsFor 39 = .ok (.invokestatic 314, 3) := by decide +kernel
theorem dX11_waitsFor_42 : decode cX11_waitsFor 42 = .ok (.tableswitch 79 1 4 #[30, 58, 30, 58], 30) := by decide +kernel
theorem dX11_waitsFor_72 : decode cX11_waitsFor 72 = .ok (.aload_n 0, 1) := by decide +kernel
theorem dX11_waitsFor_73 : decode cX11_waitsFor 73 = .ok (.getfield 69, 3) := by decide +kernel
theorem dX11_waitsFor_76 : decode cX11_waitsFor 76 = .ok (.getfield 171, 3) := by decide +kernel
theorem dX11_waitsFor_79 : decode cX11_waitsFor 79 = .ok (.iload_n 3, 1) := by decide +kernel
theorem dX11_waitsFor_80 : decode cX11_waitsFor 80 = .ok (.aaload, 1) := by decide +kernel
theorem dX11_waitsFor_81 : decode cX11_waitsFor 81 = .ok (.getfield 200, 3) := by decide +kernel
theorem dX11_waitsFor_84 : decode cX11_waitsFor 84 = .ok (.aload_n 0, 1) := by decide +kernel
theorem dX11_waitsFor_85 : decode cX11_waitsFor 85 = .ok (.getfield 69, 3) := by decide +kernel
theorem dX11_waitsFor_88 : decode cX11_waitsFor 88 = .ok (.getfield 181, 3) := by decide +kernel
theorem dX11_waitsFor_91 : decode cX11_waitsFor 91 = .ok (.if_icmp .lt 7, 3) := by decide +kernel
theorem dX11_waitsFor_94 : decode cX11_waitsFor 94 = .ok (.iconst 1, 1) := by decide +kernel
theorem dX11_waitsFor_95 : decode cX11_waitsFor 95 = .ok (.goto 4, 3) := by decide +kernel
theorem dX11_waitsFor_98 : decode cX11_waitsFor 98 = .ok (.iconst 0, 1) := by decide +kernel
theorem dX11_waitsFor_99 : decode cX11_waitsFor 99 = .ok (.ireturn, 1) := by decide +kernel
theorem dX11_waitsFor_100 : decode cX11_waitsFor 100 = .ok (.aload_n 0, 1) := by decide +kernel
theorem dX11_waitsFor_101 : decode cX11_waitsFor 101 = .ok (.getfield 69, 3) := by decide +kernel
theorem dX11_waitsFor_104 : decode cX11_waitsFor 104 = .ok (.getfield 171, 3) := by decide +kernel
theorem dX11_waitsFor_107 : decode cX11_waitsFor 107 = .ok (.iload_n 1, 1) := by decide +kernel
theorem dX11_waitsFor_108 : decode cX11_waitsFor 108 = .ok (.aaload, 1) := by decide +kernel
theorem dX11_waitsFor_109 : decode cX11_waitsFor 109 = .ok (.getfield 200, 3) := by decide +kernel
theorem dX11_waitsFor_112 : decode cX11_waitsFor 112 = .ok (.ifCond .ne 7, 3) := by decide +kernel
theorem dX11_waitsFor_115 : decode cX11_waitsFor 115 = .ok (.iconst 1, 1) := by decide +kernel
theorem dX11_waitsFor_116 : decode cX11_waitsFor 116 = .ok (.goto 4, 3) := by decide +kernel
theorem dX11_waitsFor_119 : decode cX11_waitsFor 119 = .ok (.iconst 0, 1) := by decide +kernel
theorem dX11_waitsFor_120 : decode cX11_waitsFor 120 = .ok (.ireturn, 1) := by decide +kernel
theorem dX11_waitsFor_121 : decode cX11_waitsFor 121 = .ok (.iconst 0, 1) := by decide +kernel
theorem dX11_waitsFor_122 : decode cX11_waitsFor 122 = .ok (.ireturn, 1) := by decide +kernel
set_option maxRecDepth 20000 in
theorem ggX11_accuse_X0_begin : GoodIn wsX11_accuse wsX0_begin := goodIn_r _ [13, 14, 15, 16, 17, 18, 88, 89, 90, 91, 92, 93] (by decide +kernel) (by decide +kernel)
set_option maxRecDepth 20000 in
theorem gX11_accuse_X0_begin : GoodIn wsX11_accuse (wsV RX11 341 RX0 yX0_begin wsX0_begin) := goodIn_app (goodIn_of _ (by decide +kernel)) ggX11_accuse_X0_begin
set_option maxRecDepth 20000 in
theorem ggX11_accuse_X0_add : GoodIn wsX11_accuse wsX0_add := goodIn_r _ [22, 18, 23, 88, 89, 90, 91, 92, 93] (by decide +kernel) (by decide +kernel)
set_option maxRecDepth 20000 in
theorem gX11_accuse_X0_add : GoodIn wsX11_accuse (wsV RX11 345 RX0 yX0_add wsX0_add) := goodIn_app (goodIn_of _ (by decide +kernel)) ggX11_accuse_X0_add
set_option maxRecDepth 20000 in
theorem ggX11_accuse_X2_kind : GoodIn wsX11_accuse wsX2_kind := goodIn_r _ [28, 29, 30, 31, 32, 33, 34, 35, 36, 72, 73, 74, 75, 76, 77, 78, 79, 94, 95, 96, 97, 98, 99, 100, 101, 102] (by decide +kernel) (by decide +kernel)
set_option maxRecDepth 20000 in
theorem gX11_accuse_X2_kind : GoodIn wsX11_accuse (wsV RX11 194 RX2 yX2_kind wsX2_kind) := goodIn_app (goodIn_of _ (by decide +kernel)) ggX11_accuse_X2_kind
set_option maxRecDepth 20000 in
theorem ggX11_accuse_X11_kindFor : GoodIn wsX11_accuse wsX11_kindFor := goodIn_r _ [40] (by decide +kernel) (by decide +kernel)
set_option maxRecDepth 20000 in
theorem gX11_accuse_X11_kindFor : GoodIn wsX11_accuse (va_wsS RX11 314 yX11_kindFor wsX11_kindFor) := goodIn_app (goodIn_of _ (by decide +kernel)) ggX11_accuse_X11_kindFor
set_option maxRecDepth 20000 in
theorem ggX11_accuse_X3_last : GoodIn wsX11_accuse wsX3_last := goodIn_r _ [45, 46, 47, 80, 81, 82, 83, 84, 85, 86, 87] (by decide +kernel) (by decide +kernel)
set_option maxRecDepth 20000 in
theorem gX11_accuse_X3_last : GoodIn wsX11_accuse (wsV RX11 352 RX3 yX3_last wsX3_last) := goodIn_app (goodIn_of _ (by decide +kernel)) ggX11_accuse_X3_last
theorem dX11_accuse_0 : decode cX11_accuse 0 = .ok (.iload_n 2, 1) := by decide +kernel
theorem dX11_accuse_1 : decode cX11_accuse 1 = .ok (.ifCond .lt 15, 3) := by decide +kernel
theorem dX11_accuse_4 : decode cX11_accuse 4 = .ok (.iload_n 2, 1) := by decide +kernel
theorem dX11_accuse_5 : decode cX11_accuse 5 = .ok (.aload_n 0, 1) := by decide +kernel
theorem dX11_accuse_6 : decode cX11_accuse 6 = .ok (.getfield 69, 3) := by decide +kernel
theorem dX11_accuse_9 : decode cX11_accuse 9 = .ok (.getfield 171, 3) := by decide +kernel
theorem dX11_accuse_12 : decode cX11_accuse 12 = .ok (.arraylength, 1) := by decide +kernel
theorem dX11_accuse_13 : decode cX11_accuse 13 = .ok (.if_icmp .lt 4, 3) := by decide +kernel
theorem dX11_accuse_16 : decode cX11_accuse 16 = .ok (.return_, 1) := by decide +kernel
theorem dX11_accuse_17 : decode cX11_accuse 17 = .ok (.aload_n 0, 1) := by decide +kernel
theorem dX11_accuse_18 : decode cX11_accuse 18 = .ok (.getfield 69, 3) := by decide +kernel
theorem dX11_accuse_21 : decode cX11_accuse 21 = .ok (.getfield 171, 3) := by decide +kernel
theorem dX11_accuse_24 : decode cX11_accuse 24 = .ok (.iload_n 2, 1) := by decide +kernel
theorem dX11_accuse_25 : decode cX11_accuse 25 = .ok (.aaload, 1) := by decide +kernel
theorem dX11_accuse_26 : decode cX11_accuse 26 = .ok (.astore 6, 2) := by decide +kernel
theorem dX11_accuse_28 : decode cX11_accuse 28 = .ok (.aload_n 0, 1) := by decide +kernel
theorem dX11_accuse_29 : decode cX11_accuse 29 = .ok (.getfield 69, 3) := by decide +kernel
theorem dX11_accuse_32 : decode cX11_accuse 32 = .ok (.getfield 208, 3) := by decide +kernel
theorem dX11_accuse_35 : decode cX11_accuse 35 = .ok (.astore 7, 2) := by decide +kernel
theorem dX11_accuse_37 : decode cX11_accuse 37 = .ok (.aload 7, 2) := by decide +kernel
theorem dX11_accuse_39 : decode cX11_accuse 39 = .ok (.iload_n 1, 1) := by decide +kernel
theorem dX11_accuse_40 : decode cX11_accuse 40 = .ok (.aload_n 0, 1) := by decide +kernel
theorem dX11_accuse_41 : decode cX11_accuse 41 = .ok (.getfield 69, 3) := by decide +kernel
theorem dX11_accuse_44 : decode cX11_accuse 44 = .ok (.getfield 265, 3) := by decide +kernel
theorem dX11_accuse_47 : decode cX11_accuse 47 = .ok (.iload 5, 2) := by decide +kernel
theorem dX11_accuse_49 : decode cX11_accuse 49 = .ok (.iload_n 2, 1) := by decide +kernel
theorem dX11_accuse_50 : decode cX11_accuse 50 = .ok (.invokevirtual 341, 3) := by decide +kernel
theorem dX11_accuse_53 : decode cX11_accuse 53 = .ok (.iload 5, 2) := by decide +kernel
theorem dX11_accuse_55 : decode cX11_accuse 55 = .ok (.tableswitch 87 1 4 #[29, 42, 55, 77], 29) := by decide +kernel
theorem dX11_accuse_84 : decode cX11_accuse 84 = .ok (.aload 7, 2) := by decide +kernel
theorem dX11_accuse_86 : decode cX11_accuse 86 = .ok (.aload 6, 2) := by decide +kernel
theorem dX11_accuse_88 : decode cX11_accuse 88 = .ok (.getfield 191, 3) := by decide +kernel
theorem dX11_accuse_91 : decode cX11_accuse 91 = .ok (.invokevirtual 345, 3) := by decide +kernel
theorem dX11_accuse_94 : decode cX11_accuse 94 = .ok (.goto 79, 3) := by decide +kernel
theorem dX11_accuse_97 : decode cX11_accuse 97 = .ok (.aload 7, 2) := by decide +kernel
theorem dX11_accuse_99 : decode cX11_accuse 99 = .ok (.aload 6, 2) := by decide +kernel
theorem dX11_accuse_101 : decode cX11_accuse 101 = .ok (.getfield 349, 3) := by decide +kernel
theorem dX11_accuse_104 : decode cX11_accuse 104 = .ok (.invokevirtual 345, 3) := by decide +kernel
theorem dX11_accuse_107 : decode cX11_accuse 107 = .ok (.goto 66, 3) := by decide +kernel
theorem dX11_accuse_110 : decode cX11_accuse 110 = .ok (.aload 7, 2) := by decide +kernel
theorem dX11_accuse_112 : decode cX11_accuse 112 = .ok (.aload 6, 2) := by decide +kernel
theorem dX11_accuse_114 : decode cX11_accuse 114 = .ok (.invokevirtual 194, 3) := by decide +kernel
theorem dX11_accuse_117 : decode cX11_accuse 117 = .ok (.invokevirtual 345, 3) := by decide +kernel
theorem dX11_accuse_120 : decode cX11_accuse 120 = .ok (.aload 7, 2) := by decide +kernel
theorem dX11_accuse_122 : decode cX11_accuse 122 = .ok (.iload_n 3, 1) := by decide +kernel
theorem dX11_accuse_123 : decode cX11_accuse 123 = .ok (.invokestatic 314, 3) := by decide +kernel
theorem dX11_accuse_126 : decode cX11_accuse 126 = .ok (.invokevirtual 345, 3) := by decide +kernel
theorem dX11_accuse_129 : decode cX11_accuse 129 = .ok (.goto 44, 3) := by decide +kernel
theorem dX11_accuse_132 : decode cX11_accuse 132 = .ok (.aload 7, 2) := by decide +kernel
theorem dX11_accuse_134 : decode cX11_accuse 134 = .ok (.iload 4, 2) := by decide +kernel
theorem dX11_accuse_136 : decode cX11_accuse 136 = .ok (.invokevirtual 345, 3) := by decide +kernel
theorem dX11_accuse_139 : decode cX11_accuse 139 = .ok (.goto 34, 3) := by decide +kernel
theorem dX11_accuse_142 : decode cX11_accuse 142 = .ok (.aload 7, 2) := by decide +kernel
theorem dX11_accuse_144 : decode cX11_accuse 144 = .ok (.iload 4, 2) := by decide +kernel
theorem dX11_accuse_146 : decode cX11_accuse 146 = .ok (.invokevirtual 345, 3) := by decide +kernel
theorem dX11_accuse_149 : decode cX11_accuse 149 = .ok (.aload 7, 2) := by decide +kernel
theorem dX11_accuse_151 : decode cX11_accuse 151 = .ok (.aload_n 0, 1) := by decide +kernel
theorem dX11_accuse_152 : decode cX11_accuse 152 = .ok (.getfield 52, 3) := by decide +kernel
theorem dX11_accuse_155 : decode cX11_accuse 155 = .ok (.invokevirtual 352, 3) := by decide +kernel
theorem dX11_accuse_158 : decode cX11_accuse 158 = .ok (.invokevirtual 345, 3) := by decide +kernel
theorem dX11_accuse_161 : decode cX11_accuse 161 = .ok (.aload 7, 2) := by decide +kernel
theorem dX11_accuse_163 : decode cX11_accuse 163 = .ok (.aload_n 0, 1) := by decide +kernel
theorem dX11_accuse_164 : decode cX11_accuse 164 = .ok (.getfield 52, 3) := by decide +kernel
theorem dX11_accuse_167 : decode cX11_accuse 167 = .ok (.getfield 355, 3) := by decide +kernel
theorem dX11_accuse_170 : decode cX11_accuse 170 = .ok (.invokevirtual 345, 3) := by decide +kernel
theorem dX11_accuse_173 : decode cX11_accuse 173 = .ok (.return_, 1) := by decide +kernel
set_option maxRecDepth 20000 in
theorem ggX11_perform_X2_kind : GoodIn wsX11_perform wsX2_kind := goodIn_r _ [13, 14, 15, 16, 17, 18, 19, 20, 21, 100, 101, 102, 103, 104, 105, 106, 107, 108, 109, 110, 111, 112, 113, 114, 115, 116] (by decide +kernel) (by decide +kernel)
set_option maxRecDepth 20000 in
theorem gX11_perform_X2_kind : GoodIn wsX11_perform (wsV RX11 194 RX2 yX2_kind wsX2_kind) := goodIn_app (goodIn_of _ (by decide +kernel)) ggX11_perform_X2_kind
set_option maxRecDepth 20000 in
theorem ggX11_perform_X2_draw : GoodIn wsX11_perform wsX2_draw := goodIn_r _ [25, 26, 27, 100, 101, 102, 103, 104, 105, 106, 107] (by decide +kernel) (by decide +kernel)
set_option maxRecDepth 20000 in
theorem gX11_perform_X2_draw : GoodIn wsX11_perform (wsV RX11 356 RX2 yX2_draw wsX2_draw) := goodIn_app (goodIn_of _ (by decide +kernel)) ggX11_perform_X2_draw
set_option maxRecDepth 20000 in
theorem ggX11_perform_X2_put : GoodIn wsX11_perform wsX2_put := goodIn_r _ [31, 26, 27, 32, 33, 34, 35, 36, 100, 101, 102, 103, 104, 105, 106, 107] (by decide +kernel) (by decide +kernel)
set_option maxRecDepth 20000 in
theorem gX11_perform_X2_put : GoodIn wsX11_perform (wsV RX11 359 RX2 yX2_put wsX2_put) := goodIn_app (goodIn_of _ (by decide +kernel)) ggX11_perform_X2_put
set_option maxRecDepth 20000 in
theorem ggX11_perform_X11_handOver : GoodIn wsX11_perform wsX11_handOver := goodIn_r _ [41, 1, 2, 3, 42, 8, 43, 44, 45, 46, 19, 47, 48, 49, 76, 77, 78, 79, 80, 81, 82, 83, 84, 85, 86, 87, 88, 89, 90, 91, 92, 93, 94, 95, 96, 97, 98, 99, 100, 101, 102, 103, 104, 105, 106, 107, 108, 109, 110, 111, 112, 113, 114, 115, 116] (by decide +kernel) (by decide +kernel)
set_option maxRecDepth 20000 in
theorem gX11_perform_X11_handOver : GoodIn wsX11_perform (wsV RX11 362 RX11 yX11_handOver wsX11_handOver) := goodIn_app (goodIn_of _ (by decide +kernel)) ggX11_perform_X11_handOver
set_option maxRecDepth 20000 in
theorem ggX11_perform_X11_receive : GoodIn wsX11_perform wsX11_receive := goodIn_r _ [53, 1, 2, 42, 76, 77, 78, 79, 80, 81, 82, 83, 84, 85, 86, 87, 88, 89, 90, 91, 92, 93, 94, 95, 96, 97, 98, 99, 100, 101, 102, 103, 104, 105, 106, 107] (by decide +kernel) (by decide +kernel)
set_option maxRecDepth 20000 in
theorem gX11_perform_X11_receive : GoodIn wsX11_perform (wsV RX11 366 RX11 yX11_receive wsX11_receive) := goodIn_app (goodIn_of _ (by decide +kernel)) ggX11_perform_X11_receive
set_option maxRecDepth 20000 in
theorem ggX11_perform_X7_behind : GoodIn wsX11_perform wsX7_behind := goodIn_r _ [57, 58, 17, 18, 19, 20, 21, 59, 60, 61, 62, 63, 49, 64, 65, 66, 67, 68, 69, 70, 71, 72, 73, 74, 75, 108, 109, 110, 111, 112, 113, 114, 115, 116] (by decide +kernel) (by decide +kernel)
set_option maxRecDepth 20000 in
theorem gX11_perform_X7_behind : GoodIn wsX11_perform (wsV RX11 370 RX7 yX7_behind wsX7_behind) := goodIn_app (goodIn_of _ (by decide +kernel)) ggX11_perform_X7_behind
theorem dX11_perform_0 : decode cX11_perform 0 = .ok (.iload_n 2, 1) := by decide +kernel
theorem dX11_perform_1 : decode cX11_perform 1 = .ok (.iconst 1, 1) := by decide +kernel
theorem dX11_perform_2 : decode cX11_perform 2 = .ok (.ixor, 1) := by decide +kernel
theorem dX11_perform_3 : decode cX11_perform 3 = .ok (.istore 5, 2) := by decide +kernel
theorem dX11_perform_5 : decode cX11_perform 5 = .ok (.iload_n 2, 1) := by decide +kernel
theorem dX11_perform_6 : decode cX11_perform 6 = .ok (.ifCond .lt 33, 3) := by decide +kernel
theorem dX11_perform_9 : decode cX11_perform 9 = .ok (.iload_n 2, 1) := by decide +kernel
theorem dX11_perform_10 : decode cX11_perform 10 = .ok (.aload_n 0, 1) := by decide +kernel
theorem dX11_perform_11 : decode cX11_perform 11 = .ok (.getfield 69, 3) := by decide +kernel
theorem dX11_perform_14 : decode cX11_perform 14 = .ok (.getfield 171, 3) := by decide +kernel
theorem dX11_perform_17 : decode cX11_perform 17 = .ok (.arraylength, 1) := by decide +kernel
theorem dX11_perform_18 : decode cX11_perform 18 = .ok (.if_icmp .ge 21, 3) := by decide +kernel
theorem dX11_perform_21 : decode cX11_perform 21 = .ok (.iload 5, 2) := by decide +kernel
theorem dX11_perform_23 : decode cX11_perform 23 = .ok (.ifCond .lt 16, 3) := by decide +kernel
theorem dX11_perform_26 : decode cX11_perform 26 = .ok (.iload 5, 2) := by decide +kernel
theorem dX11_perform_28 : decode cX11_perform 28 = .ok (.aload_n 0, 1) := by decide +kernel
theorem dX11_perform_29 : decode cX11_perform 29 = .ok (.getfield 69, 3) := by decide +kernel
theorem dX11_perform_32 : decode cX11_perform 32 = .ok (.getfield 171, 3) := by decide +kernel
theorem dX11_perform_35 : decode cX11_perform 35 = .ok (.arraylength, 1) := by decide +kernel
theorem dX11_perform_36 : decode cX11_perform 36 = .ok (.if_icmp .lt 5, 3) := by decide +kernel
theorem dX11_perform_39 : decode cX11_perform 39 = .ok (.iconst (-1), 1) := by decide +kernel
theorem dX11_perform_40 : decode cX11_perform 40 = .ok (.ireturn, 1) := by decide +kernel
theorem dX11_perform_41 : decode cX11_perform 41 = .ok (.aload_n 0, 1) := by decide +kernel
theorem dX11_perform_42 : decode cX11_perform 42 = .ok (.getfield 69, 3) := by decide +kernel
theorem dX11_perform_45 : decode cX11_perform 45 = .ok (.getfield 171, 3) := by decide +kernel
theorem dX11_perform_48 : decode cX11_perform 48 = .ok (.iload_n 2, 1) := by decide +kernel
theorem dX11_perform_49 : decode cX11_perform 49 = .ok (.aaload, 1) := by decide +kernel
theorem dX11_perform_50 : decode cX11_perform 50 = .ok (.astore 6, 2) := by decide +kernel
theorem dX11_perform_52 : decode cX11_perform 52 = .ok (.aload 6, 2) := by decide +kernel
theorem dX11_perform_54 : decode cX11_perform 54 = .ok (.getfield 311, 3) := by decide +kernel
theorem dX11_perform_57 : decode cX11_perform 57 = .ok (.ifnonnull 5, 3) := by decide +kernel
theorem dX11_perform_60 : decode cX11_perform 60 = .ok (.iconst (-1), 1) := by decide +kernel
theorem dX11_perform_61 : decode cX11_perform 61 = .ok (.ireturn, 1) := by decide +kernel
theorem dX11_perform_62 : decode cX11_perform 62 = .ok (.iload_n 3, 1) := by decide +kernel
theorem dX11_perform_63 : decode cX11_perform 63 = .ok (.ifCond .ne 36, 3) := by decide +kernel
theorem dX11_perform_66 : decode cX11_perform 66 = .ok (.aload 6, 2) := by decide +kernel
theorem dX11_perform_68 : decode cX11_perform 68 = .ok (.iconst 1, 1) := by decide +kernel
theorem dX11_perform_69 : decode cX11_perform 69 = .ok (.putfield 204, 3) := by decide +kernel
theorem dX11_perform_72 : decode cX11_perform 72 = .ok (.aload 6, 2) := by decide +kernel
theorem dX11_perform_74 : decode cX11_perform 74 = .ok (.aload_n 0, 1) := by decide +kernel
theorem dX11_perform_75 : decode cX11_perform 75 = .ok (.getfield 69, 3) := by decide +kernel
theorem dX11_perform_78 : decode cX11_perform 78 = .ok (.getfield 265, 3) := by decide +kernel
theorem dX11_perform_81 : decode cX11_perform 81 = .ok (.putfield 349, 3) := by decide +kernel
theorem dX11_perform_84 : decode cX11_perform 84 = .ok (.aload_n 0, 1) := by decide +kernel
theorem dX11_perform_85 : decode cX11_perform 85 = .ok (.getfield 69, 3) := by decide +kernel
theorem dX11_perform_88 : decode cX11_perform 88 = .ok (.dup, 1) := by decide +kernel
theorem dX11_perform_89 : decode cX11_perform 89 = .ok (.getfield 280, 3) := by decide +kernel
theorem dX11_perform_92 : decode cX11_perform 92 = .ok (.iconst 1, 1) := by decide +kernel
theorem dX11_perform_93 : decode cX11_perform 93 = .ok (.iadd, 1) := by decide +kernel
theorem dX11_perform_94 : decode cX11_perform 94 = .ok (.putfield 280, 3) := by decide +kernel
theorem dX11_perform_97 : decode cX11_perform 97 = .ok (.iconst 1, 1) := by decide +kernel
theorem dX11_perform_98 : decode cX11_perform 98 = .ok (.ireturn, 1) := by decide +kernel
theorem dX11_perform_99 : decode cX11_perform 99 = .ok (.aload 6, 2) := by decide +kernel
theorem dX11_perform_101 : decode cX11_perform 101 = .ok (.invokevirtual 194, 3) := by decide +kernel
theorem dX11_perform_104 : decode cX11_perform 104 = .ok (.istore 7, 2) := by decide +kernel
theorem dX11_perform_106 : decode cX11_perform 106 = .ok (.iload 7, 2) := by decide +kernel
theorem dX11_perform_108 : decode cX11_perform 108 = .ok (.iconst 1, 1) := by decide +kernel
theorem dX11_perform_109 : decode cX11_perform 109 = .ok (.if_icmp .eq 9, 3) := by decide +kernel
theorem dX11_perform_112 : decode cX11_perform 112 = .ok (.iload 7, 2) := by decide +kernel
theorem dX11_perform_114 : decode cX11_perform 114 = .ok (.iconst 3, 1) := by decide +kernel
theorem dX11_perform_115 : decode cX11_perform 115 = .ok (.if_icmp .ne 7, 3) := by decide +kernel
theorem dX11_perform_118 : decode cX11_perform 118 = .ok (.iconst 1, 1) := by decide +kernel
theorem dX11_perform_119 : decode cX11_perform 119 = .ok (.goto 4, 3) := by decide +kernel
theorem dX11_perform_122 : decode cX11_perform 122 = .ok (.iconst 0, 1) := by decide +kernel
theorem dX11_perform_123 : decode cX11_perform 123 = .ok (.istore 8, 2) := by decide +kernel
theorem dX11_perform_125 : decode cX11_perform 125 = .ok (.iload 8, 2) := by decide +kernel
theorem dX11_perform_127 : decode cX11_perform 127 = .ok (.ifCond .eq 8, 3) := by decide +kernel
theorem dX11_perform_130 : decode cX11_perform 130 = .ok (.iload 4, 2) := by decide +kernel
theorem dX11_perform_132 : decode cX11_perform 132 = .ok (.goto 8, 3) := by decide +kernel
theorem dX11_perform_135 : decode cX11_perform 135 = .ok (.aload 6, 2) := by decide +kernel
theorem dX11_perform_137 : decode cX11_perform 137 = .ok (.invokevirtual 356, 3) := by decide +kernel
theorem dX11_perform_140 : decode cX11_perform 140 = .ok (.istore 9, 2) := by decide +kernel
theorem dX11_perform_142 : decode cX11_perform 142 = .ok (.iload 8, 2) := by decide +kernel
theorem dX11_perform_144 : decode cX11_perform 144 = .ok (.ifCond .eq 18, 3) := by decide +kernel
theorem dX11_perform_147 : decode cX11_perform 147 = .ok (.aload_n 0, 1) := by decide +kernel
theorem dX11_perform_148 : decode cX11_perform 148 = .ok (.getfield 69, 3) := by decide +kernel
theorem dX11_perform_151 : decode cX11_perform 151 = .ok (.getfield 171, 3) := by decide +kernel
theorem dX11_perform_154 : decode cX11_perform 154 = .ok (.iload 5, 2) := by decide +kernel
theorem dX11_perform_156 : decode cX11_perform 156 = .ok (.aaload, 1) := by decide +kernel
theorem dX11_perform_157 : decode cX11_perform 157 = .ok (.iload 9, 2) := by decide +kernel
theorem dX11_perform_159 : decode cX11_perform 159 = .ok (.invokevirtual 359, 3) := by decide +kernel
theorem dX11_perform_162 : decode cX11_perform 162 = .ok (.iload_n 3, 1) := by decide +kernel
theorem dX11_perform_163 : decode cX11_perform 163 = .ok (.iconst 5, 1) := by decide +kernel
theorem dX11_perform_164 : decode cX11_perform 164 = .ok (.if_icmp .ne 11, 3) := by decide +kernel
theorem dX11_perform_167 : decode cX11_perform 167 = .ok (.aload_n 0, 1) := by decide +kernel
theorem dX11_perform_168 : decode cX11_perform 168 = .ok (.aload 6, 2) := by decide +kernel
theorem dX11_perform_170 : decode cX11_perform 170 = .ok (.iload 9, 2) := by decide +kernel
theorem dX11_perform_172 : decode cX11_perform 172 = .ok (.invokevirtual 362, 3) := by decide +kernel
theorem dX11_perform_175 : decode cX11_perform 175 = .ok (.iload_n 3, 1) := by decide +kernel
theorem dX11_perform_176 : decode cX11_perform 176 = .ok (.bipush 6, 2) := by decide +kernel
theorem dX11_perform_178 : decode cX11_perform 178 = .ok (.if_icmp .ne 10, 3) := by decide +kernel
theorem dX11_perform_181 : decode cX11_perform 181 = .ok (.aload_n 0, 1) := by decide +kernel
theorem dX11_perform_182 : decode cX11_perform 182 = .ok (.iload_n 1, 1) := by decide +kernel
theorem dX11_perform_183 : decode cX11_perform 183 = .ok (.iload 9, 2) := by decide +kernel
theorem dX11_perform_185 : decode cX11_perform 185 = .ok (.invokevirtual 366, 3) := by decide +kernel
theorem dX11_perform_188 : decode cX11_perform 188 = .ok (.aload 6, 2) := by decide +kernel
theorem dX11_perform_190 : decode cX11_perform 190 = .ok (.aload 6, 2) := by decide +kernel
theorem dX11_perform_192 : decode cX11_perform 192 = .ok (.getfield 311, 3) := by decide +kernel
theorem dX11_perform_195 : decode cX11_perform 195 = .ok (.aload 6, 2) := by decide +kernel
theorem dX11_perform_197 : decode cX11_perform 197 = .ok (.getfield 331, 3) := by decide +kernel
theorem dX11_perform_200 : decode cX11_perform 200 = .ok (.iload 9, 2) := by decide +kernel
theorem dX11_perform_202 : decode cX11_perform 202 = .ok (.bipush 97, 2) := by decide +kernel
theorem dX11_perform_204 : decode cX11_perform 204 = .ok (.isub, 1) := by decide +kernel
theorem dX11_perform_205 : decode cX11_perform 205 = .ok (.invokevirtual 370, 3) := by decide +kernel
theorem dX11_perform_208 : decode cX11_perform 208 = .ok (.putfield 331, 3) := by decide +kernel
theorem dX11_perform_211 : decode cX11_perform 211 = .ok (.iload 8, 2) := by decide +kernel
theorem dX11_perform_213 : decode cX11_perform 213 = .ok (.ifCond .eq 7, 3) := by decide +kernel
theorem dX11_perform_216 : decode cX11_perform 216 = .ok (.iconst 1, 1) := by decide +kernel
theorem dX11_perform_217 : decode cX11_perform 217 = .ok (.goto 5, 3) := by decide +kernel
theorem dX11_perform_220 : decode cX11_perform 220 = .ok (.iload 9, 2) := by decide +kernel
theorem dX11_perform_222 : decode cX11_perform 222 = .ok (.ireturn, 1) := by decide +kernel
set_option maxRecDepth 20000 in
theorem ggX11_handOver_X7_innerOf : GoodIn wsX11_handOver wsX7_innerOf := goodIn_r _ [11, 12, 13, 46, 47, 48, 49, 50, 51, 52, 53, 54] (by decide +kernel) (by decide +kernel)
set_option maxRecDepth 20000 in
theorem gX11_handOver_X7_innerOf : GoodIn wsX11_handOver (wsV RX11 334 RX7 yX7_innerOf wsX7_innerOf) := goodIn_app (goodIn_of _ (by decide +kernel)) ggX11_handOver_X7_innerOf
theorem dX11_handOver_0 : decode cX11_handOver 0 = .ok (.iload_n 2, 1) := by decide +kernel
theorem dX11_handOver_1 : decode cX11_handOver 1 = .ok (.ifCond .lt 22, 3) := by decide +kernel
theorem dX11_handOver_4 : decode cX11_handOver 4 = .ok (.iload_n 2, 1) := by decide +kernel
theorem dX11_handOver_5 : decode cX11_handOver 5 = .ok (.aload_n 0, 1) := by decide +kernel
theorem dX11_handOver_6 : decode cX11_handOver 6 = .ok (.getfield 69, 3) := by decide +kernel
theorem dX11_handOver_9 : decode cX11_handOver 9 = .ok (.getfield 171, 3) := by decide +kernel
theorem dX11_handOver_12 : decode cX11_handOver 12 = .ok (.arraylength, 1) := by decide +kernel
theorem dX11_handOver_13 : decode cX11_handOver 13 = .ok (.if_icmp .ge 10, 3) := by decide +kernel
theorem dX11_handOver_16 : decode cX11_handOver 16 = .ok (.aload_n 1, 1) := by decide +kernel
theorem dX11_handOver_17 : decode cX11_handOver 17 = .ok (.getfield 311, 3) := by decide +kernel
theorem dX11_handOver_20 : decode cX11_handOver 20 = .ok (.ifnonnull 4, 3) := by decide +kernel
theorem dX11_handOver_23 : decode cX11_handOver 23 = .ok (.return_, 1) := by decide +kernel
theorem dX11_handOver_24 : decode cX11_handOver 24 = .ok (.aload_n 0, 1) := by decide +kernel
theorem dX11_handOver_25 : decode cX11_handOver 25 = .ok (.getfield 69, 3) := by decide +kernel
theorem dX11_handOver_28 : decode cX11_handOver 28 = .ok (.getfield 171, 3) := by decide +kernel
theorem dX11_handOver_31 : decode cX11_handOver 31 = .ok (.iload_n 2, 1) := by decide +kernel
theorem dX11_handOver_32 : decode cX11_handOver 32 = .ok (.aaload, 1) := by decide +kernel
theorem dX11_handOver_33 : decode cX11_handOver 33 = .ok (.astore_n 3, 1) := by decide +kernel
theorem dX11_handOver_34 : decode cX11_handOver 34 = .ok (.aload_n 3, 1) := by decide +kernel
theorem dX11_handOver_35 : decode cX11_handOver 35 = .ok (.bipush 9, 2) := by decide +kernel
theorem dX11_handOver_37 : decode cX11_handOver 37 = .ok (.putfield 191, 3) := by decide +kernel
theorem dX11_handOver_40 : decode cX11_handOver 40 = .ok (.aload_n 3, 1) := by decide +kernel
theorem dX11_handOver_41 : decode cX11_handOver 41 = .ok (.aload_n 1, 1) := by decide +kernel
theorem dX11_handOver_42 : decode cX11_handOver 42 = .ok (.getfield 311, 3) := by decide +kernel
theorem dX11_handOver_45 : decode cX11_handOver 45 = .ok (.aload_n 1, 1) := by decide +kernel
theorem dX11_handOver_46 : decode cX11_handOver 46 = .ok (.getfield 331, 3) := by decide +kernel
theorem dX11_handOver_49 : decode cX11_handOver 49 = .ok (.invokevirtual 334, 3) := by decide +kernel
theorem dX11_handOver_52 : decode cX11_handOver 52 = .ok (.putfield 331, 3) := by decide +kernel
theorem dX11_handOver_55 : decode cX11_handOver 55 = .ok (.aload_n 3, 1) := by decide +kernel
theorem dX11_handOver_56 : decode cX11_handOver 56 = .ok (.aload_n 1, 1) := by decide +kernel
theorem dX11_handOver_57 : decode cX11_handOver 57 = .ok (.getfield 311, 3) := by decide +kernel
theorem dX11_handOver_60 : decode cX11_handOver 60 = .ok (.putfield 311, 3) := by decide +kernel
theorem dX11_handOver_63 : decode cX11_handOver 63 = .ok (.aload_n 0, 1) := by decide +kernel
theorem dX11_handOver_64 : decode cX11_handOver 64 = .ok (.getfield 69, 3) := by decide +kernel
theorem dX11_handOver_67 : decode cX11_handOver 67 = .ok (.dup, 1) := by decide +kernel
theorem dX11_handOver_68 : decode cX11_handOver 68 = .ok (.getfield 277, 3) := by decide +kernel
theorem dX11_handOver_71 : decode cX11_handOver 71 = .ok (.iconst 1, 1) := by decide +kernel
theorem dX11_handOver_72 : decode cX11_handOver 72 = .ok (.iadd, 1) := by decide +kernel
theorem dX11_handOver_73 : decode cX11_handOver 73 = .ok (.putfield 277, 3) := by decide +kernel
theorem dX11_handOver_76 : decode cX11_handOver 76 = .ok (.return_, 1) := by decide +kernel
theorem dX11_receive_0 : decode cX11_receive 0 = .ok (.iload_n 2, 1) := by decide +kernel
theorem dX11_receive_1 : decode cX11_receive 1 = .ok (.ifCond .lt 15, 3) := by decide +kernel
theorem dX11_receive_4 : decode cX11_receive 4 = .ok (.iload_n 2, 1) := by decide +kernel
theorem dX11_receive_5 : decode cX11_receive 5 = .ok (.aload_n 0, 1) := by decide +kernel
theorem dX11_receive_6 : decode cX11_receive 6 = .ok (.getfield 69, 3) := by decide +kernel
theorem dX11_receive_9 : decode cX11_receive 9 = .ok (.getfield 171, 3) := by decide +kernel
theorem dX11_receive_12 : decode cX11_receive 12 = .ok (.arraylength, 1) := by decide +kernel
theorem dX11_receive_13 : decode cX11_receive 13 = .ok (.if_icmp .lt 4, 3) := by decide +kernel
theorem dX11_receive_16 : decode cX11_receive 16 = .ok (.return_, 1) := by decide +kernel
theorem dX11_receive_17 : decode cX11_receive 17 = .ok (.aload_n 0, 1) := by decide +kernel
theorem dX11_receive_18 : decode cX11_receive 18 = .ok (.getfield 69, 3) := by decide +kernel
theorem dX11_receive_21 : decode cX11_receive 21 = .ok (.getfield 171, 3) := by decide +kernel
theorem dX11_receive_24 : decode cX11_receive 24 = .ok (.iload_n 2, 1) := by decide +kernel
theorem dX11_receive_25 : decode cX11_receive 25 = .ok (.aaload, 1) := by decide +kernel
theorem dX11_receive_26 : decode cX11_receive 26 = .ok (.iload_n 1, 1) := by decide +kernel
theorem dX11_receive_27 : decode cX11_receive 27 = .ok (.putfield 191, 3) := by decide +kernel
theorem dX11_receive_30 : decode cX11_receive 30 = .ok (.return_, 1) := by decide +kernel
