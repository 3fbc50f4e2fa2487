set_option maxRecDepth 20000 in
theorem ggX11_init_X8_init : GoodIn wsX11_init wsX8_init := goodIn_r _ [39, 40, 2, 3, 41, 42, 43, 44, 6, 45, 46, 47, 48, 49, 50, 51, 52, 53, 54, 55, 56, 57, 58, 192, 193, 194, 195, 196, 197, 198, 199, 200, 144, 145, 146, 147, 148] (by decide +kernel) (by decide +kernel)
set_option maxRecDepth 20000 in
theorem gX11_init_X8_init_n21 : GoodIn wsX11_init (wsX8_init) := ggX11_init_X8_init
set_option maxRecDepth 20000 in
theorem ggX11_init_X6_init : GoodIn wsX11_init wsX6_init := goodIn_r _ [60, 61, 2, 3, 62, 63, 64, 65, 6, 66, 67, 68, 69, 70, 71, 72, 201, 202, 203, 204, 205, 149, 150, 151, 152] (by decide +kernel) (by decide +kernel)
set_option maxRecDepth 20000 in
theorem gX11_init_X6_init_n28 : GoodIn wsX11_init (wsX6_init) := ggX11_init_X6_init
set_option maxRecDepth 20000 in
theorem ggX11_init_X10_init : GoodIn wsX11_init wsX10_init := goodIn_r _ [74, 75, 2, 3, 6, 76, 153, 154] (by decide +kernel) (by decide +kernel)
set_option maxRecDepth 20000 in
theorem gX11_init_X10_init_n35 : GoodIn wsX11_init (wsX10_init) := ggX11_init_X10_init
set_option maxRecDepth 20000 in
theorem ggX11_init_X1_init : GoodIn wsX11_init wsX1_init := goodIn_r _ [78, 79, 2, 3, 80, 81, 6, 82, 155, 156, 157] (by decide +kernel) (by decide +kernel)
set_option maxRecDepth 20000 in
theorem gX11_init_X1_init_n42 : GoodIn wsX11_init (wsX1_init) := ggX11_init_X1_init
set_option maxRecDepth 20000 in
theorem ggX11_init_X3_init : GoodIn wsX11_init wsX3_init := goodIn_r _ [85, 86, 2, 3, 6, 87, 80, 88, 89, 90, 91, 92, 158, 159, 160, 161, 162, 163, 164, 165] (by decide +kernel) (by decide +kernel)
set_option maxRecDepth 20000 in
theorem gX11_init_X3_init : GoodIn wsX11_init (wsX3_init) := ggX11_init_X3_init
set_option maxRecDepth 20000 in
theorem ggX11_init_X4_init : GoodIn wsX11_init wsX4_init := goodIn_r _ [95, 96, 2, 3, 80, 97, 6, 98, 99, 100, 101, 102, 103, 104, 105, 106, 166, 167, 168, 169, 170, 171, 172, 173, 174, 175, 176, 177, 178, 179, 180] (by decide +kernel) (by decide +kernel)
set_option maxRecDepth 20000 in
theorem gX11_init_X4_init : GoodIn wsX11_init (wsX4_init) := ggX11_init_X4_init
set_option maxRecDepth 20000 in
theorem ggX11_init_X9_init : GoodIn wsX11_init wsX9_init := goodIn_r _ [109, 110, 2, 3, 111, 112, 113, 114, 115, 116, 117, 118, 119, 120, 121, 63, 64, 122, 123, 124, 6, 125, 126, 127, 128, 129, 130, 67, 68, 69, 70, 71, 72, 181, 182, 183, 184, 185, 186, 187, 188, 189, 190, 191, 206, 207, 208, 209, 210, 211, 212, 213, 214, 215, 216, 217, 218, 219, 201, 202, 203, 204, 205] (by decide +kernel) (by decide +kernel)
set_option maxRecDepth 20000 in
theorem gX11_init_X9_init : GoodIn wsX11_init (wsX9_init) := ggX11_init_X9_init
theorem dX11_init_0 : decode cX11_init 0 = .ok (.aload_n 0, 1) := by decide +kernel
theorem dX11_init_1 : decode cX11_init 1 = .ok (.invokespecial 1, 3) := by decide +kernel
theorem dX11_init_4 : decode cX11_init 4 = .ok (.aload_n 0, 1) := by decide +kernel
theorem dX11_init_5 : decode cX11_init 5 = .ok (.bipush 16, 2) := by decide +kernel
theorem dX11_init_7 : decode cX11_init 7 = .ok (.anewarray 9, 3) := by decide +kernel
theorem dX11_init_10 : decode cX11_init 10 = .ok (.putfield 11, 3) := by decide +kernel
theorem dX11_init_13 : decode cX11_init 13 = .ok (.aload_n 0, 1) := by decide +kernel
theorem dX11_init_14 : decode cX11_init 14 = .ok (.sipush 200, 3) := by decide +kernel
theorem dX11_init_17 : decode cX11_init 17 = .ok (.newarray .int, 2) := by decide +kernel
theorem dX11_init_19 : decode cX11_init 19 = .ok (.putfield 15, 3) := by decide +kernel
theorem dX11_init_22 : decode cX11_init 22 = .ok (.aload_n 0, 1) := by decide +kernel
theorem dX11_init_23 : decode cX11_init 23 = .ok (.new 19, 3) := by decide +kernel
theorem dX11_init_26 : decode cX11_init 26 = .ok (.dup, 1) := by decide +kernel
theorem dX11_init_27 : decode cX11_init 27 = .ok (.invokespecial 21, 3) := by decide +kernel
theorem dX11_init_30 : decode cX11_init 30 = .ok (.putfield 22, 3) := by decide +kernel
theorem dX11_init_33 : decode cX11_init 33 = .ok (.aload_n 0, 1) := by decide +kernel
theorem dX11_init_34 : decode cX11_init 34 = .ok (.new 26, 3) := by decide +kernel
theorem dX11_init_37 : decode cX11_init 37 = .ok (.dup, 1) := by decide +kernel
theorem dX11_init_38 : decode cX11_init 38 = .ok (.invokespecial 28, 3) := by decide +kernel
theorem dX11_init_41 : decode cX11_init 41 = .ok (.putfield 29, 3) := by decide +kernel
theorem dX11_init_44 : decode cX11_init 44 = .ok (.aload_n 0, 1) := by decide +kernel
theorem dX11_init_45 : decode cX11_init 45 = .ok (.new 33, 3) := by decide +kernel
theorem dX11_init_48 : decode cX11_init 48 = .ok (.dup, 1) := by decide +kernel
theorem dX11_init_49 : decode cX11_init 49 = .ok (.invokespecial 35, 3) := by decide +kernel
theorem dX11_init_52 : decode cX11_init 52 = .ok (.putfield 36, 3) := by decide +kernel
theorem dX11_init_55 : decode cX11_init 55 = .ok (.aload_n 0, 1) := by decide +kernel
theorem dX11_init_56 : decode cX11_init 56 = .ok (.new 40, 3) := by decide +kernel
theorem dX11_init_59 : decode cX11_init 59 = .ok (.dup, 1) := by decide +kernel
theorem dX11_init_60 : decode cX11_init 60 = .ok (.invokespecial 42, 3) := by decide +kernel
theorem dX11_init_63 : decode cX11_init 63 = .ok (.putfield 43, 3) := by decide +kernel
theorem dX11_init_66 : decode cX11_init 66 = .ok (.aload_n 0, 1) := by decide +kernel
theorem dX11_init_67 : decode cX11_init 67 = .ok (.new 47, 3) := by decide +kernel
theorem dX11_init_70 : decode cX11_init 70 = .ok (.dup, 1) := by decide +kernel
theorem dX11_init_71 : decode cX11_init 71 = .ok (.aload_n 0, 1) := by decide +kernel
theorem dX11_init_72 : decode cX11_init 72 = .ok (.getfield 43, 3) := by decide +kernel
theorem dX11_init_75 : decode cX11_init 75 = .ok (.invokespecial 49, 3) := by decide +kernel
theorem dX11_init_78 : decode cX11_init 78 = .ok (.putfield 52, 3) := by decide +kernel
theorem dX11_init_81 : decode cX11_init 81 = .ok (.aload_n 0, 1) := by decide +kernel
theorem dX11_init_82 : decode cX11_init 82 = .ok (.new 56, 3) := by decide +kernel
theorem dX11_init_85 : decode cX11_init 85 = .ok (.dup, 1) := by decide +kernel
theorem dX11_init_86 : decode cX11_init 86 = .ok (.aload_n 0, 1) := by decide +kernel
theorem dX11_init_87 : decode cX11_init 87 = .ok (.getfield 43, 3) := by decide +kernel
theorem dX11_init_90 : decode cX11_init 90 = .ok (.invokespecial 58, 3) := by decide +kernel
theorem dX11_init_93 : decode cX11_init 93 = .ok (.putfield 59, 3) := by decide +kernel
theorem dX11_init_96 : decode cX11_init 96 = .ok (.aload_n 0, 1) := by decide +kernel
theorem dX11_init_97 : decode cX11_init 97 = .ok (.bipush 60, 2) := by decide +kernel
theorem dX11_init_99 : decode cX11_init 99 = .ok (.newarray .int, 2) := by decide +kernel
theorem dX11_init_101 : decode cX11_init 101 = .ok (.putfield 63, 3) := by decide +kernel
theorem dX11_init_104 : decode cX11_init 104 = .ok (.aload_n 0, 1) := by decide +kernel
theorem dX11_init_105 : decode cX11_init 105 = .ok (.new 66, 3) := by decide +kernel
theorem dX11_init_108 : decode cX11_init 108 = .ok (.dup, 1) := by decide +kernel
theorem dX11_init_109 : decode cX11_init 109 = .ok (.invokespecial 68, 3) := by decide +kernel
theorem dX11_init_112 : decode cX11_init 112 = .ok (.putfield 69, 3) := by decide +kernel
theorem dX11_init_115 : decode cX11_init 115 = .ok (.aload_n 0, 1) := by decide +kernel
theorem dX11_init_116 : decode cX11_init 116 = .ok (.new 66, 3) := by decide +kernel
theorem dX11_init_119 : decode cX11_init 119 = .ok (.dup, 1) := by decide +kernel
theorem dX11_init_120 : decode cX11_init 120 = .ok (.invokespecial 68, 3) := by decide +kernel
theorem dX11_init_123 : decode cX11_init 123 = .ok (.putfield 73, 3) := by decide +kernel
theorem dX11_init_126 : decode cX11_init 126 = .ok (.return_, 1) := by decide +kernel
theorem dX11_feed_0 : decode cX11_feed 0 = .ok (.iload_n 1, 1) := by decide +kernel
theorem dX11_feed_1 : decode cX11_feed 1 = .ok (.iconst 1, 1) := by decide +kernel
theorem dX11_feed_2 : decode cX11_feed 2 = .ok (.if_icmp .lt 10, 3) := by decide +kernel
theorem dX11_feed_5 : decode cX11_feed 5 = .ok (.iload_n 1, 1) := by decide +kernel
theorem dX11_feed_6 : decode cX11_feed 6 = .ok (.sipush 255, 3) := by decide +kernel
theorem dX11_feed_9 : decode cX11_feed 9 = .ok (.if_icmp .le 5, 3) := by decide +kernel
theorem dX11_feed_12 : decode cX11_feed 12 = .ok (.iconst (-1), 1) := by decide +kernel
theorem dX11_feed_13 : decode cX11_feed 13 = .ok (.ireturn, 1) := by decide +kernel
theorem dX11_feed_14 : decode cX11_feed 14 = .ok (.aload_n 0, 1) := by decide +kernel
theorem dX11_feed_15 : decode cX11_feed 15 = .ok (.getfield 76, 3) := by decide +kernel
theorem dX11_feed_18 : decode cX11_feed 18 = .ok (.ifCond .lt 15, 3) := by decide +kernel
theorem dX11_feed_21 : decode cX11_feed 21 = .ok (.aload_n 0, 1) := by decide +kernel
theorem dX11_feed_22 : decode cX11_feed 22 = .ok (.getfield 76, 3) := by decide +kernel
theorem dX11_feed_25 : decode cX11_feed 25 = .ok (.aload_n 0, 1) := by decide +kernel
theorem dX11_feed_26 : decode cX11_feed 26 = .ok (.getfield 15, 3) := by decide +kernel
theorem dX11_feed_29 : decode cX11_feed 29 = .ok (.arraylength, 1) := by decide +kernel
theorem dX11_feed_30 : decode cX11_feed 30 = .ok (.if_icmp .lt 6, 3) := by decide +kernel
theorem dX11_feed_33 : decode cX11_feed 33 = .ok (.bipush (-3), 2) := by decide +kernel
theorem dX11_feed_35 : decode cX11_feed 35 = .ok (.ireturn, 1) := by decide +kernel
theorem dX11_feed_36 : decode cX11_feed 36 = .ok (.aload_n 0, 1) := by decide +kernel
theorem dX11_feed_37 : decode cX11_feed 37 = .ok (.getfield 15, 3) := by decide +kernel
theorem dX11_feed_40 : decode cX11_feed 40 = .ok (.aload_n 0, 1) := by decide +kernel
theorem dX11_feed_41 : decode cX11_feed 41 = .ok (.getfield 76, 3) := by decide +kernel
theorem dX11_feed_44 : decode cX11_feed 44 = .ok (.iload_n 1, 1) := by decide +kernel
theorem dX11_feed_45 : decode cX11_feed 45 = .ok (.iastore, 1) := by decide +kernel
theorem dX11_feed_46 : decode cX11_feed 46 = .ok (.aload_n 0, 1) := by decide +kernel
theorem dX11_feed_47 : decode cX11_feed 47 = .ok (.dup, 1) := by decide +kernel
theorem dX11_feed_48 : decode cX11_feed 48 = .ok (.getfield 76, 3) := by decide +kernel
theorem dX11_feed_51 : decode cX11_feed 51 = .ok (.iconst 1, 1) := by decide +kernel
theorem dX11_feed_52 : decode cX11_feed 52 = .ok (.iadd, 1) := by decide +kernel
theorem dX11_feed_53 : decode cX11_feed 53 = .ok (.putfield 76, 3) := by decide +kernel
theorem dX11_feed_56 : decode cX11_feed 56 = .ok (.aload_n 0, 1) := by decide +kernel
theorem dX11_feed_57 : decode cX11_feed 57 = .ok (.getfield 76, 3) := by decide +kernel
theorem dX11_feed_60 : decode cX11_feed 60 = .ok (.ireturn, 1) := by decide +kernel
set_option maxRecDepth 20000 in
theorem ggX11_define_X8_read : GoodIn wsX11_define wsX8_read := goodIn_r _ [14, 15, 16, 17, 18, 19, 20, 21, 22, 23, 24, 25, 26, 13, 27, 28, 29, 30, 31, 32, 33, 34, 35, 36, 37, 38, 39, 40, 41, 42, 43, 44, 45, 46, 47, 48, 49, 50, 51, 52, 53, 54, 55, 56, 7, 57, 58, 59, 60, 61, 62, 63, 64, 65, 66, 67, 68, 69, 70, 71, 72, 73, 74, 75, 76, 77, 78, 79, 80, 81, 82, 83, 84, 85, 86, 87, 88, 89, 90, 91, 92, 93, 94, 95, 96, 97, 98, 99, 100, 101, 102, 103, 104, 105, 106, 107, 108, 109, 159, 160, 161, 162, 163, 150, 151, 152, 153, 154, 155, 156, 157, 158] (by decide +kernel) (by decide +kernel)
set_option maxRecDepth 20000 in
theorem gX11_define_X8_read : GoodIn wsX11_define (wsV RX11 80 RX8 yX8_read wsX8_read) := goodIn_app (goodIn_of _ (by decide +kernel)) ggX11_define_X8_read
set_option maxRecDepth 20000 in
theorem ggX11_define_X7_init_ : GoodIn wsX11_define wsX7_init_ := goodIn_r _ [112, 113, 114, 115, 116, 58, 117, 63, 87, 118, 119, 109, 120, 121, 122, 123, 124, 125, 126, 127, 128, 129, 130, 131, 132, 17, 18, 19, 133, 134, 135, 136, 150, 151, 152, 153, 154, 155, 156, 157, 158] (by decide +kernel) (by decide +kernel)
set_option maxRecDepth 20000 in
theorem gX11_define_X7_init_ : GoodIn wsX11_define (wsX7_init_) := ggX11_define_X7_init_
theorem dX11_define_0 : decode cX11_define 0 = .ok (.iload_n 1, 1) := by decide +kernel
theorem dX11_define_1 : decode cX11_define 1 = .ok (.ifCond .lt 12, 3) := by decide +kernel
theorem dX11_define_4 : decode cX11_define 4 = .ok (.iload_n 1, 1) := by decide +kernel
theorem dX11_define_5 : decode cX11_define 5 = .ok (.aload_n 0, 1) := by decide +kernel
theorem dX11_define_6 : decode cX11_define 6 = .ok (.getfield 11, 3) := by decide +kernel
theorem dX11_define_9 : decode cX11_define 9 = .ok (.arraylength, 1) := by decide +kernel
theorem dX11_define_10 : decode cX11_define 10 = .ok (.if_icmp .lt 5, 3) := by decide +kernel
theorem dX11_define_13 : decode cX11_define 13 = .ok (.iconst (-1), 1) := by decide +kernel
theorem dX11_define_14 : decode cX11_define 14 = .ok (.ireturn, 1) := by decide +kernel
theorem dX11_define_15 : decode cX11_define 15 = .ok (.aload_n 0, 1) := by decide +kernel
theorem dX11_define_16 : decode cX11_define 16 = .ok (.getfield 22, 3) := by decide +kernel
theorem dX11_define_19 : decode cX11_define 19 = .ok (.aload_n 0, 1) := by decide +kernel
theorem dX11_define_20 : decode cX11_define 20 = .ok (.getfield 15, 3) := by decide +kernel
theorem dX11_define_23 : decode cX11_define 23 = .ok (.aload_n 0, 1) := by decide +kernel
theorem dX11_define_24 : decode cX11_define 24 = .ok (.getfield 76, 3) := by decide +kernel
theorem dX11_define_27 : decode cX11_define 27 = .ok (.invokevirtual 80, 3) := by decide +kernel
theorem dX11_define_30 : decode cX11_define 30 = .ok (.istore_n 2, 1) := by decide +kernel
theorem dX11_define_31 : decode cX11_define 31 = .ok (.aload_n 0, 1) := by decide +kernel
theorem dX11_define_32 : decode cX11_define 32 = .ok (.iconst 0, 1) := by decide +kernel
theorem dX11_define_33 : decode cX11_define 33 = .ok (.putfield 76, 3) := by decide +kernel
theorem dX11_define_36 : decode cX11_define 36 = .ok (.iload_n 2, 1) := by decide +kernel
theorem dX11_define_37 : decode cX11_define 37 = .ok (.ifCond .lt 8, 3) := by decide +kernel
theorem dX11_define_40 : decode cX11_define 40 = .ok (.bipush (-100), 2) := by decide +kernel
theorem dX11_define_42 : decode cX11_define 42 = .ok (.iload_n 2, 1) := by decide +kernel
theorem dX11_define_43 : decode cX11_define 43 = .ok (.isub, 1) := by decide +kernel
theorem dX11_define_44 : decode cX11_define 44 = .ok (.ireturn, 1) := by decide +kernel
theorem dX11_define_45 : decode cX11_define 45 = .ok (.new 9, 3) := by decide +kernel
theorem dX11_define_48 : decode cX11_define 48 = .ok (.dup, 1) := by decide +kernel
theorem dX11_define_49 : decode cX11_define 49 = .ok (.aload_n 0, 1) := by decide +kernel
theorem dX11_define_50 : decode cX11_define 50 = .ok (.getfield 22, 3) := by decide +kernel
theorem dX11_define_53 : decode cX11_define 53 = .ok (.getfield 84, 3) := by decide +kernel
theorem dX11_define_56 : decode cX11_define 56 = .ok (.invokespecial 88, 3) := by decide +kernel
theorem dX11_define_59 : decode cX11_define 59 = .ok (.astore_n 3, 1) := by decide +kernel
theorem dX11_define_60 : decode cX11_define 60 = .ok (.aload_n 0, 1) := by decide +kernel
theorem dX11_define_61 : decode cX11_define 61 = .ok (.getfield 11, 3) := by decide +kernel
theorem dX11_define_64 : decode cX11_define 64 = .ok (.iload_n 1, 1) := by decide +kernel
theorem dX11_define_65 : decode cX11_define 65 = .ok (.aload_n 3, 1) := by decide +kernel
theorem dX11_define_66 : decode cX11_define 66 = .ok (.aastore, 1) := by decide +kernel
theorem dX11_define_67 : decode cX11_define 67 = .ok (.aload_n 3, 1) := by decide +kernel
theorem dX11_define_68 : decode cX11_define 68 = .ok (.getfield 91, 3) := by decide +kernel
theorem dX11_define_71 : decode cX11_define 71 = .ok (.ireturn, 1) := by decide +kernel
set_option maxRecDepth 20000 in
theorem ggX11_dual_X11_protocolAt : GoodIn wsX11_dual wsX11_protocolAt := goodIn_r _ [7, 1, 52, 53, 54, 55, 56, 57, 58, 59, 60, 61, 62, 63, 64] (by decide +kernel) (by decide +kernel)
set_option maxRecDepth 20000 in
theorem gX11_dual_X11_protocolAt : GoodIn wsX11_dual (wsV RX11 94 RX11 yX11_protocolAt wsX11_protocolAt) := goodIn_app (goodIn_of _ (by decide +kernel)) ggX11_dual_X11_protocolAt
set_option maxRecDepth 20000 in
theorem ggX11_dual_X7_turned : GoodIn wsX11_dual wsX7_turned := goodIn_r _ [12, 13, 14, 11, 15, 16, 17, 18, 19, 20, 21, 22, 23, 24, 25, 26, 27, 28, 29, 30, 31, 32, 33, 34, 35, 36, 37, 38, 39, 40, 41, 42, 43, 44, 45, 46, 47, 48, 49, 50, 51, 65, 66, 67, 68, 69, 70, 71, 72, 73] (by decide +kernel) (by decide +kernel)
set_option maxRecDepth 20000 in
theorem gX11_dual_X7_turned : GoodIn wsX11_dual (wsV RX11 98 RX7 yX7_turned wsX7_turned) := goodIn_app (goodIn_of _ (by decide +kernel)) ggX11_dual_X7_turned
theorem dX11_dual_0 : decode cX11_dual 0 = .ok (.aload_n 0, 1) := by decide +kernel
theorem dX11_dual_1 : decode cX11_dual 1 = .ok (.iload_n 1, 1) := by decide +kernel
theorem dX11_dual_2 : decode cX11_dual 2 = .ok (.invokevirtual 94, 3) := by decide +kernel
theorem dX11_dual_5 : decode cX11_dual 5 = .ok (.astore_n 3, 1) := by decide +kernel
theorem dX11_dual_6 : decode cX11_dual 6 = .ok (.aload_n 3, 1) := by decide +kernel
theorem dX11_dual_7 : decode cX11_dual 7 = .ok (.ifnull 16, 3) := by decide +kernel
theorem dX11_dual_10 : decode cX11_dual 10 = .ok (.iload_n 2, 1) := by decide +kernel
theorem dX11_dual_11 : decode cX11_dual 11 = .ok (.ifCond .lt 12, 3) := by decide +kernel
theorem dX11_dual_14 : decode cX11_dual 14 = .ok (.iload_n 2, 1) := by decide +kernel
theorem dX11_dual_15 : decode cX11_dual 15 = .ok (.aload_n 0, 1) := by decide +kernel
theorem dX11_dual_16 : decode cX11_dual 16 = .ok (.getfield 11, 3) := by decide +kernel
theorem dX11_dual_19 : decode cX11_dual 19 = .ok (.arraylength, 1) := by decide +kernel
theorem dX11_dual_20 : decode cX11_dual 20 = .ok (.if_icmp .lt 5, 3) := by decide +kernel
theorem dX11_dual_23 : decode cX11_dual 23 = .ok (.iconst (-1), 1) := by decide +kernel
theorem dX11_dual_24 : decode cX11_dual 24 = .ok (.ireturn, 1) := by decide +kernel
theorem dX11_dual_25 : decode cX11_dual 25 = .ok (.aload_n 3, 1) := by decide +kernel
theorem dX11_dual_26 : decode cX11_dual 26 = .ok (.invokevirtual 98, 3) := by decide +kernel
theorem dX11_dual_29 : decode cX11_dual 29 = .ok (.astore 4, 2) := by decide +kernel
theorem dX11_dual_31 : decode cX11_dual 31 = .ok (.aload_n 0, 1) := by decide +kernel
theorem dX11_dual_32 : decode cX11_dual 32 = .ok (.getfield 11, 3) := by decide +kernel
theorem dX11_dual_35 : decode cX11_dual 35 = .ok (.iload_n 2, 1) := by decide +kernel
theorem dX11_dual_36 : decode cX11_dual 36 = .ok (.aload 4, 2) := by decide +kernel
theorem dX11_dual_38 : decode cX11_dual 38 = .ok (.aastore, 1) := by decide +kernel
theorem dX11_dual_39 : decode cX11_dual 39 = .ok (.aload 4, 2) := by decide +kernel
theorem dX11_dual_41 : decode cX11_dual 41 = .ok (.getfield 91, 3) := by decide +kernel
theorem dX11_dual_44 : decode cX11_dual 44 = .ok (.ireturn, 1) := by decide +kernel
set_option maxRecDepth 20000 in
theorem ggX11_ask_X11_protocolAt : GoodIn wsX11_ask wsX11_protocolAt := goodIn_r _ [6, 7, 99, 100, 101, 102, 103, 104, 105, 106, 107, 108, 109, 110, 111] (by decide +kernel) (by decide +kernel)
set_option maxRecDepth 20000 in
theorem gX11_ask_X11_protocolAt : GoodIn wsX11_ask (wsV RX11 94 RX11 yX11_protocolAt wsX11_protocolAt) := goodIn_app (goodIn_of _ (by decide +kernel)) ggX11_ask_X11_protocolAt
set_option maxRecDepth 20000 in
theorem ggX11_ask_X7_statesOutside : GoodIn wsX11_ask wsX7_statesOutside := goodIn_r _ [12, 13, 14, 15, 16, 11, 17, 18, 19, 20, 21, 22, 23, 90, 91, 92, 93, 94, 95, 96, 97, 98] (by decide +kernel) (by decide +kernel)
set_option maxRecDepth 20000 in
theorem gX11_ask_X7_statesOutside : GoodIn wsX11_ask (wsV RX11 111 RX7 yX7_statesOutside wsX7_statesOutside) := goodIn_app (goodIn_of _ (by decide +kernel)) ggX11_ask_X7_statesOutside
set_option maxRecDepth 20000 in
theorem ggX11_ask_X11_unlikeStates : GoodIn wsX11_ask wsX11_unlikeStates := goodIn_r _ [27, 1, 28, 29, 15, 16, 11, 17, 18, 19, 20, 21, 22, 23, 30, 31, 32, 5, 33, 34, 35, 36, 37, 38, 39, 40, 41, 42, 43, 44, 45, 46, 47, 48, 49, 50, 51, 52, 53, 54, 55, 56, 57, 58, 59, 60, 61, 62, 63, 64, 65, 66, 67, 68, 69, 70, 71, 72, 73, 74, 75, 76, 77, 78, 79, 90, 91, 92, 93, 94, 95, 96, 97, 98, 99, 100, 101, 102, 103, 104, 105, 106, 107, 108, 109, 110, 111, 112, 113, 114] (by decide +kernel) (by decide +kernel)
set_option maxRecDepth 20000 in
theorem gX11_ask_X11_unlikeStates : GoodIn wsX11_ask (wsV RX11 115 RX11 yX11_unlikeStates wsX11_unlikeStates) := goodIn_app (goodIn_of _ (by decide +kernel)) ggX11_ask_X11_unlikeStates
set_option maxRecDepth 20000 in
theorem ggX11_ask_X7_deepest : GoodIn wsX11_ask wsX7_deepest := goodIn_r _ [83, 18, 90, 91, 92, 93, 94, 95, 96, 97, 98] (by decide +kernel) (by decide +kernel)
set_option maxRecDepth 20000 in
theorem gX11_ask_X7_deepest : GoodIn wsX11_ask (wsV RX11 119 RX7 yX7_deepest wsX7_deepest) := goodIn_app (goodIn_of _ (by decide +kernel)) ggX11_ask_X7_deepest
set_option maxRecDepth 20000 in
theorem ggX11_ask_X7_beginning : GoodIn wsX11_ask wsX7_beginning := goodIn_r _ [87, 66, 90, 91, 92, 93, 94, 95, 96, 97, 98] (by decide +kernel) (by decide +kernel)
set_option maxRecDepth 20000 in
theorem gX11_ask_X7_beginning : GoodIn wsX11_ask (wsV RX11 122 RX7 yX7_beginning wsX7_beginning) := goodIn_app (goodIn_of _ (by decide +kernel)) ggX11_ask_X7_beginning
set_option maxRecDepth 20000 in
theorem ggX11_ask_X7_kindOf : GoodIn wsX11_ask wsX7_kindOf := goodIn_r _ [22, 23, 90, 91, 92, 93, 94, 95, 96, 97, 98] (by decide +kernel) (by decide +kernel)
set_option maxRecDepth 20000 in
theorem gX11_ask_X7_kindOf : GoodIn wsX11_ask (wsV RX11 125 RX7 yX7_kindOf wsX7_kindOf) := goodIn_app (goodIn_of _ (by decide +kernel)) ggX11_ask_X7_kindOf
set_option maxRecDepth 20000 in
theorem ggX11_ask_X7_labelsOf : GoodIn wsX11_ask wsX7_labelsOf := goodIn_r _ [75, 76, 90, 91, 92, 93, 94, 95, 96, 97, 98] (by decide +kernel) (by decide +kernel)
set_option maxRecDepth 20000 in
theorem gX11_ask_X7_labelsOf : GoodIn wsX11_ask (wsV RX11 129 RX7 yX7_labelsOf wsX7_labelsOf) := goodIn_app (goodIn_of _ (by decide +kernel)) ggX11_ask_X7_labelsOf
theorem dX11_ask_0 : decode cX11_ask 0 = .ok (.aload_n 0, 1) := by decide +kernel
theorem dX11_ask_1 : decode cX11_ask 1 = .ok (.iload_n 1, 1) := by decide +kernel
theorem dX11_ask_2 : decode cX11_ask 2 = .ok (.invokevirtual 94, 3) := by decide +kernel
theorem dX11_ask_5 : decode cX11_ask 5 = .ok (.astore_n 3, 1) := by decide +kernel
theorem dX11_ask_6 : decode cX11_ask 6 = .ok (.aload_n 3, 1) := by decide +kernel
theorem dX11_ask_7 : decode cX11_ask 7 = .ok (.ifnonnull 5, 3) := by decide +kernel
theorem dX11_ask_10 : decode cX11_ask 10 = .ok (.iconst (-1), 1) := by decide +kernel
theorem dX11_ask_11 : decode cX11_ask 11 = .ok (.ireturn, 1) := by decide +kernel
theorem dX11_ask_12 : decode cX11_ask 12 = .ok (.iload_n 2, 1) := by decide +kernel
theorem dX11_ask_13 : decode cX11_ask 13 = .ok (.tableswitch 78 0 5 #[39, 44, 49, 55, 60, 69], 39) := by decide +kernel
theorem dX11_ask_52 : decode cX11_ask 52 = .ok (.aload_n 3, 1) := by decide +kernel
theorem dX11_ask_53 : decode cX11_ask 53 = .ok (.getfield 91, 3) := by decide +kernel
theorem dX11_ask_56 : decode cX11_ask 56 = .ok (.ireturn, 1) := by decide +kernel
theorem dX11_ask_57 : decode cX11_ask 57 = .ok (.aload_n 3, 1) := by decide +kernel
theorem dX11_ask_58 : decode cX11_ask 58 = .ok (.invokevirtual 111, 3) := by decide +kernel
theorem dX11_ask_61 : decode cX11_ask 61 = .ok (.ireturn, 1) := by decide +kernel
theorem dX11_ask_62 : decode cX11_ask 62 = .ok (.aload_n 0, 1) := by decide +kernel
theorem dX11_ask_63 : decode cX11_ask 63 = .ok (.aload_n 3, 1) := by decide +kernel
theorem dX11_ask_64 : decode cX11_ask 64 = .ok (.invokevirtual 115, 3) := by decide +kernel
theorem dX11_ask_67 : decode cX11_ask 67 = .ok (.ireturn, 1) := by decide +kernel
theorem dX11_ask_68 : decode cX11_ask 68 = .ok (.aload_n 3, 1) := by decide +kernel
theorem dX11_ask_69 : decode cX11_ask 69 = .ok (.invokevirtual 119, 3) := by decide +kernel
theorem dX11_ask_72 : decode cX11_ask 72 = .ok (.ireturn, 1) := by decide +kernel
theorem dX11_ask_73 : decode cX11_ask 73 = .ok (.aload_n 3, 1) := by decide +kernel
theorem dX11_ask_74 : decode cX11_ask 74 = .ok (.aload_n 3, 1) := by decide +kernel
theorem dX11_ask_75 : decode cX11_ask 75 = .ok (.invokevirtual 122, 3) := by decide +kernel
theorem dX11_ask_78 : decode cX11_ask 78 = .ok (.invokevirtual 125, 3) := by decide +kernel
theorem dX11_ask_81 : decode cX11_ask 81 = .ok (.ireturn, 1) := by decide +kernel
theorem dX11_ask_82 : decode cX11_ask 82 = .ok (.aload_n 3, 1) := by decide +kernel
theorem dX11_ask_83 : decode cX11_ask 83 = .ok (.aload_n 3, 1) := by decide +kernel
theorem dX11_ask_84 : decode cX11_ask 84 = .ok (.invokevirtual 122, 3) := by decide +kernel
theorem dX11_ask_87 : decode cX11_ask 87 = .ok (.invokevirtual 129, 3) := by decide +kernel
theorem dX11_ask_90 : decode cX11_ask 90 = .ok (.ireturn, 1) := by decide +kernel
theorem dX11_ask_91 : decode cX11_ask 91 = .ok (.iconst (-1), 1) := by decide +kernel
theorem dX11_ask_92 : decode cX11_ask 92 = .ok (.ireturn, 1) := by decide +kernel
set_option maxRecDepth 20000 in
theorem ggX11_fits_X11_protocolAt : GoodIn wsX11_fits wsX11_protocolAt := goodIn_r _ [6, 7, 62, 63, 64, 65, 66, 67, 68, 69, 70, 71, 72, 73, 74] (by decide +kernel) (by decide +kernel)
set_option maxRecDepth 20000 in
theorem gX11_fits_X11_protocolAt : GoodIn wsX11_fits (wsV RX11 94 RX11 yX11_protocolAt wsX11_protocolAt) := goodIn_app (goodIn_of _ (by decide +kernel)) ggX11_fits_X11_protocolAt
set_option maxRecDepth 20000 in
theorem ggX11_fits_X7_beginning : GoodIn wsX11_fits wsX7_beginning := goodIn_r _ [12, 13, 75, 76, 77, 78, 79, 80, 81, 82, 83] (by decide +kernel) (by decide +kernel)
set_option maxRecDepth 20000 in
theorem gX11_fits_X7_beginning : GoodIn wsX11_fits (wsV RX11 122 RX7 yX7_beginning wsX7_beginning) := goodIn_app (goodIn_of _ (by decide +kernel)) ggX11_fits_X7_beginning
set_option maxRecDepth 20000 in
theorem ggX11_fits_X1_holds : GoodIn wsX11_fits wsX1_holds := goodIn_r _ [18, 19, 20, 21, 22, 23, 24, 25, 26, 27, 28, 17, 29, 30, 31, 32, 33, 34, 35, 36, 11, 37, 38, 39, 40, 41, 42, 43, 44, 45, 46, 47, 48, 13, 49, 50, 51, 52, 53, 54, 55, 56, 57, 58, 59, 60, 61, 84, 85, 86, 75, 76, 77, 78, 79, 80, 81, 82, 83] (by decide +kernel) (by decide +kernel)
set_option maxRecDepth 20000 in
theorem gX11_fits_X1_holds : GoodIn wsX11_fits (wsV RX11 132 RX1 yX1_holds wsX1_holds) := goodIn_app (goodIn_of _ (by decide +kernel)) ggX11_fits_X1_holds
theorem dX11_fits_0 : decode cX11_fits 0 = .ok (.aload_n 0, 1) := by decide +kernel
theorem dX11_fits_1 : decode cX11_fits 1 = .ok (.iload_n 1, 1) := by decide +kernel
theorem dX11_fits_2 : decode cX11_fits 2 = .ok (.invokevirtual 94, 3) := by decide +kernel
theorem dX11_fits_5 : decode cX11_fits 5 = .ok (.astore_n 3, 1) := by decide +kernel
theorem dX11_fits_6 : decode cX11_fits 6 = .ok (.aload_n 0, 1) := by decide +kernel
theorem dX11_fits_7 : decode cX11_fits 7 = .ok (.iload_n 2, 1) := by decide +kernel
theorem dX11_fits_8 : decode cX11_fits 8 = .ok (.invokevirtual 94, 3) := by decide +kernel
theorem dX11_fits_11 : decode cX11_fits 11 = .ok (.astore 4, 2) := by decide +kernel
theorem dX11_fits_13 : decode cX11_fits 13 = .ok (.aload_n 3, 1) := by decide +kernel
theorem dX11_fits_14 : decode cX11_fits 14 = .ok (.ifnull 8, 3) := by decide +kernel
theorem dX11_fits_17 : decode cX11_fits 17 = .ok (.aload 4, 2) := by decide +kernel
theorem dX11_fits_19 : decode cX11_fits 19 = .ok (.ifnonnull 5, 3) := by decide +kernel
theorem dX11_fits_22 : decode cX11_fits 22 = .ok (.iconst (-1), 1) := by decide +kernel
theorem dX11_fits_23 : decode cX11_fits 23 = .ok (.ireturn, 1) := by decide +kernel
theorem dX11_fits_24 : decode cX11_fits 24 = .ok (.aload_n 0, 1) := by decide +kernel
theorem dX11_fits_25 : decode cX11_fits 25 = .ok (.getfield 43, 3) := by decide +kernel
theorem dX11_fits_28 : decode cX11_fits 28 = .ok (.aload_n 3, 1) := by decide +kernel
theorem dX11_fits_29 : decode cX11_fits 29 = .ok (.aload_n 3, 1) := by decide +kernel
theorem dX11_fits_30 : decode cX11_fits 30 = .ok (.invokevirtual 122, 3) := by decide +kernel
theorem dX11_fits_33 : decode cX11_fits 33 = .ok (.aload 4, 2) := by decide +kernel
theorem dX11_fits_35 : decode cX11_fits 35 = .ok (.aload 4, 2) := by decide +kernel
theorem dX11_fits_37 : decode cX11_fits 37 = .ok (.invokevirtual 122, 3) := by decide +kernel
theorem dX11_fits_40 : decode cX11_fits 40 = .ok (.iconst 0, 1) := by decide +kernel
theorem dX11_fits_41 : decode cX11_fits 41 = .ok (.invokevirtual 132, 3) := by decide +kernel
theorem dX11_fits_44 : decode cX11_fits 44 = .ok (.ifCond .eq 7, 3) := by decide +kernel
theorem dX11_fits_47 : decode cX11_fits 47 = .ok (.iconst 1, 1) := by decide +kernel
theorem dX11_fits_48 : decode cX11_fits 48 = .ok (.goto 4, 3) := by decide +kernel
theorem dX11_fits_51 : decode cX11_fits 51 = .ok (.iconst 0, 1) := by decide +kernel
theorem dX11_fits_52 : decode cX11_fits 52 = .ok (.ireturn, 1) := by decide +kernel
set_option maxRecDepth 20000 in
theorem ggX11_witness_X11_protocolAt : GoodIn wsX11_witness wsX11_protocolAt := goodIn_r _ [7, 8, 112, 113, 114, 115, 116, 117, 118, 119, 120, 121, 122, 123, 124] (by decide +kernel) (by decide +kernel)
set_option maxRecDepth 20000 in
theorem gX11_witness_X11_protocolAt : GoodIn wsX11_witness (wsV RX11 94 RX11 yX11_protocolAt wsX11_protocolAt) := goodIn_app (goodIn_of _ (by decide +kernel)) ggX11_witness_X11_protocolAt
set_option maxRecDepth 20000 in
theorem ggX11_witness_X7_beginning : GoodIn wsX11_witness wsX7_beginning := goodIn_r _ [13, 14, 133, 134, 135, 136, 137, 138, 139, 140, 141] (by decide +kernel) (by decide +kernel)
set_option maxRecDepth 20000 in
theorem gX11_witness_X7_beginning : GoodIn wsX11_witness (wsV RX11 122 RX7 yX7_beginning wsX7_beginning) := goodIn_app (goodIn_of _ (by decide +kernel)) ggX11_witness_X7_beginning
set_option maxRecDepth 20000 in
theorem ggX11_witness_X3_find : GoodIn wsX11_witness wsX3_find := goodIn_r _ [19, 20, 21, 22, 23, 24, 25, 26, 27, 28, 29, 30, 31, 18, 32, 33, 34, 35, 36, 37, 38, 39, 40, 12, 41, 42, 43, 44, 45, 46, 47, 48, 49, 50, 51, 52, 53, 54, 55, 56, 57, 58, 59, 60, 61, 14, 62, 63, 64, 65, 66, 67, 68, 69, 70, 71, 72, 73, 74, 75, 76, 77, 78, 79, 80, 81, 82, 83, 84, 85, 86, 87, 88, 89, 90, 91, 92, 93, 94, 95, 96, 97, 98, 99, 100, 101, 102, 103, 104, 105, 106, 107, 108, 109, 110, 111, 125, 126, 127, 128, 129, 130, 131, 132, 133, 134, 135, 136, 137, 138, 139, 140, 141, 142, 143, 144] (by decide +kernel) (by decide +kernel)
set_option maxRecDepth 20000 in
theorem gX11_witness_X3_find : GoodIn wsX11_witness (wsV RX11 136 RX3 yX3_find wsX3_find) := goodIn_app (goodIn_of _ (by decide +kernel)) ggX11_witness_X3_find
theorem dX11_witness_0 : decode cX11_witness 0 = .ok (.aload_n 0, 1) := by decide +kernel
theorem dX11_witness_1 : decode cX11_witness 1 = .ok (.iload_n 1, 1) := by decide +kernel
theorem dX11_witness_2 : decode cX11_witness 2 = .ok (.invokevirtual 94, 3) := by decide +kernel
theorem dX11_witness_5 : decode cX11_witness 5 = .ok (.astore 4, 2) := by decide +kernel
theorem dX11_witness_7 : decode cX11_witness 7 = .ok (.aload_n 0, 1) := by decide +kernel
theorem dX11_witness_8 : decode cX11_witness 8 = .ok (.iload_n 2, 1) := by decide +kernel
theorem dX11_witness_9 : decode cX11_witness 9 = .ok (.invokevirtual 94, 3) := by decide +kernel
theorem dX11_witness_12 : decode cX11_witness 12 = .ok (.astore 5, 2) := by decide +kernel
theorem dX11_witness_14 : decode cX11_witness 14 = .ok (.aload 4, 2) := by decide +kernel
theorem dX11_witness_16 : decode cX11_witness 16 = .ok (.ifnull 13, 3) := by decide +kernel
theorem dX11_witness_19 : decode cX11_witness 19 = .ok (.aload 5, 2) := by decide +kernel
theorem dX11_witness_21 : decode cX11_witness 21 = .ok (.ifnull 8, 3) := by decide +kernel
theorem dX11_witness_24 : decode cX11_witness 24 = .ok (.iload_n 3, 1) := by decide +kernel
theorem dX11_witness_25 : decode cX11_witness 25 = .ok (.iconst (-1), 1) := by decide +kernel
theorem dX11_witness_26 : decode cX11_witness 26 = .ok (.if_icmp .ge 5, 3) := by decide +kernel
theorem dX11_witness_29 : decode cX11_witness 29 = .ok (.iconst (-1), 1) := by decide +kernel
theorem dX11_witness_30 : decode cX11_witness 30 = .ok (.ireturn, 1) := by decide +kernel
theorem dX11_witness_31 : decode cX11_witness 31 = .ok (.aload_n 0, 1) := by decide +kernel
theorem dX11_witness_32 : decode cX11_witness 32 = .ok (.getfield 52, 3) := by decide +kernel
theorem dX11_witness_35 : decode cX11_witness 35 = .ok (.aload 4, 2) := by decide +kernel
theorem dX11_witness_37 : decode cX11_witness 37 = .ok (.aload 4, 2) := by decide +kernel
theorem dX11_witness_39 : decode cX11_witness 39 = .ok (.invokevirtual 122, 3) := by decide +kernel
theorem dX11_witness_42 : decode cX11_witness 42 = .ok (.aload 5, 2) := by decide +kernel
theorem dX11_witness_44 : decode cX11_witness 44 = .ok (.aload 5, 2) := by decide +kernel
theorem dX11_witness_46 : decode cX11_witness 46 = .ok (.invokevirtual 122, 3) := by decide +kernel
theorem dX11_witness_49 : decode cX11_witness 49 = .ok (.invokevirtual 136, 3) := by decide +kernel
theorem dX11_witness_52 : decode cX11_witness 52 = .ok (.istore 6, 2) := by decide +kernel
theorem dX11_witness_54 : decode cX11_witness 54 = .ok (.iload 6, 2) := by decide +kernel
theorem dX11_witness_56 : decode cX11_witness 56 = .ok (.ifCond .ne 6, 3) := by decide +kernel
theorem dX11_witness_59 : decode cX11_witness 59 = .ok (.bipush (-2), 2) := by decide +kernel
theorem dX11_witness_61 : decode cX11_witness 61 = .ok (.ireturn, 1) := by decide +kernel
theorem dX11_witness_62 : decode cX11_witness 62 = .ok (.iload_n 3, 1) := by decide +kernel
theorem dX11_witness_63 : decode cX11_witness 63 = .ok (.ifCond .ge 8, 3) := by decide +kernel
theorem dX11_witness_66 : decode cX11_witness 66 = .ok (.iload 6, 2) := by decide +kernel
theorem dX11_witness_68 : decode cX11_witness 68 = .ok (.goto 35, 3) := by decide +kernel
theorem dX11_witness_71 : decode cX11_witness 71 = .ok (.iload_n 3, 1) := by decide +kernel
theorem dX11_witness_72 : decode cX11_witness 72 = .ok (.iload 6, 2) := by decide +kernel
theorem dX11_witness_74 : decode cX11_witness 74 = .ok (.if_icmp .ge 27, 3) := by decide +kernel
theorem dX11_witness_77 : decode cX11_witness 77 = .ok (.iload_n 3, 1) := by decide +kernel
theorem dX11_witness_78 : decode cX11_witness 78 = .ok (.aload_n 0, 1) := by decide +kernel
theorem dX11_witness_79 : decode cX11_witness 79 = .ok (.getfield 52, 3) := by decide +kernel
theorem dX11_witness_82 : decode cX11_witness 82 = .ok (.getfield 140, 3) := by decide +kernel
theorem dX11_witness_85 : decode cX11_witness 85 = .ok (.arraylength, 1) := by decide +kernel
theorem dX11_witness_86 : decode cX11_witness 86 = .ok (.if_icmp .ge 15, 3) := by decide +kernel
theorem dX11_witness_89 : decode cX11_witness 89 = .ok (.aload_n 0, 1) := by decide +kernel
theorem dX11_witness_90 : decode cX11_witness 90 = .ok (.getfield 52, 3) := by decide +kernel
theorem dX11_witness_93 : decode cX11_witness 93 = .ok (.getfield 140, 3) := by decide +kernel
theorem dX11_witness_96 : decode cX11_witness 96 = .ok (.iload_n 3, 1) := by decide +kernel
theorem dX11_witness_97 : decode cX11_witness 97 = .ok (.iaload, 1) := by decide +kernel
theorem dX11_witness_98 : decode cX11_witness 98 = .ok (.goto 5, 3) := by decide +kernel
theorem dX11_witness_101 : decode cX11_witness 101 = .ok (.bipush (-2), 2) := by decide +kernel
theorem dX11_witness_103 : decode cX11_witness 103 = .ok (.ireturn, 1) := by decide +kernel
set_option maxRecDepth 20000 in
theorem ggX11_bound_X11_protocolAt : GoodIn wsX11_bound wsX11_protocolAt := goodIn_r _ [6, 7, 57, 58, 59, 60, 61, 62, 63, 64, 65, 66, 67, 68, 69] (by decide +kernel) (by decide +kernel)
set_option maxRecDepth 20000 in
theorem gX11_bound_X11_protocolAt : GoodIn wsX11_bound (wsV RX11 94 RX11 yX11_protocolAt wsX11_protocolAt) := goodIn_app (goodIn_of _ (by decide +kernel)) ggX11_bound_X11_protocolAt
set_option maxRecDepth 20000 in
theorem ggX11_bound_X7_longestRow : GoodIn wsX11_bound wsX7_longestRow := goodIn_r _ [12, 13, 14, 15, 16, 17, 18, 19, 20, 21, 22, 23, 24, 25, 26, 27, 11, 28, 29, 30, 31, 32, 33, 34, 35, 36, 37, 38, 39, 40, 41, 42, 43, 44, 45, 46, 47, 48, 49, 50, 51, 52, 53, 54, 55, 56, 70, 71, 72, 73, 74, 75, 76, 77, 78] (by decide +kernel) (by decide +kernel)
set_option maxRecDepth 20000 in
theorem gX11_bound_X7_longestRow : GoodIn wsX11_bound (wsV RX11 141 RX7 yX7_longestRow wsX7_longestRow) := goodIn_app (goodIn_of _ (by decide +kernel)) ggX11_bound_X7_longestRow
theorem dX11_bound_0 : decode cX11_bound 0 = .ok (.aload_n 0, 1) := by decide +kernel
theorem dX11_bound_1 : decode cX11_bound 1 = .ok (.iload_n 1, 1) := by decide +kernel
theorem dX11_bound_2 : decode cX11_bound 2 = .ok (.invokevirtual 94, 3) := by decide +kernel
theorem dX11_bound_5 : decode cX11_bound 5 = .ok (.astore_n 3, 1) := by decide +kernel
theorem dX11_bound_6 : decode cX11_bound 6 = .ok (.aload_n 3, 1) := by decide +kernel
theorem dX11_bound_7 : decode cX11_bound 7 = .ok (.ifnull 12, 3) := by decide +kernel
theorem dX11_bound_10 : decode cX11_bound 10 = .ok (.iload_n 2, 1) := by decide +kernel
theorem dX11_bound_11 : decode cX11_bound 11 = .ok (.ifCond .lt 8, 3) := by decide +kernel
theorem dX11_bound_14 : decode cX11_bound 14 = .ok (.iload_n 2, 1) := by decide +kernel
theorem dX11_bound_15 : decode cX11_bound 15 = .ok (.iconst 1, 1) := by decide +kernel
theorem dX11_bound_16 : decode cX11_bound 16 = .ok (.if_icmp .le 5, 3) := by decide +kernel
theorem dX11_bound_19 : decode cX11_bound 19 = .ok (.iconst (-1), 1) := by decide +kernel
theorem dX11_bound_20 : decode cX11_bound 20 = .ok (.ireturn, 1) := by decide +kernel
theorem dX11_bound_21 : decode cX11_bound 21 = .ok (.aload_n 3, 1) := by decide +kernel
theorem dX11_bound_22 : decode cX11_bound 22 = .ok (.iload_n 2, 1) := by decide +kernel
theorem dX11_bound_23 : decode cX11_bound 23 = .ok (.aload_n 0, 1) := by decide +kernel
theorem dX11_bound_24 : decode cX11_bound 24 = .ok (.getfield 63, 3) := by decide +kernel
theorem dX11_bound_27 : decode cX11_bound 27 = .ok (.invokevirtual 141, 3) := by decide +kernel
theorem dX11_bound_30 : decode cX11_bound 30 = .ok (.ireturn, 1) := by decide +kernel
set_option maxRecDepth 20000 in
theorem ggX11_meet_X11_protocolAt : GoodIn wsX11_meet wsX11_protocolAt := goodIn_r _ [11, 12, 160, 161, 162, 163, 164, 165, 166, 167, 168, 169, 170, 171, 172] (by decide +kernel) (by decide +kernel)
set_option maxRecDepth 20000 in
theorem gX11_meet_X11_protocolAt : GoodIn wsX11_meet (wsV RX11 94 RX11 yX11_protocolAt wsX11_protocolAt) := goodIn_app (goodIn_of _ (by decide +kernel)) ggX11_meet_X11_protocolAt
set_option maxRecDepth 20000 in
theorem ggX11_meet_X4_explore : GoodIn wsX11_meet wsX4_explore := goodIn_r _ [17, 18, 19, 20, 21, 22, 23, 24, 25, 26, 16, 27, 28, 29, 30, 31, 32, 33, 34, 35, 36, 37, 38, 39, 40, 41, 42, 43, 44, 45, 46, 47, 48, 49, 50, 51, 52, 53, 54, 55, 56, 57, 58, 59, 60, 61, 62, 63, 64, 65, 66, 67, 68, 69, 70, 71, 72, 73, 74, 75, 76, 77, 78, 79, 80, 81, 82, 83, 84, 85, 86, 87, 88, 89, 90, 91, 92, 93, 94, 95, 96, 97, 98, 99, 100, 101, 102, 103, 104, 105, 106, 107, 108, 109, 110, 111, 112, 113, 114, 115, 116, 117, 118, 119, 120, 121, 122, 123, 124, 125, 126, 127, 128, 129, 130, 131, 132, 133, 134, 135, 136, 137, 138, 139, 140, 141, 142, 143, 144, 145, 146, 147, 148, 149, 150, 151, 152, 153, 154, 155, 156, 157, 158, 159, 173, 174, 175, 176, 177, 178, 179, 180, 181, 182, 183, 184, 185, 186, 187, 188, 189, 190, 191, 192, 193, 194, 195, 196, 197, 198, 199] (by decide +kernel) (by decide +kernel)
set_option maxRecDepth 20000 in
theorem gX11_meet_X4_explore : GoodIn wsX11_meet (wsV RX11 145 RX4 yX4_explore wsX4_explore) := goodIn_app (goodIn_of _ (by decide +kernel)) ggX11_meet_X4_explore
theorem dX11_meet_0 : decode cX11_meet 0 = .ok (.aload_n 0, 1) := by decide +kernel
theorem dX11_meet_1 : decode cX11_meet 1 = .ok (.iload_n 1, 1) := by decide +kernel
theorem dX11_meet_2 : decode cX11_meet 2 = .ok (.invokevirtual 94, 3) := by decide +kernel
theorem dX11_meet_5 : decode cX11_meet 5 = .ok (.astore 5, 2) := by decide +kernel
theorem dX11_meet_7 : decode cX11_meet 7 = .ok (.aload_n 0, 1) := by decide +kernel
theorem dX11_meet_8 : decode cX11_meet 8 = .ok (.iload_n 2, 1) := by decide +kernel
theorem dX11_meet_9 : decode cX11_meet 9 = .ok (.invokevirtual 94, 3) := by decide +kernel
theorem dX11_meet_12 : decode cX11_meet 12 = .ok (.astore 6, 2) := by decide +kernel
theorem dX11_meet_14 : decode cX11_meet 14 = .ok (.aload 5, 2) := by decide +kernel
theorem dX11_meet_16 : decode cX11_meet 16 = .ok (.ifnull 29, 3) := by decide +kernel
theorem dX11_meet_19 : decode cX11_meet 19 = .ok (.aload 6, 2) := by decide +kernel
theorem dX11_meet_21 : decode cX11_meet 21 = .ok (.ifnull 24, 3) := by decide +kernel
theorem dX11_meet_24 : decode cX11_meet 24 = .ok (.iload_n 3, 1) := by decide +kernel
theorem dX11_meet_25 : decode cX11_meet 25 = .ok (.iconst 1, 1) := by decide +kernel
theorem dX11_meet_26 : decode cX11_meet 26 = .ok (.if_icmp .lt 19, 3) := by decide +kernel
theorem dX11_meet_29 : decode cX11_meet 29 = .ok (.iload_n 3, 1) := by decide +kernel
theorem dX11_meet_30 : decode cX11_meet 30 = .ok (.iconst 2, 1) := by decide +kernel
theorem dX11_meet_31 : decode cX11_meet 31 = .ok (.if_icmp .gt 14, 3) := by decide +kernel
theorem dX11_meet_34 : decode cX11_meet 34 = .ok (.iload 4, 2) := by decide +kernel
theorem dX11_meet_36 : decode cX11_meet 36 = .ok (.ifCond .lt 9, 3) := by decide +kernel
theorem dX11_meet_39 : decode cX11_meet 39 = .ok (.iload 4, 2) := by decide +kernel
theorem dX11_meet_41 : decode cX11_meet 41 = .ok (.iconst 4, 1) := by decide +kernel
theorem dX11_meet_42 : decode cX11_meet 42 = .ok (.if_icmp .le 5, 3) := by decide +kernel
theorem dX11_meet_45 : decode cX11_meet 45 = .ok (.iconst (-1), 1) := by decide +kernel
theorem dX11_meet_46 : decode cX11_meet 46 = .ok (.ireturn, 1) := by decide +kernel
theorem dX11_meet_47 : decode cX11_meet 47 = .ok (.aload_n 0, 1) := by decide +kernel
theorem dX11_meet_48 : decode cX11_meet 48 = .ok (.getfield 59, 3) := by decide +kernel
theorem dX11_meet_51 : decode cX11_meet 51 = .ok (.aload 5, 2) := by decide +kernel
theorem dX11_meet_53 : decode cX11_meet 53 = .ok (.aload 6, 2) := by decide +kernel
theorem dX11_meet_55 : decode cX11_meet 55 = .ok (.iload_n 3, 1) := by decide +kernel
theorem dX11_meet_56 : decode cX11_meet 56 = .ok (.invokevirtual 145, 3) := by decide +kernel
theorem dX11_meet_59 : decode cX11_meet 59 = .ok (.ifCond .ne 6, 3) := by decide +kernel
theorem dX11_meet_62 : decode cX11_meet 62 = .ok (.bipush (-3), 2) := by decide +kernel
theorem dX11_meet_64 : decode cX11_meet 64 = .ok (.ireturn, 1) := by decide +kernel
theorem dX11_meet_65 : decode cX11_meet 65 = .ok (.iload 4, 2) := by decide +kernel
theorem dX11_meet_67 : decode cX11_meet 67 = .ok (.tableswitch 61 0 3 #[29, 37, 45, 53], 29) := by decide +kernel
theorem dX11_meet_96 : decode cX11_meet 96 = .ok (.aload_n 0, 1) := by decide +kernel
theorem dX11_meet_97 : decode cX11_meet 97 = .ok (.getfield 59, 3) := by decide +kernel
theorem dX11_meet_100 : decode cX11_meet 100 = .ok (.getfield 149, 3) := by decide +kernel
theorem dX11_meet_103 : decode cX11_meet 103 = .ok (.ireturn, 1) := by decide +kernel
theorem dX11_meet_104 : decode cX11_meet 104 = .ok (.aload_n 0, 1) := by decide +kernel
theorem dX11_meet_105 : decode cX11_meet 105 = .ok (.getfield 59, 3) := by decide +kernel
theorem dX11_meet_108 : decode cX11_meet 108 = .ok (.getfield 152, 3) := by decide +kernel
theorem dX11_meet_111 : decode cX11_meet 111 = .ok (.ireturn, 1) := by decide +kernel
theorem dX11_meet_112 : decode cX11_meet 112 = .ok (.aload_n 0, 1) := by decide +kernel
theorem dX11_meet_113 : decode cX11_meet 113 = .ok (.getfield 59, 3) := by decide +kernel
theorem dX11_meet_116 : decode cX11_meet 116 = .ok (.getfield 155, 3) := by decide +kernel
theorem dX11_meet_119 : decode cX11_meet 119 = .ok (.ireturn, 1) := by decide +kernel
theorem dX11_meet_120 : decode cX11_meet 120 = .ok (.aload_n 0, 1) := by decide +kernel
theorem dX11_meet_121 : decode cX11_meet 121 = .ok (.getfield 59, 3) := by decide +kernel
theorem dX11_meet_124 : decode cX11_meet 124 = .ok (.getfield 158, 3) := by decide +kernel
theorem dX11_meet_127 : decode cX11_meet 127 = .ok (.ireturn, 1) := by decide +kernel
theorem dX11_meet_128 : decode cX11_meet 128 = .ok (.aload_n 0, 1) := by decide +kernel
theorem dX11_meet_129 : decode cX11_meet 129 = .ok (.getfield 59, 3) := by decide +kernel
theorem dX11_meet_132 : decode cX11_meet 132 = .ok (.getfield 161, 3) := by decide +kernel
theorem dX11_meet_135 : decode cX11_meet 135 = .ok (.ireturn, 1) := by decide +kernel
set_option maxRecDepth 20000 in
theorem ggX11_open_X11_protocolAt : GoodIn wsX11_open wsX11_protocolAt := goodIn_r _ [8, 9, 74, 75, 76, 77, 78, 79, 80, 81, 82, 83, 84, 85, 86] (by decide +kernel) (by decide +kernel)
set_option maxRecDepth 20000 in
theorem gX11_open_X11_protocolAt : GoodIn wsX11_open (wsV RX11 94 RX11 yX11_protocolAt wsX11_protocolAt) := goodIn_app (goodIn_of _ (by decide +kernel)) ggX11_open_X11_protocolAt
set_option maxRecDepth 20000 in
theorem ggX11_open_X11_isParty : GoodIn wsX11_open wsX11_isParty := goodIn_r _ [13] (by decide +kernel) (by decide +kernel)
set_option maxRecDepth 20000 in
theorem gX11_open_X11_isParty : GoodIn wsX11_open (wsV RX11 164 RX11 yX11_isParty wsX11_isParty) := goodIn_app (goodIn_of _ (by decide +kernel)) ggX11_open_X11_isParty
set_option maxRecDepth 20000 in
theorem ggX11_open_X2_start : GoodIn wsX11_open wsX2_start := goodIn_r _ [18, 19, 20, 21, 22, 23, 24, 25, 26, 27, 28, 29, 30, 31, 98, 99, 100, 101, 102, 103, 104, 105, 106, 107, 108, 109, 110, 111, 112, 113, 114] (by decide +kernel) (by decide +kernel)
set_option maxRecDepth 20000 in
theorem gX11_open_X2_start : GoodIn wsX11_open (wsV RX11 175 RX2 yX2_start wsX2_start) := goodIn_app (goodIn_of _ (by decide +kernel)) ggX11_open_X2_start
set_option maxRecDepth 20000 in
theorem ggX11_open_X7_turned : GoodIn wsX11_open wsX7_turned := goodIn_r _ [35, 36, 37, 29, 38, 39, 40, 41, 42, 43, 44, 45, 46, 47, 48, 49, 50, 51, 31, 52, 53, 54, 55, 56, 57, 58, 59, 60, 61, 62, 63, 64, 65, 66, 67, 68, 69, 70, 71, 72, 73, 106, 107, 108, 109, 110, 111, 112, 113, 114] (by decide +kernel) (by decide +kernel)
set_option maxRecDepth 20000 in
theorem gX11_open_X7_turned : GoodIn wsX11_open (wsV RX11 98 RX7 yX7_turned wsX7_turned) := goodIn_app (goodIn_of _ (by decide +kernel)) ggX11_open_X7_turned
theorem dX11_open_0 : decode cX11_open 0 = .ok (.aload_n 0, 1) := by decide +kernel
theorem dX11_open_1 : decode cX11_open 1 = .ok (.iload_n 1, 1) := by decide +kernel
theorem dX11_open_2 : decode cX11_open 2 = .ok (.invokevirtual 94, 3) := by decide +kernel
theorem dX11_open_5 : decode cX11_open 5 = .ok (.astore 4, 2) := by decide +kernel
theorem dX11_open_7 : decode cX11_open 7 = .ok (.aload 4, 2) := by decide +kernel
theorem dX11_open_9 : decode cX11_open 9 = .ok (.ifnull 19, 3) := by decide +kernel
theorem dX11_open_12 : decode cX11_open 12 = .ok (.aload_n 0, 1) := by decide +kernel
theorem dX11_open_13 : decode cX11_open 13 = .ok (.iload_n 2, 1) := by decide +kernel
theorem dX11_open_14 : decode cX11_open 14 = .ok (.invokevirtual 164, 3) := by decide +kernel
theorem dX11_open_17 : decode cX11_open 17 = .ok (.ifCond .eq 11, 3) := by decide +kernel
theorem dX11_open_20 : decode cX11_open 20 = .ok (.aload_n 0, 1) := by decide +kernel
theorem dX11_open_21 : decode cX11_open 21 = .ok (.iload_n 3, 1) := by decide +kernel
theorem dX11_open_22 : decode cX11_open 22 = .ok (.invokevirtual 164, 3) := by decide +kernel
theorem dX11_open_25 : decode cX11_open 25 = .ok (.ifCond .ne 5, 3) := by decide +kernel
theorem dX11_open_28 : decode cX11_open 28 = .ok (.iconst (-1), 1) := by decide +kernel
theorem dX11_open_29 : decode cX11_open 29 = .ok (.ireturn, 1) := by decide +kernel
theorem dX11_open_30 : decode cX11_open 30 = .ok (.aload_n 0, 1) := by decide +kernel
theorem dX11_open_31 : decode cX11_open 31 = .ok (.getfield 69, 3) := by decide +kernel
theorem dX11_open_34 : decode cX11_open 34 = .ok (.getfield 168, 3) := by decide +kernel
theorem dX11_open_37 : decode cX11_open 37 = .ok (.istore 5, 2) := by decide +kernel
theorem dX11_open_39 : decode cX11_open 39 = .ok (.iconst 2, 1) := by decide +kernel
theorem dX11_open_40 : decode cX11_open 40 = .ok (.iload 5, 2) := by decide +kernel
theorem dX11_open_42 : decode cX11_open 42 = .ok (.imul, 1) := by decide +kernel
theorem dX11_open_43 : decode cX11_open 43 = .ok (.istore 6, 2) := by decide +kernel
theorem dX11_open_45 : decode cX11_open 45 = .ok (.iload 5, 2) := by decide +kernel
theorem dX11_open_47 : decode cX11_open 47 = .ok (.ifCond .lt 25, 3) := by decide +kernel
theorem dX11_open_50 : decode cX11_open 50 = .ok (.iload 5, 2) := by decide +kernel
theorem dX11_open_52 : decode cX11_open 52 = .ok (.bipush 8, 2) := by decide +kernel
theorem dX11_open_54 : decode cX11_open 54 = .ok (.if_icmp .ge 18, 3) := by decide +kernel
theorem dX11_open_57 : decode cX11_open 57 = .ok (.iload 6, 2) := by decide +kernel
theorem dX11_open_59 : decode cX11_open 59 = .ok (.iconst 1, 1) := by decide +kernel
theorem dX11_open_60 : decode cX11_open 60 = .ok (.iadd, 1) := by decide +kernel
theorem dX11_open_61 : decode cX11_open 61 = .ok (.aload_n 0, 1) := by decide +kernel
theorem dX11_open_62 : decode cX11_open 62 = .ok (.getfield 69, 3) := by decide +kernel
theorem dX11_open_65 : decode cX11_open 65 = .ok (.getfield 171, 3) := by decide +kernel
