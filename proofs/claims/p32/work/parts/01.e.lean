set_option maxRecDepth 20000 in
theorem ggX8_init_X7_init : GoodIn wsX8_init wsX7_init := goodIn_r _ [13, 14, 2, 3, 8, 15, 16, 17, 18, 19, 20, 21, 22, 23, 24, 25, 26, 27, 28, 29, 30, 31] (by decide +kernel) (by decide +kernel)
set_option maxRecDepth 20000 in
theorem gX8_init_X7_init : GoodIn wsX8_init (wsX7_init) := ggX8_init_X7_init
theorem dX8_init_0 : decode cX8_init 0 = .ok (.aload_n 0, 1) := by decide +kernel
theorem dX8_init_1 : decode cX8_init 1 = .ok (.invokespecial 3, 3) := by decide +kernel
theorem dX8_init_4 : decode cX8_init 4 = .ok (.aload_n 0, 1) := by decide +kernel
theorem dX8_init_5 : decode cX8_init 5 = .ok (.new 9, 3) := by decide +kernel
theorem dX8_init_8 : decode cX8_init 8 = .ok (.dup, 1) := by decide +kernel
theorem dX8_init_9 : decode cX8_init 9 = .ok (.invokespecial 11, 3) := by decide +kernel
theorem dX8_init_12 : decode cX8_init 12 = .ok (.putfield 12, 3) := by decide +kernel
theorem dX8_init_15 : decode cX8_init 15 = .ok (.aload_n 0, 1) := by decide +kernel
theorem dX8_init_16 : decode cX8_init 16 = .ok (.bipush 60, 2) := by decide +kernel
theorem dX8_init_18 : decode cX8_init 18 = .ok (.newarray .int, 2) := by decide +kernel
theorem dX8_init_20 : decode cX8_init 20 = .ok (.putfield 18, 3) := by decide +kernel
theorem dX8_init_23 : decode cX8_init 23 = .ok (.aload_n 0, 1) := by decide +kernel
theorem dX8_init_24 : decode cX8_init 24 = .ok (.iconst 0, 1) := by decide +kernel
theorem dX8_init_25 : decode cX8_init 25 = .ok (.newarray .int, 2) := by decide +kernel
theorem dX8_init_27 : decode cX8_init 27 = .ok (.putfield 22, 3) := by decide +kernel
theorem dX8_init_30 : decode cX8_init 30 = .ok (.return_, 1) := by decide +kernel
set_option maxRecDepth 20000 in
theorem ggX8_read_X8_readTalk : GoodIn wsX8_read wsX8_readTalk := goodIn_r _ [14, 8, 15, 16, 17, 13, 18, 9, 19, 20, 21, 22, 23, 24, 25, 26, 7, 27, 28, 29, 30, 6, 1, 31, 32, 33, 34, 35, 36, 37, 38, 39, 40, 41, 42, 43, 44, 45, 46, 47, 48, 49, 50, 51, 52, 53, 54, 55, 56, 57, 58, 59, 60, 61, 62, 63, 64, 65, 66, 67, 68, 69, 70, 71, 72, 73, 74, 75, 10, 11, 12, 76, 77, 78, 79, 2, 3, 4, 5, 80, 81, 82, 83, 84, 85, 86, 87, 98, 99, 100, 101, 102, 103, 104, 105, 106, 107, 108, 109, 110, 111] (by decide +kernel) (by decide +kernel)
set_option maxRecDepth 20000 in
theorem gX8_read_X8_readTalk : GoodIn wsX8_read (wsV RX8 41 RX8 yX8_readTalk wsX8_readTalk) := goodIn_app (goodIn_of _ (by decide +kernel)) ggX8_read_X8_readTalk
set_option maxRecDepth 20000 in
theorem ggX8_read_X8_settle : GoodIn wsX8_read wsX8_settle := goodIn_r _ [91, 8, 9, 92, 41, 42, 43, 44, 45, 46, 93, 94, 95, 96, 97, 98, 99, 100, 101, 102, 103, 104, 105, 106, 107, 108, 109, 110, 111] (by decide +kernel) (by decide +kernel)
set_option maxRecDepth 20000 in
theorem gX8_read_X8_settle : GoodIn wsX8_read (wsV RX8 45 RX8 yX8_settle wsX8_settle) := goodIn_app (goodIn_of _ (by decide +kernel)) ggX8_read_X8_settle
theorem dX8_read_0 : decode cX8_read 0 = .ok (.aload_n 0, 1) := by decide +kernel
theorem dX8_read_1 : decode cX8_read 1 = .ok (.aload_n 1, 1) := by decide +kernel
theorem dX8_read_2 : decode cX8_read 2 = .ok (.putfield 22, 3) := by decide +kernel
theorem dX8_read_5 : decode cX8_read 5 = .ok (.aload_n 0, 1) := by decide +kernel
theorem dX8_read_6 : decode cX8_read 6 = .ok (.iload_n 2, 1) := by decide +kernel
theorem dX8_read_7 : decode cX8_read 7 = .ok (.aload_n 1, 1) := by decide +kernel
theorem dX8_read_8 : decode cX8_read 8 = .ok (.arraylength, 1) := by decide +kernel
theorem dX8_read_9 : decode cX8_read 9 = .ok (.invokestatic 25, 3) := by decide +kernel
theorem dX8_read_12 : decode cX8_read 12 = .ok (.putfield 31, 3) := by decide +kernel
theorem dX8_read_15 : decode cX8_read 15 = .ok (.aload_n 0, 1) := by decide +kernel
theorem dX8_read_16 : decode cX8_read 16 = .ok (.iconst 0, 1) := by decide +kernel
theorem dX8_read_17 : decode cX8_read 17 = .ok (.putfield 35, 3) := by decide +kernel
theorem dX8_read_20 : decode cX8_read 20 = .ok (.aload_n 0, 1) := by decide +kernel
theorem dX8_read_21 : decode cX8_read 21 = .ok (.getfield 12, 3) := by decide +kernel
theorem dX8_read_24 : decode cX8_read 24 = .ok (.iconst 0, 1) := by decide +kernel
theorem dX8_read_25 : decode cX8_read 25 = .ok (.putfield 38, 3) := by decide +kernel
theorem dX8_read_28 : decode cX8_read 28 = .ok (.aload_n 0, 1) := by decide +kernel
theorem dX8_read_29 : decode cX8_read 29 = .ok (.iconst (-1), 1) := by decide +kernel
theorem dX8_read_30 : decode cX8_read 30 = .ok (.iconst 0, 1) := by decide +kernel
theorem dX8_read_31 : decode cX8_read 31 = .ok (.iconst 0, 1) := by decide +kernel
theorem dX8_read_32 : decode cX8_read 32 = .ok (.invokevirtual 41, 3) := by decide +kernel
theorem dX8_read_35 : decode cX8_read 35 = .ok (.ifCond .lt 14, 3) := by decide +kernel
theorem dX8_read_38 : decode cX8_read 38 = .ok (.aload_n 0, 1) := by decide +kernel
theorem dX8_read_39 : decode cX8_read 39 = .ok (.getfield 35, 3) := by decide +kernel
theorem dX8_read_42 : decode cX8_read 42 = .ok (.aload_n 0, 1) := by decide +kernel
theorem dX8_read_43 : decode cX8_read 43 = .ok (.getfield 31, 3) := by decide +kernel
theorem dX8_read_46 : decode cX8_read 46 = .ok (.if_icmp .ge 8, 3) := by decide +kernel
theorem dX8_read_49 : decode cX8_read 49 = .ok (.aload_n 0, 1) := by decide +kernel
theorem dX8_read_50 : decode cX8_read 50 = .ok (.getfield 35, 3) := by decide +kernel
theorem dX8_read_53 : decode cX8_read 53 = .ok (.ireturn, 1) := by decide +kernel
theorem dX8_read_54 : decode cX8_read 54 = .ok (.aload_n 0, 1) := by decide +kernel
theorem dX8_read_55 : decode cX8_read 55 = .ok (.invokevirtual 45, 3) := by decide +kernel
theorem dX8_read_58 : decode cX8_read 58 = .ok (.iconst (-1), 1) := by decide +kernel
theorem dX8_read_59 : decode cX8_read 59 = .ok (.ireturn, 1) := by decide +kernel
set_option maxRecDepth 20000 in
theorem ggX8_readTalk_X8_readHead : GoodIn wsX8_readTalk wsX8_readHead := goodIn_r _ [6, 1, 7, 8, 9, 10, 11, 12, 13, 14, 15, 16, 17, 18, 19, 5, 20, 21, 22, 23, 24, 25, 26, 27, 28, 29, 30, 31, 32, 33, 34, 35, 36, 37, 38, 39, 40, 41, 42, 43, 87, 88, 89, 90, 91, 92, 93, 94, 95, 96, 97, 98, 99, 100] (by decide +kernel) (by decide +kernel)
set_option maxRecDepth 20000 in
theorem gX8_readTalk_X8_readHead : GoodIn wsX8_readTalk (wsV RX8 48 RX8 yX8_readHead wsX8_readHead) := goodIn_app (goodIn_of _ (by decide +kernel)) ggX8_readTalk_X8_readHead
set_option maxRecDepth 20000 in
theorem ggX8_readTalk_X8_link : GoodIn wsX8_readTalk wsX8_link := goodIn_r _ [47, 1, 14, 87, 88, 89, 90, 91, 92, 93, 94, 95, 96, 97, 98, 99, 100] (by decide +kernel) (by decide +kernel)
set_option maxRecDepth 20000 in
theorem gX8_readTalk_X8_link : GoodIn wsX8_readTalk (wsV RX8 51 RX8 yX8_link wsX8_link) := goodIn_app (goodIn_of _ (by decide +kernel)) ggX8_readTalk_X8_link
set_option maxRecDepth 20000 in
theorem ggX8_readTalk_X7_kindOf : GoodIn wsX8_readTalk wsX7_kindOf := goodIn_r _ [37, 38, 92, 93, 94, 95, 96, 97, 98, 99, 100] (by decide +kernel) (by decide +kernel)
set_option maxRecDepth 20000 in
theorem gX8_readTalk_X7_kindOf : GoodIn wsX8_readTalk (wsV RX8 55 RX7 yX7_kindOf wsX7_kindOf) := goodIn_app (goodIn_of _ (by decide +kernel)) ggX8_readTalk_X7_kindOf
set_option maxRecDepth 20000 in
theorem ggX8_readTalk_X8_readBraces : GoodIn wsX8_readTalk wsX8_readBraces := goodIn_r _ [62, 16, 1, 17, 18, 19, 5, 20, 21, 22, 26, 27, 28, 63, 64, 65, 36, 66, 67, 55, 56, 57, 58, 68, 69, 70, 71, 72, 73, 74, 11, 75, 76, 77, 78, 14, 79, 80, 81, 82, 83, 84, 85, 86, 9, 13, 0, 2, 3, 4, 6, 7, 8, 10, 12, 15, 23, 24, 25, 29, 30, 31, 32, 33, 34, 35, 37, 38, 39, 40, 41, 42, 43, 44, 45, 46, 47, 48, 49, 50, 51, 52, 53, 54, 59, 60, 61, 87, 88, 89, 90, 91, 92, 93, 94, 95, 96, 97, 98, 99, 100] (by decide +kernel) (by decide +kernel)
set_option maxRecDepth 20000 in
theorem gX8_readTalk_X8_readBraces : GoodIn wsX8_readTalk (wsV RX8 59 RX8 yX8_readBraces wsX8_readBraces) := goodIn_app (goodIn_of _ (by decide +kernel)) ggX8_readTalk_X8_readBraces
set_option maxRecDepth 20000 in
theorem ggX8_readTalk_X8_readLoop : GoodIn wsX8_readTalk wsX8_readLoop := goodIn_r _ [54, 1, 10, 16, 17, 18, 19, 5, 20, 21, 22, 26, 27, 28, 55, 56, 57, 58, 87, 88, 89, 90, 91, 92, 93, 94, 95, 96, 97, 98, 99, 100] (by decide +kernel) (by decide +kernel)
set_option maxRecDepth 20000 in
theorem gX8_readTalk_X8_readLoop : GoodIn wsX8_readTalk (wsV RX8 63 RX8 yX8_readLoop wsX8_readLoop) := goodIn_app (goodIn_of _ (by decide +kernel)) ggX8_readTalk_X8_readLoop
set_option maxRecDepth 20000 in
theorem ggX8_readTalk_X8_readSort : GoodIn wsX8_readTalk wsX8_readSort := goodIn_r _ [86, 1, 9, 16, 13, 17, 18, 19, 5, 20, 21, 22, 68, 69, 70, 55, 56, 57, 58, 62, 26, 27, 28, 63, 64, 65, 36, 66, 67, 71, 72, 73, 74, 11, 75, 76, 77, 78, 14, 79, 80, 81, 82, 83, 84, 85, 0, 2, 3, 4, 6, 7, 8, 10, 12, 15, 23, 24, 25, 29, 30, 31, 32, 33, 34, 35, 37, 38, 39, 40, 41, 42, 43, 44, 45, 46, 47, 48, 49, 50, 51, 52, 53, 54, 59, 60, 61, 87, 88, 89, 90, 91, 92, 93, 94, 95, 96, 97, 98, 99, 100] (by decide +kernel) (by decide +kernel)
set_option maxRecDepth 20000 in
theorem gX8_readTalk_X8_readSort : GoodIn wsX8_readTalk (wsV RX8 67 RX8 yX8_readSort wsX8_readSort) := goodIn_app (goodIn_of _ (by decide +kernel)) ggX8_readTalk_X8_readSort
theorem dX8_readTalk_0 : decode cX8_readTalk 0 = .ok (.iconst (-1), 1) := by decide +kernel
theorem dX8_readTalk_1 : decode cX8_readTalk 1 = .ok (.istore 4, 2) := by decide +kernel
theorem dX8_readTalk_3 : decode cX8_readTalk 3 = .ok (.iload_n 1, 1) := by decide +kernel
theorem dX8_readTalk_4 : decode cX8_readTalk 4 = .ok (.istore 5, 2) := by decide +kernel
theorem dX8_readTalk_6 : decode cX8_readTalk 6 = .ok (.iconst 0, 1) := by decide +kernel
theorem dX8_readTalk_7 : decode cX8_readTalk 7 = .ok (.istore 6, 2) := by decide +kernel
theorem dX8_readTalk_9 : decode cX8_readTalk 9 = .ok (.iload 6, 2) := by decide +kernel
theorem dX8_readTalk_11 : decode cX8_readTalk 11 = .ok (.bipush 60, 2) := by decide +kernel
theorem dX8_readTalk_13 : decode cX8_readTalk 13 = .ok (.if_icmp .ge 146, 3) := by decide +kernel
theorem dX8_readTalk_16 : decode cX8_readTalk 16 = .ok (.aload_n 0, 1) := by decide +kernel
theorem dX8_readTalk_17 : decode cX8_readTalk 17 = .ok (.iload 5, 2) := by decide +kernel
theorem dX8_readTalk_19 : decode cX8_readTalk 19 = .ok (.iload_n 3, 1) := by decide +kernel
theorem dX8_readTalk_20 : decode cX8_readTalk 20 = .ok (.invokevirtual 48, 3) := by decide +kernel
theorem dX8_readTalk_23 : decode cX8_readTalk 23 = .ok (.istore 7, 2) := by decide +kernel
theorem dX8_readTalk_25 : decode cX8_readTalk 25 = .ok (.iload 7, 2) := by decide +kernel
theorem dX8_readTalk_27 : decode cX8_readTalk 27 = .ok (.ifCond .ge 5, 3) := by decide +kernel
theorem dX8_readTalk_30 : decode cX8_readTalk 30 = .ok (.iconst (-1), 1) := by decide +kernel
theorem dX8_readTalk_31 : decode cX8_readTalk 31 = .ok (.ireturn, 1) := by decide +kernel
theorem dX8_readTalk_32 : decode cX8_readTalk 32 = .ok (.iload 4, 2) := by decide +kernel
theorem dX8_readTalk_34 : decode cX8_readTalk 34 = .ok (.ifCond .ge 10, 3) := by decide +kernel
theorem dX8_readTalk_37 : decode cX8_readTalk 37 = .ok (.iload 7, 2) := by decide +kernel
theorem dX8_readTalk_39 : decode cX8_readTalk 39 = .ok (.istore 4, 2) := by decide +kernel
theorem dX8_readTalk_41 : decode cX8_readTalk 41 = .ok (.goto 11, 3) := by decide +kernel
theorem dX8_readTalk_44 : decode cX8_readTalk 44 = .ok (.aload_n 0, 1) := by decide +kernel
theorem dX8_readTalk_45 : decode cX8_readTalk 45 = .ok (.iload 5, 2) := by decide +kernel
theorem dX8_readTalk_47 : decode cX8_readTalk 47 = .ok (.iload 7, 2) := by decide +kernel
theorem dX8_readTalk_49 : decode cX8_readTalk 49 = .ok (.invokevirtual 51, 3) := by decide +kernel
theorem dX8_readTalk_52 : decode cX8_readTalk 52 = .ok (.iload 7, 2) := by decide +kernel
theorem dX8_readTalk_54 : decode cX8_readTalk 54 = .ok (.istore 5, 2) := by decide +kernel
theorem dX8_readTalk_56 : decode cX8_readTalk 56 = .ok (.aload_n 0, 1) := by decide +kernel
theorem dX8_readTalk_57 : decode cX8_readTalk 57 = .ok (.getfield 12, 3) := by decide +kernel
theorem dX8_readTalk_60 : decode cX8_readTalk 60 = .ok (.iload 7, 2) := by decide +kernel
theorem dX8_readTalk_62 : decode cX8_readTalk 62 = .ok (.invokevirtual 55, 3) := by decide +kernel
theorem dX8_readTalk_65 : decode cX8_readTalk 65 = .ok (.tableswitch 75 0 6 #[43, 75, 75, 46, 46, 64, 43], 43) := by decide +kernel
theorem dX8_readTalk_108 : decode cX8_readTalk 108 = .ok (.iload 4, 2) := by decide +kernel
theorem dX8_readTalk_110 : decode cX8_readTalk 110 = .ok (.ireturn, 1) := by decide +kernel
theorem dX8_readTalk_111 : decode cX8_readTalk 111 = .ok (.aload_n 0, 1) := by decide +kernel
theorem dX8_readTalk_112 : decode cX8_readTalk 112 = .ok (.iload 7, 2) := by decide +kernel
theorem dX8_readTalk_114 : decode cX8_readTalk 114 = .ok (.iload_n 2, 1) := by decide +kernel
theorem dX8_readTalk_115 : decode cX8_readTalk 115 = .ok (.iload_n 3, 1) := by decide +kernel
theorem dX8_readTalk_116 : decode cX8_readTalk 116 = .ok (.invokevirtual 59, 3) := by decide +kernel
theorem dX8_readTalk_119 : decode cX8_readTalk 119 = .ok (.ifCond .eq 8, 3) := by decide +kernel
theorem dX8_readTalk_122 : decode cX8_readTalk 122 = .ok (.iload 4, 2) := by decide +kernel
theorem dX8_readTalk_124 : decode cX8_readTalk 124 = .ok (.goto 4, 3) := by decide +kernel
theorem dX8_readTalk_127 : decode cX8_readTalk 127 = .ok (.iconst (-1), 1) := by decide +kernel
theorem dX8_readTalk_128 : decode cX8_readTalk 128 = .ok (.ireturn, 1) := by decide +kernel
theorem dX8_readTalk_129 : decode cX8_readTalk 129 = .ok (.aload_n 0, 1) := by decide +kernel
theorem dX8_readTalk_130 : decode cX8_readTalk 130 = .ok (.iload 7, 2) := by decide +kernel
theorem dX8_readTalk_132 : decode cX8_readTalk 132 = .ok (.invokevirtual 63, 3) := by decide +kernel
theorem dX8_readTalk_135 : decode cX8_readTalk 135 = .ok (.ifCond .ne 18, 3) := by decide +kernel
theorem dX8_readTalk_138 : decode cX8_readTalk 138 = .ok (.iconst (-1), 1) := by decide +kernel
theorem dX8_readTalk_139 : decode cX8_readTalk 139 = .ok (.ireturn, 1) := by decide +kernel
theorem dX8_readTalk_140 : decode cX8_readTalk 140 = .ok (.aload_n 0, 1) := by decide +kernel
theorem dX8_readTalk_141 : decode cX8_readTalk 141 = .ok (.iload 7, 2) := by decide +kernel
theorem dX8_readTalk_143 : decode cX8_readTalk 143 = .ok (.iload_n 2, 1) := by decide +kernel
theorem dX8_readTalk_144 : decode cX8_readTalk 144 = .ok (.iload_n 3, 1) := by decide +kernel
theorem dX8_readTalk_145 : decode cX8_readTalk 145 = .ok (.invokevirtual 67, 3) := by decide +kernel
theorem dX8_readTalk_148 : decode cX8_readTalk 148 = .ok (.ifCond .ne 5, 3) := by decide +kernel
theorem dX8_readTalk_151 : decode cX8_readTalk 151 = .ok (.iconst (-1), 1) := by decide +kernel
theorem dX8_readTalk_152 : decode cX8_readTalk 152 = .ok (.ireturn, 1) := by decide +kernel
theorem dX8_readTalk_153 : decode cX8_readTalk 153 = .ok (.iinc 6 1, 3) := by decide +kernel
theorem dX8_readTalk_156 : decode cX8_readTalk 156 = .ok (.goto (-147), 3) := by decide +kernel
theorem dX8_readTalk_159 : decode cX8_readTalk 159 = .ok (.iconst (-1), 1) := by decide +kernel
theorem dX8_readTalk_160 : decode cX8_readTalk 160 = .ok (.ireturn, 1) := by decide +kernel
set_option maxRecDepth 20000 in
theorem ggX8_readHead_X8_sign : GoodIn wsX8_readHead wsX8_sign := goodIn_r _ [16, 11, 17, 18, 40, 41, 42, 43, 44] (by decide +kernel) (by decide +kernel)
set_option maxRecDepth 20000 in
theorem gX8_readHead_X8_sign : GoodIn wsX8_readHead (wsV RX8 70 RX8 yX8_sign wsX8_sign) := goodIn_app (goodIn_of _ (by decide +kernel)) ggX8_readHead_X8_sign
set_option maxRecDepth 20000 in
theorem ggX8_readHead_X8_kindBySign : GoodIn wsX8_readHead wsX8_kindBySign := goodIn_r _ [21, 22, 23, 15, 24] (by decide +kernel) (by decide +kernel)
set_option maxRecDepth 20000 in
theorem gX8_readHead_X8_kindBySign : GoodIn wsX8_readHead (va_wsS RX8 74 yX8_kindBySign wsX8_kindBySign) := goodIn_app (goodIn_of _ (by decide +kernel)) ggX8_readHead_X8_kindBySign
set_option maxRecDepth 20000 in
theorem ggX8_readHead_X8_loopAround : GoodIn wsX8_readHead wsX8_loopAround := goodIn_r _ [28, 1, 10, 29, 30, 31, 32, 33, 34, 35, 36, 37, 38, 39, 40, 41, 42, 43, 44, 45, 46, 47, 48, 49, 50, 51, 52, 53] (by decide +kernel) (by decide +kernel)
set_option maxRecDepth 20000 in
theorem gX8_readHead_X8_loopAround : GoodIn wsX8_readHead (wsV RX8 77 RX8 yX8_loopAround wsX8_loopAround) := goodIn_app (goodIn_of _ (by decide +kernel)) ggX8_readHead_X8_loopAround
theorem dX8_readHead_0 : decode cX8_readHead 0 = .ok (.aload_n 0, 1) := by decide +kernel
theorem dX8_readHead_1 : decode cX8_readHead 1 = .ok (.invokevirtual 70, 3) := by decide +kernel
theorem dX8_readHead_4 : decode cX8_readHead 4 = .ok (.istore_n 3, 1) := by decide +kernel
theorem dX8_readHead_5 : decode cX8_readHead 5 = .ok (.iload_n 3, 1) := by decide +kernel
theorem dX8_readHead_6 : decode cX8_readHead 6 = .ok (.invokestatic 74, 3) := by decide +kernel
theorem dX8_readHead_9 : decode cX8_readHead 9 = .ok (.istore 4, 2) := by decide +kernel
theorem dX8_readHead_11 : decode cX8_readHead 11 = .ok (.aload_n 0, 1) := by decide +kernel
theorem dX8_readHead_12 : decode cX8_readHead 12 = .ok (.getfield 12, 3) := by decide +kernel
theorem dX8_readHead_15 : decode cX8_readHead 15 = .ok (.getfield 38, 3) := by decide +kernel
theorem dX8_readHead_18 : decode cX8_readHead 18 = .ok (.istore 5, 2) := by decide +kernel
theorem dX8_readHead_20 : decode cX8_readHead 20 = .ok (.iload 4, 2) := by decide +kernel
theorem dX8_readHead_22 : decode cX8_readHead 22 = .ok (.ifCond .lt 15, 3) := by decide +kernel
theorem dX8_readHead_25 : decode cX8_readHead 25 = .ok (.iload 5, 2) := by decide +kernel
theorem dX8_readHead_27 : decode cX8_readHead 27 = .ok (.ifCond .lt 10, 3) := by decide +kernel
theorem dX8_readHead_30 : decode cX8_readHead 30 = .ok (.iload 5, 2) := by decide +kernel
theorem dX8_readHead_32 : decode cX8_readHead 32 = .ok (.bipush 60, 2) := by decide +kernel
theorem dX8_readHead_34 : decode cX8_readHead 34 = .ok (.if_icmp .lt 5, 3) := by decide +kernel
theorem dX8_readHead_37 : decode cX8_readHead 37 = .ok (.iconst (-1), 1) := by decide +kernel
theorem dX8_readHead_38 : decode cX8_readHead 38 = .ok (.ireturn, 1) := by decide +kernel
theorem dX8_readHead_39 : decode cX8_readHead 39 = .ok (.iload 4, 2) := by decide +kernel
theorem dX8_readHead_41 : decode cX8_readHead 41 = .ok (.bipush 6, 2) := by decide +kernel
theorem dX8_readHead_43 : decode cX8_readHead 43 = .ok (.if_icmp .ne 12, 3) := by decide +kernel
theorem dX8_readHead_46 : decode cX8_readHead 46 = .ok (.aload_n 0, 1) := by decide +kernel
theorem dX8_readHead_47 : decode cX8_readHead 47 = .ok (.iload_n 1, 1) := by decide +kernel
theorem dX8_readHead_48 : decode cX8_readHead 48 = .ok (.iload_n 3, 1) := by decide +kernel
theorem dX8_readHead_49 : decode cX8_readHead 49 = .ok (.invokevirtual 77, 3) := by decide +kernel
theorem dX8_readHead_52 : decode cX8_readHead 52 = .ok (.goto 4, 3) := by decide +kernel
theorem dX8_readHead_55 : decode cX8_readHead 55 = .ok (.iconst (-1), 1) := by decide +kernel
theorem dX8_readHead_56 : decode cX8_readHead 56 = .ok (.istore 6, 2) := by decide +kernel
theorem dX8_readHead_58 : decode cX8_readHead 58 = .ok (.iload 4, 2) := by decide +kernel
theorem dX8_readHead_60 : decode cX8_readHead 60 = .ok (.bipush 6, 2) := by decide +kernel
theorem dX8_readHead_62 : decode cX8_readHead 62 = .ok (.if_icmp .ne 10, 3) := by decide +kernel
theorem dX8_readHead_65 : decode cX8_readHead 65 = .ok (.iload 6, 2) := by decide +kernel
theorem dX8_readHead_67 : decode cX8_readHead 67 = .ok (.ifCond .ge 5, 3) := by decide +kernel
theorem dX8_readHead_70 : decode cX8_readHead 70 = .ok (.iconst (-1), 1) := by decide +kernel
theorem dX8_readHead_71 : decode cX8_readHead 71 = .ok (.ireturn, 1) := by decide +kernel
theorem dX8_readHead_72 : decode cX8_readHead 72 = .ok (.aload_n 0, 1) := by decide +kernel
theorem dX8_readHead_73 : decode cX8_readHead 73 = .ok (.getfield 12, 3) := by decide +kernel
theorem dX8_readHead_76 : decode cX8_readHead 76 = .ok (.getfield 80, 3) := by decide +kernel
theorem dX8_readHead_79 : decode cX8_readHead 79 = .ok (.iload 5, 2) := by decide +kernel
theorem dX8_readHead_81 : decode cX8_readHead 81 = .ok (.iload 4, 2) := by decide +kernel
theorem dX8_readHead_83 : decode cX8_readHead 83 = .ok (.iastore, 1) := by decide +kernel
theorem dX8_readHead_84 : decode cX8_readHead 84 = .ok (.aload_n 0, 1) := by decide +kernel
theorem dX8_readHead_85 : decode cX8_readHead 85 = .ok (.getfield 12, 3) := by decide +kernel
theorem dX8_readHead_88 : decode cX8_readHead 88 = .ok (.getfield 83, 3) := by decide +kernel
theorem dX8_readHead_91 : decode cX8_readHead 91 = .ok (.iload 5, 2) := by decide +kernel
theorem dX8_readHead_93 : decode cX8_readHead 93 = .ok (.iconst 0, 1) := by decide +kernel
theorem dX8_readHead_94 : decode cX8_readHead 94 = .ok (.iastore, 1) := by decide +kernel
theorem dX8_readHead_95 : decode cX8_readHead 95 = .ok (.aload_n 0, 1) := by decide +kernel
theorem dX8_readHead_96 : decode cX8_readHead 96 = .ok (.getfield 12, 3) := by decide +kernel
theorem dX8_readHead_99 : decode cX8_readHead 99 = .ok (.getfield 86, 3) := by decide +kernel
theorem dX8_readHead_102 : decode cX8_readHead 102 = .ok (.iload 5, 2) := by decide +kernel
theorem dX8_readHead_104 : decode cX8_readHead 104 = .ok (.iload 4, 2) := by decide +kernel
theorem dX8_readHead_106 : decode cX8_readHead 106 = .ok (.bipush 6, 2) := by decide +kernel
theorem dX8_readHead_108 : decode cX8_readHead 108 = .ok (.if_icmp .ne 7, 3) := by decide +kernel
theorem dX8_readHead_111 : decode cX8_readHead 111 = .ok (.iload_n 3, 1) := by decide +kernel
theorem dX8_readHead_112 : decode cX8_readHead 112 = .ok (.goto 4, 3) := by decide +kernel
theorem dX8_readHead_115 : decode cX8_readHead 115 = .ok (.iconst 0, 1) := by decide +kernel
theorem dX8_readHead_116 : decode cX8_readHead 116 = .ok (.iastore, 1) := by decide +kernel
theorem dX8_readHead_117 : decode cX8_readHead 117 = .ok (.aload_n 0, 1) := by decide +kernel
theorem dX8_readHead_118 : decode cX8_readHead 118 = .ok (.getfield 12, 3) := by decide +kernel
theorem dX8_readHead_121 : decode cX8_readHead 121 = .ok (.getfield 89, 3) := by decide +kernel
theorem dX8_readHead_124 : decode cX8_readHead 124 = .ok (.iload 5, 2) := by decide +kernel
theorem dX8_readHead_126 : decode cX8_readHead 126 = .ok (.iconst 0, 1) := by decide +kernel
theorem dX8_readHead_127 : decode cX8_readHead 127 = .ok (.iastore, 1) := by decide +kernel
theorem dX8_readHead_128 : decode cX8_readHead 128 = .ok (.aload_n 0, 1) := by decide +kernel
theorem dX8_readHead_129 : decode cX8_readHead 129 = .ok (.getfield 12, 3) := by decide +kernel
theorem dX8_readHead_132 : decode cX8_readHead 132 = .ok (.getfield 92, 3) := by decide +kernel
theorem dX8_readHead_135 : decode cX8_readHead 135 = .ok (.iload 5, 2) := by decide +kernel
theorem dX8_readHead_137 : decode cX8_readHead 137 = .ok (.iload_n 2, 1) := by decide +kernel
theorem dX8_readHead_138 : decode cX8_readHead 138 = .ok (.iastore, 1) := by decide +kernel
theorem dX8_readHead_139 : decode cX8_readHead 139 = .ok (.aload_n 0, 1) := by decide +kernel
theorem dX8_readHead_140 : decode cX8_readHead 140 = .ok (.getfield 12, 3) := by decide +kernel
theorem dX8_readHead_143 : decode cX8_readHead 143 = .ok (.getfield 95, 3) := by decide +kernel
theorem dX8_readHead_146 : decode cX8_readHead 146 = .ok (.iload 5, 2) := by decide +kernel
theorem dX8_readHead_148 : decode cX8_readHead 148 = .ok (.iconst (-1), 1) := by decide +kernel
theorem dX8_readHead_149 : decode cX8_readHead 149 = .ok (.iastore, 1) := by decide +kernel
theorem dX8_readHead_150 : decode cX8_readHead 150 = .ok (.aload_n 0, 1) := by decide +kernel
theorem dX8_readHead_151 : decode cX8_readHead 151 = .ok (.getfield 12, 3) := by decide +kernel
theorem dX8_readHead_154 : decode cX8_readHead 154 = .ok (.getfield 98, 3) := by decide +kernel
theorem dX8_readHead_157 : decode cX8_readHead 157 = .ok (.iload 5, 2) := by decide +kernel
theorem dX8_readHead_159 : decode cX8_readHead 159 = .ok (.bipush 6, 2) := by decide +kernel
theorem dX8_readHead_161 : decode cX8_readHead 161 = .ok (.imul, 1) := by decide +kernel
theorem dX8_readHead_162 : decode cX8_readHead 162 = .ok (.iload 6, 2) := by decide +kernel
theorem dX8_readHead_164 : decode cX8_readHead 164 = .ok (.iastore, 1) := by decide +kernel
theorem dX8_readHead_165 : decode cX8_readHead 165 = .ok (.aload_n 0, 1) := by decide +kernel
theorem dX8_readHead_166 : decode cX8_readHead 166 = .ok (.getfield 18, 3) := by decide +kernel
theorem dX8_readHead_169 : decode cX8_readHead 169 = .ok (.iload 5, 2) := by decide +kernel
theorem dX8_readHead_171 : decode cX8_readHead 171 = .ok (.iload_n 1, 1) := by decide +kernel
theorem dX8_readHead_172 : decode cX8_readHead 172 = .ok (.iastore, 1) := by decide +kernel
theorem dX8_readHead_173 : decode cX8_readHead 173 = .ok (.aload_n 0, 1) := by decide +kernel
theorem dX8_readHead_174 : decode cX8_readHead 174 = .ok (.getfield 12, 3) := by decide +kernel
theorem dX8_readHead_177 : decode cX8_readHead 177 = .ok (.iload 5, 2) := by decide +kernel
theorem dX8_readHead_179 : decode cX8_readHead 179 = .ok (.iconst 1, 1) := by decide +kernel
theorem dX8_readHead_180 : decode cX8_readHead 180 = .ok (.iadd, 1) := by decide +kernel
theorem dX8_readHead_181 : decode cX8_readHead 181 = .ok (.putfield 38, 3) := by decide +kernel
theorem dX8_readHead_184 : decode cX8_readHead 184 = .ok (.aload_n 0, 1) := by decide +kernel
theorem dX8_readHead_185 : decode cX8_readHead 185 = .ok (.dup, 1) := by decide +kernel
theorem dX8_readHead_186 : decode cX8_readHead 186 = .ok (.getfield 35, 3) := by decide +kernel
theorem dX8_readHead_189 : decode cX8_readHead 189 = .ok (.iconst 1, 1) := by decide +kernel
theorem dX8_readHead_190 : decode cX8_readHead 190 = .ok (.iadd, 1) := by decide +kernel
theorem dX8_readHead_191 : decode cX8_readHead 191 = .ok (.putfield 35, 3) := by decide +kernel
theorem dX8_readHead_194 : decode cX8_readHead 194 = .ok (.iload 5, 2) := by decide +kernel
theorem dX8_readHead_196 : decode cX8_readHead 196 = .ok (.ireturn, 1) := by decide +kernel
set_option maxRecDepth 20000 in
theorem ggX8_kindBySign_X8_isLetter : GoodIn wsX8_kindBySign wsX8_isLetter := goodIn_r _ [4] (by decide +kernel) (by decide +kernel)
set_option maxRecDepth 20000 in
theorem gX8_kindBySign_X8_isLetter : GoodIn wsX8_kindBySign (va_wsS RX8 101 yX8_isLetter wsX8_isLetter) := goodIn_app (goodIn_of _ (by decide +kernel)) ggX8_kindBySign_X8_isLetter
theorem dX8_kindBySign_0 : decode cX8_kindBySign 0 = .ok (.iload_n 0, 1) := by decide +kernel
theorem dX8_kindBySign_1 : decode cX8_kindBySign 1 = .ok (.lookupswitch 71 #[(33, 61), (38, 67), (42, 69), (43, 65), (48, 59), (63, 63)], 59) := by decide +kernel
theorem dX8_kindBySign_60 : decode cX8_kindBySign 60 = .ok (.iconst 0, 1) := by decide +kernel
theorem dX8_kindBySign_61 : decode cX8_kindBySign 61 = .ok (.ireturn, 1) := by decide +kernel
theorem dX8_kindBySign_62 : decode cX8_kindBySign 62 = .ok (.iconst 1, 1) := by decide +kernel
theorem dX8_kindBySign_63 : decode cX8_kindBySign 63 = .ok (.ireturn, 1) := by decide +kernel
theorem dX8_kindBySign_64 : decode cX8_kindBySign 64 = .ok (.iconst 2, 1) := by decide +kernel
theorem dX8_kindBySign_65 : decode cX8_kindBySign 65 = .ok (.ireturn, 1) := by decide +kernel
theorem dX8_kindBySign_66 : decode cX8_kindBySign 66 = .ok (.iconst 3, 1) := by decide +kernel
theorem dX8_kindBySign_67 : decode cX8_kindBySign 67 = .ok (.ireturn, 1) := by decide +kernel
theorem dX8_kindBySign_68 : decode cX8_kindBySign 68 = .ok (.iconst 4, 1) := by decide +kernel
theorem dX8_kindBySign_69 : decode cX8_kindBySign 69 = .ok (.ireturn, 1) := by decide +kernel
theorem dX8_kindBySign_70 : decode cX8_kindBySign 70 = .ok (.iconst 5, 1) := by decide +kernel
theorem dX8_kindBySign_71 : decode cX8_kindBySign 71 = .ok (.ireturn, 1) := by decide +kernel
theorem dX8_kindBySign_72 : decode cX8_kindBySign 72 = .ok (.iload_n 0, 1) := by decide +kernel
theorem dX8_kindBySign_73 : decode cX8_kindBySign 73 = .ok (.invokestatic 101, 3) := by decide +kernel
theorem dX8_kindBySign_76 : decode cX8_kindBySign 76 = .ok (.ifCond .eq 8, 3) := by decide +kernel
theorem dX8_kindBySign_79 : decode cX8_kindBySign 79 = .ok (.bipush 6, 2) := by decide +kernel
theorem dX8_kindBySign_81 : decode cX8_kindBySign 81 = .ok (.goto 4, 3) := by decide +kernel
theorem dX8_kindBySign_84 : decode cX8_kindBySign 84 = .ok (.iconst (-1), 1) := by decide +kernel
theorem dX8_kindBySign_85 : decode cX8_kindBySign 85 = .ok (.ireturn, 1) := by decide +kernel
set_option maxRecDepth 20000 in
theorem ggX8_loopAround_X7_kindOf : GoodIn wsX8_loopAround wsX7_kindOf := goodIn_r _ [7, 8, 19, 20, 21, 22, 23, 24, 25, 26, 27] (by decide +kernel) (by decide +kernel)
set_option maxRecDepth 20000 in
theorem gX8_loopAround_X7_kindOf : GoodIn wsX8_loopAround (wsV RX8 55 RX7 yX7_kindOf wsX7_kindOf) := goodIn_app (goodIn_of _ (by decide +kernel)) ggX8_loopAround_X7_kindOf
set_option maxRecDepth 20000 in
theorem ggX8_loopAround_X7_letterOf : GoodIn wsX8_loopAround wsX7_letterOf := goodIn_r _ [12, 13, 19, 20, 21, 22, 23, 24, 25, 26, 27] (by decide +kernel) (by decide +kernel)
set_option maxRecDepth 20000 in
theorem gX8_loopAround_X7_letterOf : GoodIn wsX8_loopAround (wsV RX8 104 RX7 yX7_letterOf wsX7_letterOf) := goodIn_app (goodIn_of _ (by decide +kernel)) ggX8_loopAround_X7_letterOf
theorem dX8_loopAround_0 : decode cX8_loopAround 0 = .ok (.iconst 0, 1) := by decide +kernel
theorem dX8_loopAround_1 : decode cX8_loopAround 1 = .ok (.istore_n 3, 1) := by decide +kernel
theorem dX8_loopAround_2 : decode cX8_loopAround 2 = .ok (.iload_n 1, 1) := by decide +kernel
theorem dX8_loopAround_3 : decode cX8_loopAround 3 = .ok (.istore 4, 2) := by decide +kernel
theorem dX8_loopAround_5 : decode cX8_loopAround 5 = .ok (.iconst 0, 1) := by decide +kernel
theorem dX8_loopAround_6 : decode cX8_loopAround 6 = .ok (.istore 5, 2) := by decide +kernel
theorem dX8_loopAround_8 : decode cX8_loopAround 8 = .ok (.iload 5, 2) := by decide +kernel
theorem dX8_loopAround_10 : decode cX8_loopAround 10 = .ok (.bipush 60, 2) := by decide +kernel
theorem dX8_loopAround_12 : decode cX8_loopAround 12 = .ok (.if_icmp .ge 86, 3) := by decide +kernel
theorem dX8_loopAround_15 : decode cX8_loopAround 15 = .ok (.iload 4, 2) := by decide +kernel
theorem dX8_loopAround_17 : decode cX8_loopAround 17 = .ok (.ifCond .lt 81, 3) := by decide +kernel
theorem dX8_loopAround_20 : decode cX8_loopAround 20 = .ok (.iload 4, 2) := by decide +kernel
theorem dX8_loopAround_22 : decode cX8_loopAround 22 = .ok (.bipush 60, 2) := by decide +kernel
theorem dX8_loopAround_24 : decode cX8_loopAround 24 = .ok (.if_icmp .ge 74, 3) := by decide +kernel
theorem dX8_loopAround_27 : decode cX8_loopAround 27 = .ok (.aload_n 0, 1) := by decide +kernel
theorem dX8_loopAround_28 : decode cX8_loopAround 28 = .ok (.getfield 12, 3) := by decide +kernel
theorem dX8_loopAround_31 : decode cX8_loopAround 31 = .ok (.iload 4, 2) := by decide +kernel
theorem dX8_loopAround_33 : decode cX8_loopAround 33 = .ok (.invokevirtual 55, 3) := by decide +kernel
theorem dX8_loopAround_36 : decode cX8_loopAround 36 = .ok (.iconst 5, 1) := by decide +kernel
theorem dX8_loopAround_37 : decode cX8_loopAround 37 = .ok (.if_icmp .ne 7, 3) := by decide +kernel
theorem dX8_loopAround_40 : decode cX8_loopAround 40 = .ok (.iconst 1, 1) := by decide +kernel
theorem dX8_loopAround_41 : decode cX8_loopAround 41 = .ok (.goto 4, 3) := by decide +kernel
theorem dX8_loopAround_44 : decode cX8_loopAround 44 = .ok (.iconst 0, 1) := by decide +kernel
theorem dX8_loopAround_45 : decode cX8_loopAround 45 = .ok (.istore 6, 2) := by decide +kernel
theorem dX8_loopAround_47 : decode cX8_loopAround 47 = .ok (.iload 6, 2) := by decide +kernel
theorem dX8_loopAround_49 : decode cX8_loopAround 49 = .ok (.ifCond .eq 27, 3) := by decide +kernel
theorem dX8_loopAround_52 : decode cX8_loopAround 52 = .ok (.aload_n 0, 1) := by decide +kernel
theorem dX8_loopAround_53 : decode cX8_loopAround 53 = .ok (.getfield 12, 3) := by decide +kernel
theorem dX8_loopAround_56 : decode cX8_loopAround 56 = .ok (.iload 4, 2) := by decide +kernel
theorem dX8_loopAround_58 : decode cX8_loopAround 58 = .ok (.invokevirtual 104, 3) := by decide +kernel
theorem dX8_loopAround_61 : decode cX8_loopAround 61 = .ok (.iload_n 2, 1) := by decide +kernel
theorem dX8_loopAround_62 : decode cX8_loopAround 62 = .ok (.if_icmp .ne 14, 3) := by decide +kernel
theorem dX8_loopAround_65 : decode cX8_loopAround 65 = .ok (.iload_n 3, 1) := by decide +kernel
theorem dX8_loopAround_66 : decode cX8_loopAround 66 = .ok (.ifCond .eq 8, 3) := by decide +kernel
theorem dX8_loopAround_69 : decode cX8_loopAround 69 = .ok (.iload 4, 2) := by decide +kernel
theorem dX8_loopAround_71 : decode cX8_loopAround 71 = .ok (.goto 4, 3) := by decide +kernel
theorem dX8_loopAround_74 : decode cX8_loopAround 74 = .ok (.iconst (-1), 1) := by decide +kernel
theorem dX8_loopAround_75 : decode cX8_loopAround 75 = .ok (.ireturn, 1) := by decide +kernel
theorem dX8_loopAround_76 : decode cX8_loopAround 76 = .ok (.iload 6, 2) := by decide +kernel
theorem dX8_loopAround_78 : decode cX8_loopAround 78 = .ok (.ifCond .ne 5, 3) := by decide +kernel
theorem dX8_loopAround_81 : decode cX8_loopAround 81 = .ok (.iconst 1, 1) := by decide +kernel
theorem dX8_loopAround_82 : decode cX8_loopAround 82 = .ok (.istore_n 3, 1) := by decide +kernel
theorem dX8_loopAround_83 : decode cX8_loopAround 83 = .ok (.aload_n 0, 1) := by decide +kernel
theorem dX8_loopAround_84 : decode cX8_loopAround 84 = .ok (.getfield 18, 3) := by decide +kernel
theorem dX8_loopAround_87 : decode cX8_loopAround 87 = .ok (.iload 4, 2) := by decide +kernel
theorem dX8_loopAround_89 : decode cX8_loopAround 89 = .ok (.iaload, 1) := by decide +kernel
theorem dX8_loopAround_90 : decode cX8_loopAround 90 = .ok (.istore 4, 2) := by decide +kernel
theorem dX8_loopAround_92 : decode cX8_loopAround 92 = .ok (.iinc 5 1, 3) := by decide +kernel
theorem dX8_loopAround_95 : decode cX8_loopAround 95 = .ok (.goto (-87), 3) := by decide +kernel
theorem dX8_loopAround_98 : decode cX8_loopAround 98 = .ok (.iconst (-1), 1) := by decide +kernel
theorem dX8_loopAround_99 : decode cX8_loopAround 99 = .ok (.ireturn, 1) := by decide +kernel
theorem dX8_link_0 : decode cX8_link 0 = .ok (.iload_n 1, 1) := by decide +kernel
theorem dX8_link_1 : decode cX8_link 1 = .ok (.ifCond .lt 22, 3) := by decide +kernel
theorem dX8_link_4 : decode cX8_link 4 = .ok (.iload_n 1, 1) := by decide +kernel
theorem dX8_link_5 : decode cX8_link 5 = .ok (.bipush 60, 2) := by decide +kernel
theorem dX8_link_7 : decode cX8_link 7 = .ok (.if_icmp .ge 16, 3) := by decide +kernel
theorem dX8_link_10 : decode cX8_link 10 = .ok (.aload_n 0, 1) := by decide +kernel
theorem dX8_link_11 : decode cX8_link 11 = .ok (.getfield 12, 3) := by decide +kernel
theorem dX8_link_14 : decode cX8_link 14 = .ok (.getfield 98, 3) := by decide +kernel
theorem dX8_link_17 : decode cX8_link 17 = .ok (.iload_n 1, 1) := by decide +kernel
theorem dX8_link_18 : decode cX8_link 18 = .ok (.bipush 6, 2) := by decide +kernel
theorem dX8_link_20 : decode cX8_link 20 = .ok (.imul, 1) := by decide +kernel
theorem dX8_link_21 : decode cX8_link 21 = .ok (.iload_n 2, 1) := by decide +kernel
theorem dX8_link_22 : decode cX8_link 22 = .ok (.iastore, 1) := by decide +kernel
theorem dX8_link_23 : decode cX8_link 23 = .ok (.return_, 1) := by decide +kernel
set_option maxRecDepth 20000 in
theorem ggX8_readLoop_X8_sign : GoodIn wsX8_readLoop wsX8_sign := goodIn_r _ [8, 3, 9, 10, 18, 19, 20, 21, 22] (by decide +kernel) (by decide +kernel)
set_option maxRecDepth 20000 in
theorem gX8_readLoop_X8_sign : GoodIn wsX8_readLoop (wsV RX8 70 RX8 yX8_sign wsX8_sign) := goodIn_app (goodIn_of _ (by decide +kernel)) ggX8_readLoop_X8_sign
set_option maxRecDepth 20000 in
theorem ggX8_readLoop_X8_isLetter : GoodIn wsX8_readLoop wsX8_isLetter := goodIn_r _ [13] (by decide +kernel) (by decide +kernel)
set_option maxRecDepth 20000 in
theorem gX8_readLoop_X8_isLetter : GoodIn wsX8_readLoop (va_wsS RX8 101 yX8_isLetter wsX8_isLetter) := goodIn_app (goodIn_of _ (by decide +kernel)) ggX8_readLoop_X8_isLetter
set_option maxRecDepth 20000 in
theorem ggX8_readLoop_X8_goesOn : GoodIn wsX8_readLoop wsX8_goesOn := goodIn_r _ [17, 3, 4, 5, 6, 7, 8, 9, 10, 18, 19, 20, 21, 22] (by decide +kernel) (by decide +kernel)
set_option maxRecDepth 20000 in
theorem gX8_readLoop_X8_goesOn : GoodIn wsX8_readLoop (wsV RX8 107 RX8 yX8_goesOn wsX8_goesOn) := goodIn_app (goodIn_of _ (by decide +kernel)) ggX8_readLoop_X8_goesOn
theorem dX8_readLoop_0 : decode cX8_readLoop 0 = .ok (.iload_n 1, 1) := by decide +kernel
theorem dX8_readLoop_1 : decode cX8_readLoop 1 = .ok (.ifCond .lt 19, 3) := by decide +kernel
theorem dX8_readLoop_4 : decode cX8_readLoop 4 = .ok (.iload_n 1, 1) := by decide +kernel
theorem dX8_readLoop_5 : decode cX8_readLoop 5 = .ok (.bipush 60, 2) := by decide +kernel
theorem dX8_readLoop_7 : decode cX8_readLoop 7 = .ok (.if_icmp .ge 13, 3) := by decide +kernel
theorem dX8_readLoop_10 : decode cX8_readLoop 10 = .ok (.aload_n 0, 1) := by decide +kernel
theorem dX8_readLoop_11 : decode cX8_readLoop 11 = .ok (.invokevirtual 70, 3) := by decide +kernel
theorem dX8_readLoop_14 : decode cX8_readLoop 14 = .ok (.invokestatic 101, 3) := by decide +kernel
theorem dX8_readLoop_17 : decode cX8_readLoop 17 = .ok (.ifCond .ne 5, 3) := by decide +kernel
theorem dX8_readLoop_20 : decode cX8_readLoop 20 = .ok (.iconst 0, 1) := by decide +kernel
theorem dX8_readLoop_21 : decode cX8_readLoop 21 = .ok (.ireturn, 1) := by decide +kernel
theorem dX8_readLoop_22 : decode cX8_readLoop 22 = .ok (.aload_n 0, 1) := by decide +kernel
theorem dX8_readLoop_23 : decode cX8_readLoop 23 = .ok (.getfield 12, 3) := by decide +kernel
theorem dX8_readLoop_26 : decode cX8_readLoop 26 = .ok (.getfield 86, 3) := by decide +kernel
theorem dX8_readLoop_29 : decode cX8_readLoop 29 = .ok (.iload_n 1, 1) := by decide +kernel
theorem dX8_readLoop_30 : decode cX8_readLoop 30 = .ok (.aload_n 0, 1) := by decide +kernel
theorem dX8_readLoop_31 : decode cX8_readLoop 31 = .ok (.invokevirtual 70, 3) := by decide +kernel
theorem dX8_readLoop_34 : decode cX8_readLoop 34 = .ok (.iastore, 1) := by decide +kernel
theorem dX8_readLoop_35 : decode cX8_readLoop 35 = .ok (.aload_n 0, 1) := by decide +kernel
theorem dX8_readLoop_36 : decode cX8_readLoop 36 = .ok (.dup, 1) := by decide +kernel
theorem dX8_readLoop_37 : decode cX8_readLoop 37 = .ok (.getfield 35, 3) := by decide +kernel
theorem dX8_readLoop_40 : decode cX8_readLoop 40 = .ok (.iconst 1, 1) := by decide +kernel
theorem dX8_readLoop_41 : decode cX8_readLoop 41 = .ok (.iadd, 1) := by decide +kernel
theorem dX8_readLoop_42 : decode cX8_readLoop 42 = .ok (.putfield 35, 3) := by decide +kernel
theorem dX8_readLoop_45 : decode cX8_readLoop 45 = .ok (.aload_n 0, 1) := by decide +kernel
theorem dX8_readLoop_46 : decode cX8_readLoop 46 = .ok (.bipush 46, 2) := by decide +kernel
theorem dX8_readLoop_48 : decode cX8_readLoop 48 = .ok (.invokevirtual 107, 3) := by decide +kernel
theorem dX8_readLoop_51 : decode cX8_readLoop 51 = .ok (.ireturn, 1) := by decide +kernel
set_option maxRecDepth 20000 in
theorem ggX8_readSort_X8_sign : GoodIn wsX8_readSort wsX8_sign := goodIn_r _ [9, 3, 10, 11, 87, 88, 89, 90, 91] (by decide +kernel) (by decide +kernel)
set_option maxRecDepth 20000 in
theorem gX8_readSort_X8_sign : GoodIn wsX8_readSort (wsV RX8 70 RX8 yX8_sign wsX8_sign) := goodIn_app (goodIn_of _ (by decide +kernel)) ggX8_readSort_X8_sign
set_option maxRecDepth 20000 in
theorem ggX8_readSort_X8_readTalk : GoodIn wsX8_readSort wsX8_readTalk := goodIn_r _ [46, 1, 47, 48, 49, 8, 50, 51, 52, 2, 53, 33, 54, 4, 38, 55, 3, 5, 6, 7, 9, 10, 11, 56, 57, 58, 20, 21, 22, 59, 60, 61, 62, 63, 64, 65, 26, 66, 67, 68, 69, 70, 71, 72, 73, 74, 75, 76, 77, 78, 79, 80, 81, 82, 83, 15, 16, 17, 18, 84, 85, 86, 19, 23, 24, 25, 27, 28, 12, 13, 14, 29, 30, 31, 32, 34, 35, 36, 37, 39, 40, 41, 42, 43, 44, 45, 0, 87, 88, 89, 90, 91, 92, 93, 94, 95, 96, 97, 98, 99, 100] (by decide +kernel) (by decide +kernel)
set_option maxRecDepth 20000 in
theorem gX8_readSort_X8_readTalk : GoodIn wsX8_readSort (wsV RX8 41 RX8 yX8_readTalk wsX8_readTalk) := goodIn_app (goodIn_of _ (by decide +kernel)) ggX8_readSort_X8_readTalk
set_option maxRecDepth 20000 in
theorem ggX8_readSort_X8_goesOn : GoodIn wsX8_readSort wsX8_goesOn := goodIn_r _ [18, 3, 5, 6, 7, 8, 9, 10, 11, 87, 88, 89, 90, 91] (by decide +kernel) (by decide +kernel)
set_option maxRecDepth 20000 in
theorem gX8_readSort_X8_goesOn : GoodIn wsX8_readSort (wsV RX8 107 RX8 yX8_goesOn wsX8_goesOn) := goodIn_app (goodIn_of _ (by decide +kernel)) ggX8_readSort_X8_goesOn
theorem dX8_readSort_0 : decode cX8_readSort 0 = .ok (.aload_n 0, 1) := by decide +kernel
theorem dX8_readSort_1 : decode cX8_readSort 1 = .ok (.invokevirtual 70, 3) := by decide +kernel
theorem dX8_readSort_4 : decode cX8_readSort 4 = .ok (.istore 4, 2) := by decide +kernel
theorem dX8_readSort_6 : decode cX8_readSort 6 = .ok (.iload_n 1, 1) := by decide +kernel
theorem dX8_readSort_7 : decode cX8_readSort 7 = .ok (.ifCond .lt 30, 3) := by decide +kernel
theorem dX8_readSort_10 : decode cX8_readSort 10 = .ok (.iload_n 1, 1) := by decide +kernel
theorem dX8_readSort_11 : decode cX8_readSort 11 = .ok (.bipush 60, 2) := by decide +kernel
theorem dX8_readSort_13 : decode cX8_readSort 13 = .ok (.if_icmp .ge 24, 3) := by decide +kernel
theorem dX8_readSort_16 : decode cX8_readSort 16 = .ok (.iload 4, 2) := by decide +kernel
theorem dX8_readSort_18 : decode cX8_readSort 18 = .ok (.bipush 105, 2) := by decide +kernel
theorem dX8_readSort_20 : decode cX8_readSort 20 = .ok (.if_icmp .eq 19, 3) := by decide +kernel
theorem dX8_readSort_23 : decode cX8_readSort 23 = .ok (.iload 4, 2) := by decide +kernel
theorem dX8_readSort_25 : decode cX8_readSort 25 = .ok (.bipush 98, 2) := by decide +kernel
theorem dX8_readSort_27 : decode cX8_readSort 27 = .ok (.if_icmp .eq 12, 3) := by decide +kernel
theorem dX8_readSort_30 : decode cX8_readSort 30 = .ok (.iload 4, 2) := by decide +kernel
theorem dX8_readSort_32 : decode cX8_readSort 32 = .ok (.bipush 40, 2) := by decide +kernel
theorem dX8_readSort_34 : decode cX8_readSort 34 = .ok (.if_icmp .eq 5, 3) := by decide +kernel
theorem dX8_readSort_37 : decode cX8_readSort 37 = .ok (.iconst 0, 1) := by decide +kernel
theorem dX8_readSort_38 : decode cX8_readSort 38 = .ok (.ireturn, 1) := by decide +kernel
theorem dX8_readSort_39 : decode cX8_readSort 39 = .ok (.iload 4, 2) := by decide +kernel
theorem dX8_readSort_41 : decode cX8_readSort 41 = .ok (.bipush 40, 2) := by decide +kernel
theorem dX8_readSort_43 : decode cX8_readSort 43 = .ok (.if_icmp .ne 11, 3) := by decide +kernel
theorem dX8_readSort_46 : decode cX8_readSort 46 = .ok (.iload_n 2, 1) := by decide +kernel
theorem dX8_readSort_47 : decode cX8_readSort 47 = .ok (.bipush 8, 2) := by decide +kernel
theorem dX8_readSort_49 : decode cX8_readSort 49 = .ok (.if_icmp .lt 5, 3) := by decide +kernel
theorem dX8_readSort_52 : decode cX8_readSort 52 = .ok (.iconst 0, 1) := by decide +kernel
theorem dX8_readSort_53 : decode cX8_readSort 53 = .ok (.ireturn, 1) := by decide +kernel
theorem dX8_readSort_54 : decode cX8_readSort 54 = .ok (.aload_n 0, 1) := by decide +kernel
theorem dX8_readSort_55 : decode cX8_readSort 55 = .ok (.getfield 12, 3) := by decide +kernel
theorem dX8_readSort_58 : decode cX8_readSort 58 = .ok (.getfield 83, 3) := by decide +kernel
theorem dX8_readSort_61 : decode cX8_readSort 61 = .ok (.iload_n 1, 1) := by decide +kernel
theorem dX8_readSort_62 : decode cX8_readSort 62 = .ok (.iload 4, 2) := by decide +kernel
theorem dX8_readSort_64 : decode cX8_readSort 64 = .ok (.iastore, 1) := by decide +kernel
theorem dX8_readSort_65 : decode cX8_readSort 65 = .ok (.aload_n 0, 1) := by decide +kernel
theorem dX8_readSort_66 : decode cX8_readSort 66 = .ok (.dup, 1) := by decide +kernel
theorem dX8_readSort_67 : decode cX8_readSort 67 = .ok (.getfield 35, 3) := by decide +kernel
theorem dX8_readSort_70 : decode cX8_readSort 70 = .ok (.iconst 1, 1) := by decide +kernel
theorem dX8_readSort_71 : decode cX8_readSort 71 = .ok (.iadd, 1) := by decide +kernel
theorem dX8_readSort_72 : decode cX8_readSort 72 = .ok (.putfield 35, 3) := by decide +kernel
theorem dX8_readSort_75 : decode cX8_readSort 75 = .ok (.iload 4, 2) := by decide +kernel
theorem dX8_readSort_77 : decode cX8_readSort 77 = .ok (.bipush 40, 2) := by decide +kernel
theorem dX8_readSort_79 : decode cX8_readSort 79 = .ok (.if_icmp .ne 43, 3) := by decide +kernel
theorem dX8_readSort_82 : decode cX8_readSort 82 = .ok (.aload_n 0, 1) := by decide +kernel
theorem dX8_readSort_83 : decode cX8_readSort 83 = .ok (.iconst (-1), 1) := by decide +kernel
theorem dX8_readSort_84 : decode cX8_readSort 84 = .ok (.iload_n 2, 1) := by decide +kernel
theorem dX8_readSort_85 : decode cX8_readSort 85 = .ok (.iconst 1, 1) := by decide +kernel
theorem dX8_readSort_86 : decode cX8_readSort 86 = .ok (.iadd, 1) := by decide +kernel
theorem dX8_readSort_87 : decode cX8_readSort 87 = .ok (.iload_n 3, 1) := by decide +kernel
theorem dX8_readSort_88 : decode cX8_readSort 88 = .ok (.iconst 1, 1) := by decide +kernel
theorem dX8_readSort_89 : decode cX8_readSort 89 = .ok (.iadd, 1) := by decide +kernel
theorem dX8_readSort_90 : decode cX8_readSort 90 = .ok (.invokevirtual 41, 3) := by decide +kernel
theorem dX8_readSort_93 : decode cX8_readSort 93 = .ok (.istore 5, 2) := by decide +kernel
theorem dX8_readSort_95 : decode cX8_readSort 95 = .ok (.iload 5, 2) := by decide +kernel
theorem dX8_readSort_97 : decode cX8_readSort 97 = .ok (.ifCond .lt 12, 3) := by decide +kernel
theorem dX8_readSort_100 : decode cX8_readSort 100 = .ok (.aload_n 0, 1) := by decide +kernel
theorem dX8_readSort_101 : decode cX8_readSort 101 = .ok (.bipush 41, 2) := by decide +kernel
theorem dX8_readSort_103 : decode cX8_readSort 103 = .ok (.invokevirtual 107, 3) := by decide +kernel
theorem dX8_readSort_106 : decode cX8_readSort 106 = .ok (.ifCond .ne 5, 3) := by decide +kernel
theorem dX8_readSort_109 : decode cX8_readSort 109 = .ok (.iconst 0, 1) := by decide +kernel
theorem dX8_readSort_110 : decode cX8_readSort 110 = .ok (.ireturn, 1) := by decide +kernel
theorem dX8_readSort_111 : decode cX8_readSort 111 = .ok (.aload_n 0, 1) := by decide +kernel
theorem dX8_readSort_112 : decode cX8_readSort 112 = .ok (.getfield 12, 3) := by decide +kernel
theorem dX8_readSort_115 : decode cX8_readSort 115 = .ok (.getfield 95, 3) := by decide +kernel
theorem dX8_readSort_118 : decode cX8_readSort 118 = .ok (.iload_n 1, 1) := by decide +kernel
theorem dX8_readSort_119 : decode cX8_readSort 119 = .ok (.iload 5, 2) := by decide +kernel
theorem dX8_readSort_121 : decode cX8_readSort 121 = .ok (.iastore, 1) := by decide +kernel
theorem dX8_readSort_122 : decode cX8_readSort 122 = .ok (.aload_n 0, 1) := by decide +kernel
theorem dX8_readSort_123 : decode cX8_readSort 123 = .ok (.bipush 46, 2) := by decide +kernel
theorem dX8_readSort_125 : decode cX8_readSort 125 = .ok (.invokevirtual 107, 3) := by decide +kernel
theorem dX8_readSort_128 : decode cX8_readSort 128 = .ok (.ireturn, 1) := by decide +kernel
set_option maxRecDepth 20000 in
theorem ggX8_readBraces_X8_sign : GoodIn wsX8_readBraces wsX8_sign := goodIn_r _ [7, 1, 8, 9, 87, 88, 89, 90, 91] (by decide +kernel) (by decide +kernel)
set_option maxRecDepth 20000 in
theorem gX8_readBraces_X8_sign : GoodIn wsX8_readBraces (wsV RX8 70 RX8 yX8_sign wsX8_sign) := goodIn_app (goodIn_of _ (by decide +kernel)) ggX8_readBraces_X8_sign
set_option maxRecDepth 20000 in
theorem ggX8_readBraces_X8_isLetter : GoodIn wsX8_readBraces wsX8_isLetter := goodIn_r _ [12] (by decide +kernel) (by decide +kernel)
set_option maxRecDepth 20000 in
theorem gX8_readBraces_X8_isLetter : GoodIn wsX8_readBraces (va_wsS RX8 101 yX8_isLetter wsX8_isLetter) := goodIn_app (goodIn_of _ (by decide +kernel)) ggX8_readBraces_X8_isLetter
set_option maxRecDepth 20000 in
theorem ggX8_readBraces_X7_labelsOf : GoodIn wsX8_readBraces wsX7_labelsOf := goodIn_r _ [17, 18, 92, 93, 94, 95, 96, 97, 98, 99, 100] (by decide +kernel) (by decide +kernel)
set_option maxRecDepth 20000 in
theorem gX8_readBraces_X7_labelsOf : GoodIn wsX8_readBraces (wsV RX8 110 RX7 yX7_labelsOf wsX7_labelsOf) := goodIn_app (goodIn_of _ (by decide +kernel)) ggX8_readBraces_X7_labelsOf
set_option maxRecDepth 20000 in
theorem ggX8_readBraces_X8_goesOn : GoodIn wsX8_readBraces wsX8_goesOn := goodIn_r _ [22, 1, 3, 4, 5, 6, 7, 8, 9, 87, 88, 89, 90, 91] (by decide +kernel) (by decide +kernel)
set_option maxRecDepth 20000 in
theorem gX8_readBraces_X8_goesOn : GoodIn wsX8_readBraces (wsV RX8 107 RX8 yX8_goesOn wsX8_goesOn) := goodIn_app (goodIn_of _ (by decide +kernel)) ggX8_readBraces_X8_goesOn
set_option maxRecDepth 20000 in
theorem ggX8_readBraces_X8_readTalk : GoodIn wsX8_readBraces wsX8_readTalk := goodIn_r _ [46, 2, 47, 48, 49, 6, 50, 51, 52, 44, 53, 30, 54, 45, 35, 55, 1, 3, 4, 5, 7, 8, 9, 56, 57, 58, 10, 11, 12, 59, 60, 61, 62, 63, 64, 65, 16, 66, 67, 68, 69, 70, 71, 72, 73, 74, 75, 76, 77, 78, 79, 80, 81, 82, 83, 19, 20, 21, 22, 84, 85, 86, 0, 13, 14, 15, 17, 18, 23, 24, 25, 26, 27, 28, 29, 31, 32, 33, 34, 36, 37, 38, 39, 40, 41, 42, 43, 87, 88, 89, 90, 91, 92, 93, 94, 95, 96, 97, 98, 99, 100] (by decide +kernel) (by decide +kernel)
set_option maxRecDepth 20000 in
theorem gX8_readBraces_X8_readTalk : GoodIn wsX8_readBraces (wsV RX8 41 RX8 yX8_readTalk wsX8_readTalk) := goodIn_app (goodIn_of _ (by decide +kernel)) ggX8_readBraces_X8_readTalk
set_option maxRecDepth 20000 in
theorem ggX8_readBraces_X8_addBranch : GoodIn wsX8_readBraces wsX8_addBranch := goodIn_r _ [29, 2, 30, 31, 32, 33, 34, 35, 36, 37, 38, 39, 40, 41, 42, 87, 88, 89, 90, 91, 92, 93, 94, 95, 96, 97, 98, 99, 100] (by decide +kernel) (by decide +kernel)
set_option maxRecDepth 20000 in
theorem gX8_readBraces_X8_addBranch : GoodIn wsX8_readBraces (wsV RX8 113 RX8 yX8_addBranch wsX8_addBranch) := goodIn_app (goodIn_of _ (by decide +kernel)) ggX8_readBraces_X8_addBranch
theorem dX8_readBraces_0 : decode cX8_readBraces 0 = .ok (.aload_n 0, 1) := by decide +kernel
theorem dX8_readBraces_1 : decode cX8_readBraces 1 = .ok (.invokevirtual 70, 3) := by decide +kernel
theorem dX8_readBraces_4 : decode cX8_readBraces 4 = .ok (.bipush 123, 2) := by decide +kernel
theorem dX8_readBraces_6 : decode cX8_readBraces 6 = .ok (.if_icmp .ne 9, 3) := by decide +kernel
theorem dX8_readBraces_9 : decode cX8_readBraces 9 = .ok (.iload_n 2, 1) := by decide +kernel
theorem dX8_readBraces_10 : decode cX8_readBraces 10 = .ok (.bipush 8, 2) := by decide +kernel
theorem dX8_readBraces_12 : decode cX8_readBraces 12 = .ok (.if_icmp .lt 5, 3) := by decide +kernel
theorem dX8_readBraces_15 : decode cX8_readBraces 15 = .ok (.iconst 0, 1) := by decide +kernel
theorem dX8_readBraces_16 : decode cX8_readBraces 16 = .ok (.ireturn, 1) := by decide +kernel
theorem dX8_readBraces_17 : decode cX8_readBraces 17 = .ok (.aload_n 0, 1) := by decide +kernel
theorem dX8_readBraces_18 : decode cX8_readBraces 18 = .ok (.dup, 1) := by decide +kernel
theorem dX8_readBraces_19 : decode cX8_readBraces 19 = .ok (.getfield 35, 3) := by decide +kernel
theorem dX8_readBraces_22 : decode cX8_readBraces 22 = .ok (.iconst 1, 1) := by decide +kernel
theorem dX8_readBraces_23 : decode cX8_readBraces 23 = .ok (.iadd, 1) := by decide +kernel
theorem dX8_readBraces_24 : decode cX8_readBraces 24 = .ok (.putfield 35, 3) := by decide +kernel
theorem dX8_readBraces_27 : decode cX8_readBraces 27 = .ok (.iconst 1, 1) := by decide +kernel
theorem dX8_readBraces_28 : decode cX8_readBraces 28 = .ok (.istore 4, 2) := by decide +kernel
theorem dX8_readBraces_30 : decode cX8_readBraces 30 = .ok (.iload 4, 2) := by decide +kernel
theorem dX8_readBraces_32 : decode cX8_readBraces 32 = .ok (.bipush 6, 2) := by decide +kernel
theorem dX8_readBraces_34 : decode cX8_readBraces 34 = .ok (.if_icmp .gt 124, 3) := by decide +kernel
theorem dX8_readBraces_37 : decode cX8_readBraces 37 = .ok (.aload_n 0, 1) := by decide +kernel
theorem dX8_readBraces_38 : decode cX8_readBraces 38 = .ok (.invokevirtual 70, 3) := by decide +kernel
theorem dX8_readBraces_41 : decode cX8_readBraces 41 = .ok (.istore 5, 2) := by decide +kernel
theorem dX8_readBraces_43 : decode cX8_readBraces 43 = .ok (.iload 5, 2) := by decide +kernel
theorem dX8_readBraces_45 : decode cX8_readBraces 45 = .ok (.invokestatic 101, 3) := by decide +kernel
theorem dX8_readBraces_48 : decode cX8_readBraces 48 = .ok (.ifCond .eq 22, 3) := by decide +kernel
theorem dX8_readBraces_51 : decode cX8_readBraces 51 = .ok (.aload_n 0, 1) := by decide +kernel
theorem dX8_readBraces_52 : decode cX8_readBraces 52 = .ok (.getfield 12, 3) := by decide +kernel
theorem dX8_readBraces_55 : decode cX8_readBraces 55 = .ok (.iload_n 1, 1) := by decide +kernel
theorem dX8_readBraces_56 : decode cX8_readBraces 56 = .ok (.invokevirtual 110, 3) := by decide +kernel
theorem dX8_readBraces_59 : decode cX8_readBraces 59 = .ok (.iload 5, 2) := by decide +kernel
theorem dX8_readBraces_61 : decode cX8_readBraces 61 = .ok (.bipush 97, 2) := by decide +kernel
theorem dX8_readBraces_63 : decode cX8_readBraces 63 = .ok (.isub, 1) := by decide +kernel
theorem dX8_readBraces_64 : decode cX8_readBraces 64 = .ok (.ishr, 1) := by decide +kernel
theorem dX8_readBraces_65 : decode cX8_readBraces 65 = .ok (.iconst 1, 1) := by decide +kernel
theorem dX8_readBraces_66 : decode cX8_readBraces 66 = .ok (.iand, 1) := by decide +kernel
theorem dX8_readBraces_67 : decode cX8_readBraces 67 = .ok (.ifCond .eq 5, 3) := by decide +kernel
theorem dX8_readBraces_70 : decode cX8_readBraces 70 = .ok (.iconst 0, 1) := by decide +kernel
theorem dX8_readBraces_71 : decode cX8_readBraces 71 = .ok (.ireturn, 1) := by decide +kernel
theorem dX8_readBraces_72 : decode cX8_readBraces 72 = .ok (.aload_n 0, 1) := by decide +kernel
theorem dX8_readBraces_73 : decode cX8_readBraces 73 = .ok (.dup, 1) := by decide +kernel
theorem dX8_readBraces_74 : decode cX8_readBraces 74 = .ok (.getfield 35, 3) := by decide +kernel
theorem dX8_readBraces_77 : decode cX8_readBraces 77 = .ok (.iconst 1, 1) := by decide +kernel
theorem dX8_readBraces_78 : decode cX8_readBraces 78 = .ok (.iadd, 1) := by decide +kernel
theorem dX8_readBraces_79 : decode cX8_readBraces 79 = .ok (.putfield 35, 3) := by decide +kernel
theorem dX8_readBraces_82 : decode cX8_readBraces 82 = .ok (.aload_n 0, 1) := by decide +kernel
theorem dX8_readBraces_83 : decode cX8_readBraces 83 = .ok (.bipush 58, 2) := by decide +kernel
theorem dX8_readBraces_85 : decode cX8_readBraces 85 = .ok (.invokevirtual 107, 3) := by decide +kernel
theorem dX8_readBraces_88 : decode cX8_readBraces 88 = .ok (.ifCond .ne 5, 3) := by decide +kernel
theorem dX8_readBraces_91 : decode cX8_readBraces 91 = .ok (.iconst 0, 1) := by decide +kernel
theorem dX8_readBraces_92 : decode cX8_readBraces 92 = .ok (.ireturn, 1) := by decide +kernel
theorem dX8_readBraces_93 : decode cX8_readBraces 93 = .ok (.aload_n 0, 1) := by decide +kernel
theorem dX8_readBraces_94 : decode cX8_readBraces 94 = .ok (.iload_n 1, 1) := by decide +kernel
theorem dX8_readBraces_95 : decode cX8_readBraces 95 = .ok (.iload_n 2, 1) := by decide +kernel
theorem dX8_readBraces_96 : decode cX8_readBraces 96 = .ok (.iconst 1, 1) := by decide +kernel
theorem dX8_readBraces_97 : decode cX8_readBraces 97 = .ok (.iadd, 1) := by decide +kernel
theorem dX8_readBraces_98 : decode cX8_readBraces 98 = .ok (.iload_n 3, 1) := by decide +kernel
theorem dX8_readBraces_99 : decode cX8_readBraces 99 = .ok (.invokevirtual 41, 3) := by decide +kernel
theorem dX8_readBraces_102 : decode cX8_readBraces 102 = .ok (.istore 6, 2) := by decide +kernel
theorem dX8_readBraces_104 : decode cX8_readBraces 104 = .ok (.iload 6, 2) := by decide +kernel
theorem dX8_readBraces_106 : decode cX8_readBraces 106 = .ok (.ifCond .ge 5, 3) := by decide +kernel
theorem dX8_readBraces_109 : decode cX8_readBraces 109 = .ok (.iconst 0, 1) := by decide +kernel
theorem dX8_readBraces_110 : decode cX8_readBraces 110 = .ok (.ireturn, 1) := by decide +kernel
theorem dX8_readBraces_111 : decode cX8_readBraces 111 = .ok (.aload_n 0, 1) := by decide +kernel
theorem dX8_readBraces_112 : decode cX8_readBraces 112 = .ok (.iload_n 1, 1) := by decide +kernel
theorem dX8_readBraces_113 : decode cX8_readBraces 113 = .ok (.iload 5, 2) := by decide +kernel
theorem dX8_readBraces_115 : decode cX8_readBraces 115 = .ok (.bipush 97, 2) := by decide +kernel
theorem dX8_readBraces_117 : decode cX8_readBraces 117 = .ok (.isub, 1) := by decide +kernel
theorem dX8_readBraces_118 : decode cX8_readBraces 118 = .ok (.iload 6, 2) := by decide +kernel
theorem dX8_readBraces_120 : decode cX8_readBraces 120 = .ok (.invokevirtual 113, 3) := by decide +kernel
theorem dX8_readBraces_123 : decode cX8_readBraces 123 = .ok (.aload_n 0, 1) := by decide +kernel
theorem dX8_readBraces_124 : decode cX8_readBraces 124 = .ok (.bipush 125, 2) := by decide +kernel
theorem dX8_readBraces_126 : decode cX8_readBraces 126 = .ok (.invokevirtual 107, 3) := by decide +kernel
theorem dX8_readBraces_129 : decode cX8_readBraces 129 = .ok (.ifCond .eq 5, 3) := by decide +kernel
theorem dX8_readBraces_132 : decode cX8_readBraces 132 = .ok (.iconst 1, 1) := by decide +kernel
theorem dX8_readBraces_133 : decode cX8_readBraces 133 = .ok (.ireturn, 1) := by decide +kernel
theorem dX8_readBraces_134 : decode cX8_readBraces 134 = .ok (.iload 4, 2) := by decide +kernel
theorem dX8_readBraces_136 : decode cX8_readBraces 136 = .ok (.bipush 6, 2) := by decide +kernel
theorem dX8_readBraces_138 : decode cX8_readBraces 138 = .ok (.if_icmp .eq 12, 3) := by decide +kernel
theorem dX8_readBraces_141 : decode cX8_readBraces 141 = .ok (.aload_n 0, 1) := by decide +kernel
theorem dX8_readBraces_142 : decode cX8_readBraces 142 = .ok (.bipush 44, 2) := by decide +kernel
theorem dX8_readBraces_144 : decode cX8_readBraces 144 = .ok (.invokevirtual 107, 3) := by decide +kernel
theorem dX8_readBraces_147 : decode cX8_readBraces 147 = .ok (.ifCond .ne 5, 3) := by decide +kernel
theorem dX8_readBraces_150 : decode cX8_readBraces 150 = .ok (.iconst 0, 1) := by decide +kernel
theorem dX8_readBraces_151 : decode cX8_readBraces 151 = .ok (.ireturn, 1) := by decide +kernel
theorem dX8_readBraces_152 : decode cX8_readBraces 152 = .ok (.iinc 4 1, 3) := by decide +kernel
theorem dX8_readBraces_155 : decode cX8_readBraces 155 = .ok (.goto (-125), 3) := by decide +kernel
theorem dX8_readBraces_158 : decode cX8_readBraces 158 = .ok (.iconst 0, 1) := by decide +kernel
theorem dX8_readBraces_159 : decode cX8_readBraces 159 = .ok (.ireturn, 1) := by decide +kernel
set_option maxRecDepth 20000 in
theorem ggX8_addBranch_J6_bitCount_0f7a4 : GoodIn wsX8_addBranch wsJ6_bitCount_0f7a4 := goodIn_r _ [11, 12, 13, 14] (by decide +kernel) (by decide +kernel)
set_option maxRecDepth 20000 in
theorem gX8_addBranch_J6_bitCount_0f7a4 : GoodIn wsX8_addBranch (va_wsS RX8 117 yJ6_bitCount_0f7a4 wsJ6_bitCount_0f7a4) := goodIn_app (goodIn_of _ (by decide +kernel)) ggX8_addBranch_J6_bitCount_0f7a4
theorem dX8_addBranch_0 : decode cX8_addBranch 0 = .ok (.iload_n 1, 1) := by decide +kernel
theorem dX8_addBranch_1 : decode cX8_addBranch 1 = .ok (.ifCond .lt 9, 3) := by decide +kernel
theorem dX8_addBranch_4 : decode cX8_addBranch 4 = .ok (.iload_n 1, 1) := by decide +kernel
theorem dX8_addBranch_5 : decode cX8_addBranch 5 = .ok (.bipush 60, 2) := by decide +kernel
theorem dX8_addBranch_7 : decode cX8_addBranch 7 = .ok (.if_icmp .lt 4, 3) := by decide +kernel
theorem dX8_addBranch_10 : decode cX8_addBranch 10 = .ok (.return_, 1) := by decide +kernel
theorem dX8_addBranch_11 : decode cX8_addBranch 11 = .ok (.aload_n 0, 1) := by decide +kernel
theorem dX8_addBranch_12 : decode cX8_addBranch 12 = .ok (.getfield 12, 3) := by decide +kernel
theorem dX8_addBranch_15 : decode cX8_addBranch 15 = .ok (.getfield 89, 3) := by decide +kernel
theorem dX8_addBranch_18 : decode cX8_addBranch 18 = .ok (.iload_n 1, 1) := by decide +kernel
theorem dX8_addBranch_19 : decode cX8_addBranch 19 = .ok (.iaload, 1) := by decide +kernel
theorem dX8_addBranch_20 : decode cX8_addBranch 20 = .ok (.istore 4, 2) := by decide +kernel
theorem dX8_addBranch_22 : decode cX8_addBranch 22 = .ok (.iload 4, 2) := by decide +kernel
theorem dX8_addBranch_24 : decode cX8_addBranch 24 = .ok (.invokestatic 117, 3) := by decide +kernel
theorem dX8_addBranch_27 : decode cX8_addBranch 27 = .ok (.iconst 5, 1) := by decide +kernel
theorem dX8_addBranch_28 : decode cX8_addBranch 28 = .ok (.invokestatic 25, 3) := by decide +kernel
theorem dX8_addBranch_31 : decode cX8_addBranch 31 = .ok (.istore 5, 2) := by decide +kernel
theorem dX8_addBranch_33 : decode cX8_addBranch 33 = .ok (.iload 4, 2) := by decide +kernel
theorem dX8_addBranch_35 : decode cX8_addBranch 35 = .ok (.iconst 1, 1) := by decide +kernel
theorem dX8_addBranch_36 : decode cX8_addBranch 36 = .ok (.iload_n 2, 1) := by decide +kernel
theorem dX8_addBranch_37 : decode cX8_addBranch 37 = .ok (.ishl, 1) := by decide +kernel
theorem dX8_addBranch_38 : decode cX8_addBranch 38 = .ok (.iconst 1, 1) := by decide +kernel
theorem dX8_addBranch_39 : decode cX8_addBranch 39 = .ok (.isub, 1) := by decide +kernel
theorem dX8_addBranch_40 : decode cX8_addBranch 40 = .ok (.iand, 1) := by decide +kernel
theorem dX8_addBranch_41 : decode cX8_addBranch 41 = .ok (.invokestatic 117, 3) := by decide +kernel
theorem dX8_addBranch_44 : decode cX8_addBranch 44 = .ok (.iload 5, 2) := by decide +kernel
theorem dX8_addBranch_46 : decode cX8_addBranch 46 = .ok (.invokestatic 25, 3) := by decide +kernel
theorem dX8_addBranch_49 : decode cX8_addBranch 49 = .ok (.istore 6, 2) := by decide +kernel
theorem dX8_addBranch_51 : decode cX8_addBranch 51 = .ok (.iload_n 1, 1) := by decide +kernel
theorem dX8_addBranch_52 : decode cX8_addBranch 52 = .ok (.bipush 6, 2) := by decide +kernel
theorem dX8_addBranch_54 : decode cX8_addBranch 54 = .ok (.imul, 1) := by decide +kernel
theorem dX8_addBranch_55 : decode cX8_addBranch 55 = .ok (.istore 7, 2) := by decide +kernel
theorem dX8_addBranch_57 : decode cX8_addBranch 57 = .ok (.iload 5, 2) := by decide +kernel
theorem dX8_addBranch_59 : decode cX8_addBranch 59 = .ok (.istore 8, 2) := by decide +kernel
theorem dX8_addBranch_61 : decode cX8_addBranch 61 = .ok (.iload 8, 2) := by decide +kernel
theorem dX8_addBranch_63 : decode cX8_addBranch 63 = .ok (.iload 6, 2) := by decide +kernel
theorem dX8_addBranch_65 : decode cX8_addBranch 65 = .ok (.if_icmp .le 37, 3) := by decide +kernel
theorem dX8_addBranch_68 : decode cX8_addBranch 68 = .ok (.aload_n 0, 1) := by decide +kernel
theorem dX8_addBranch_69 : decode cX8_addBranch 69 = .ok (.getfield 12, 3) := by decide +kernel
theorem dX8_addBranch_72 : decode cX8_addBranch 72 = .ok (.getfield 98, 3) := by decide +kernel
theorem dX8_addBranch_75 : decode cX8_addBranch 75 = .ok (.iload 7, 2) := by decide +kernel
theorem dX8_addBranch_77 : decode cX8_addBranch 77 = .ok (.iload 8, 2) := by decide +kernel
theorem dX8_addBranch_79 : decode cX8_addBranch 79 = .ok (.iadd, 1) := by decide +kernel
theorem dX8_addBranch_80 : decode cX8_addBranch 80 = .ok (.aload_n 0, 1) := by decide +kernel
theorem dX8_addBranch_81 : decode cX8_addBranch 81 = .ok (.getfield 12, 3) := by decide +kernel
theorem dX8_addBranch_84 : decode cX8_addBranch 84 = .ok (.getfield 98, 3) := by decide +kernel
theorem dX8_addBranch_87 : decode cX8_addBranch 87 = .ok (.iload 7, 2) := by decide +kernel
theorem dX8_addBranch_89 : decode cX8_addBranch 89 = .ok (.iload 8, 2) := by decide +kernel
theorem dX8_addBranch_91 : decode cX8_addBranch 91 = .ok (.iadd, 1) := by decide +kernel
theorem dX8_addBranch_92 : decode cX8_addBranch 92 = .ok (.iconst 1, 1) := by decide +kernel
theorem dX8_addBranch_93 : decode cX8_addBranch 93 = .ok (.isub, 1) := by decide +kernel
theorem dX8_addBranch_94 : decode cX8_addBranch 94 = .ok (.iaload, 1) := by decide +kernel
theorem dX8_addBranch_95 : decode cX8_addBranch 95 = .ok (.iastore, 1) := by decide +kernel
theorem dX8_addBranch_96 : decode cX8_addBranch 96 = .ok (.iinc 8 (-1), 3) := by decide +kernel
theorem dX8_addBranch_99 : decode cX8_addBranch 99 = .ok (.goto (-38), 3) := by decide +kernel
theorem dX8_addBranch_102 : decode cX8_addBranch 102 = .ok (.aload_n 0, 1) := by decide +kernel
theorem dX8_addBranch_103 : decode cX8_addBranch 103 = .ok (.getfield 12, 3) := by decide +kernel
theorem dX8_addBranch_106 : decode cX8_addBranch 106 = .ok (.getfield 98, 3) := by decide +kernel
theorem dX8_addBranch_109 : decode cX8_addBranch 109 = .ok (.iload 7, 2) := by decide +kernel
theorem dX8_addBranch_111 : decode cX8_addBranch 111 = .ok (.iload 6, 2) := by decide +kernel
theorem dX8_addBranch_113 : decode cX8_addBranch 113 = .ok (.iadd, 1) := by decide +kernel
theorem dX8_addBranch_114 : decode cX8_addBranch 114 = .ok (.iload_n 3, 1) := by decide +kernel
theorem dX8_addBranch_115 : decode cX8_addBranch 115 = .ok (.iastore, 1) := by decide +kernel
theorem dX8_addBranch_116 : decode cX8_addBranch 116 = .ok (.aload_n 0, 1) := by decide +kernel
theorem dX8_addBranch_117 : decode cX8_addBranch 117 = .ok (.getfield 12, 3) := by decide +kernel
theorem dX8_addBranch_120 : decode cX8_addBranch 120 = .ok (.getfield 89, 3) := by decide +kernel
theorem dX8_addBranch_123 : decode cX8_addBranch 123 = .ok (.iload_n 1, 1) := by decide +kernel
theorem dX8_addBranch_124 : decode cX8_addBranch 124 = .ok (.iload 4, 2) := by decide +kernel
theorem dX8_addBranch_126 : decode cX8_addBranch 126 = .ok (.iconst 1, 1) := by decide +kernel
theorem dX8_addBranch_127 : decode cX8_addBranch 127 = .ok (.iload_n 2, 1) := by decide +kernel
theorem dX8_addBranch_128 : decode cX8_addBranch 128 = .ok (.ishl, 1) := by decide +kernel
theorem dX8_addBranch_129 : decode cX8_addBranch 129 = .ok (.ior, 1) := by decide +kernel
theorem dX8_addBranch_130 : decode cX8_addBranch 130 = .ok (.iastore, 1) := by decide +kernel
theorem dX8_addBranch_131 : decode cX8_addBranch 131 = .ok (.return_, 1) := by decide +kernel
set_option maxRecDepth 20000 in
theorem ggX8_settle_X7_kindOf : GoodIn wsX8_settle wsX7_kindOf := goodIn_r _ [8, 9, 20, 21, 22, 23, 24, 25, 26, 27, 28] (by decide +kernel) (by decide +kernel)
set_option maxRecDepth 20000 in
theorem gX8_settle_X7_kindOf : GoodIn wsX8_settle (wsV RX8 55 RX7 yX7_kindOf wsX7_kindOf) := goodIn_app (goodIn_of _ (by decide +kernel)) ggX8_settle_X7_kindOf
set_option maxRecDepth 20000 in
theorem ggX8_settle_X7_branchNode : GoodIn wsX8_settle wsX7_branchNode := goodIn_r _ [13, 14, 20, 21, 22, 23, 24, 25, 26, 27, 28] (by decide +kernel) (by decide +kernel)
set_option maxRecDepth 20000 in
theorem gX8_settle_X7_branchNode : GoodIn wsX8_settle (wsV RX8 122 RX7 yX7_branchNode wsX7_branchNode) := goodIn_app (goodIn_of _ (by decide +kernel)) ggX8_settle_X7_branchNode
theorem dX8_settle_0 : decode cX8_settle 0 = .ok (.iconst 0, 1) := by decide +kernel
theorem dX8_settle_1 : decode cX8_settle 1 = .ok (.istore_n 1, 1) := by decide +kernel
theorem dX8_settle_2 : decode cX8_settle 2 = .ok (.iload_n 1, 1) := by decide +kernel
theorem dX8_settle_3 : decode cX8_settle 3 = .ok (.aload_n 0, 1) := by decide +kernel
theorem dX8_settle_4 : decode cX8_settle 4 = .ok (.getfield 12, 3) := by decide +kernel
theorem dX8_settle_7 : decode cX8_settle 7 = .ok (.getfield 38, 3) := by decide +kernel
theorem dX8_settle_10 : decode cX8_settle 10 = .ok (.if_icmp .ge 63, 3) := by decide +kernel
theorem dX8_settle_13 : decode cX8_settle 13 = .ok (.iload_n 1, 1) := by decide +kernel
theorem dX8_settle_14 : decode cX8_settle 14 = .ok (.bipush 60, 2) := by decide +kernel
theorem dX8_settle_16 : decode cX8_settle 16 = .ok (.if_icmp .ge 57, 3) := by decide +kernel
theorem dX8_settle_19 : decode cX8_settle 19 = .ok (.iload_n 1, 1) := by decide +kernel
theorem dX8_settle_20 : decode cX8_settle 20 = .ok (.istore_n 2, 1) := by decide +kernel
theorem dX8_settle_21 : decode cX8_settle 21 = .ok (.iconst 0, 1) := by decide +kernel
theorem dX8_settle_22 : decode cX8_settle 22 = .ok (.istore_n 3, 1) := by decide +kernel
theorem dX8_settle_23 : decode cX8_settle 23 = .ok (.iload_n 3, 1) := by decide +kernel
theorem dX8_settle_24 : decode cX8_settle 24 = .ok (.bipush 120, 2) := by decide +kernel
theorem dX8_settle_26 : decode cX8_settle 26 = .ok (.if_icmp .ge 31, 3) := by decide +kernel
theorem dX8_settle_29 : decode cX8_settle 29 = .ok (.aload_n 0, 1) := by decide +kernel
theorem dX8_settle_30 : decode cX8_settle 30 = .ok (.getfield 12, 3) := by decide +kernel
theorem dX8_settle_33 : decode cX8_settle 33 = .ok (.iload_n 2, 1) := by decide +kernel
theorem dX8_settle_34 : decode cX8_settle 34 = .ok (.invokevirtual 55, 3) := by decide +kernel
theorem dX8_settle_37 : decode cX8_settle 37 = .ok (.iconst 4, 1) := by decide +kernel
theorem dX8_settle_38 : decode cX8_settle 38 = .ok (.if_icmp .le 19, 3) := by decide +kernel
theorem dX8_settle_41 : decode cX8_settle 41 = .ok (.aload_n 0, 1) := by decide +kernel
theorem dX8_settle_42 : decode cX8_settle 42 = .ok (.getfield 12, 3) := by decide +kernel
theorem dX8_settle_45 : decode cX8_settle 45 = .ok (.iload_n 2, 1) := by decide +kernel
theorem dX8_settle_46 : decode cX8_settle 46 = .ok (.iconst 0, 1) := by decide +kernel
theorem dX8_settle_47 : decode cX8_settle 47 = .ok (.invokevirtual 122, 3) := by decide +kernel
theorem dX8_settle_50 : decode cX8_settle 50 = .ok (.istore_n 2, 1) := by decide +kernel
theorem dX8_settle_51 : decode cX8_settle 51 = .ok (.iinc 3 1, 3) := by decide +kernel
theorem dX8_settle_54 : decode cX8_settle 54 = .ok (.goto (-31), 3) := by decide +kernel
theorem dX8_settle_57 : decode cX8_settle 57 = .ok (.aload_n 0, 1) := by decide +kernel
theorem dX8_settle_58 : decode cX8_settle 58 = .ok (.getfield 12, 3) := by decide +kernel
theorem dX8_settle_61 : decode cX8_settle 61 = .ok (.getfield 125, 3) := by decide +kernel
theorem dX8_settle_64 : decode cX8_settle 64 = .ok (.iload_n 1, 1) := by decide +kernel
theorem dX8_settle_65 : decode cX8_settle 65 = .ok (.iload_n 2, 1) := by decide +kernel
theorem dX8_settle_66 : decode cX8_settle 66 = .ok (.iastore, 1) := by decide +kernel
theorem dX8_settle_67 : decode cX8_settle 67 = .ok (.iinc 1 1, 3) := by decide +kernel
theorem dX8_settle_70 : decode cX8_settle 70 = .ok (.goto (-68), 3) := by decide +kernel
theorem dX8_settle_73 : decode cX8_settle 73 = .ok (.return_, 1) := by decide +kernel
theorem dX8_sign_0 : decode cX8_sign 0 = .ok (.aload_n 0, 1) := by decide +kernel
theorem dX8_sign_1 : decode cX8_sign 1 = .ok (.getfield 35, 3) := by decide +kernel
theorem dX8_sign_4 : decode cX8_sign 4 = .ok (.ifCond .lt 38, 3) := by decide +kernel
theorem dX8_sign_7 : decode cX8_sign 7 = .ok (.aload_n 0, 1) := by decide +kernel
theorem dX8_sign_8 : decode cX8_sign 8 = .ok (.getfield 35, 3) := by decide +kernel
theorem dX8_sign_11 : decode cX8_sign 11 = .ok (.aload_n 0, 1) := by decide +kernel
theorem dX8_sign_12 : decode cX8_sign 12 = .ok (.getfield 31, 3) := by decide +kernel
theorem dX8_sign_15 : decode cX8_sign 15 = .ok (.if_icmp .ge 27, 3) := by decide +kernel
theorem dX8_sign_18 : decode cX8_sign 18 = .ok (.aload_n 0, 1) := by decide +kernel
theorem dX8_sign_19 : decode cX8_sign 19 = .ok (.getfield 35, 3) := by decide +kernel
theorem dX8_sign_22 : decode cX8_sign 22 = .ok (.aload_n 0, 1) := by decide +kernel
theorem dX8_sign_23 : decode cX8_sign 23 = .ok (.getfield 22, 3) := by decide +kernel
theorem dX8_sign_26 : decode cX8_sign 26 = .ok (.arraylength, 1) := by decide +kernel
theorem dX8_sign_27 : decode cX8_sign 27 = .ok (.if_icmp .ge 15, 3) := by decide +kernel
theorem dX8_sign_30 : decode cX8_sign 30 = .ok (.aload_n 0, 1) := by decide +kernel
theorem dX8_sign_31 : decode cX8_sign 31 = .ok (.getfield 22, 3) := by decide +kernel
theorem dX8_sign_34 : decode cX8_sign 34 = .ok (.aload_n 0, 1) := by decide +kernel
theorem dX8_sign_35 : decode cX8_sign 35 = .ok (.getfield 35, 3) := by decide +kernel
theorem dX8_sign_38 : decode cX8_sign 38 = .ok (.iaload, 1) := by decide +kernel
theorem dX8_sign_39 : decode cX8_sign 39 = .ok (.goto 4, 3) := by decide +kernel
theorem dX8_sign_42 : decode cX8_sign 42 = .ok (.iconst 0, 1) := by decide +kernel
theorem dX8_sign_43 : decode cX8_sign 43 = .ok (.ireturn, 1) := by decide +kernel
set_option maxRecDepth 20000 in
theorem ggX8_goesOn_X8_sign : GoodIn wsX8_goesOn wsX8_sign := goodIn_r _ [6, 1, 7, 8, 9, 10, 11, 12, 13] (by decide +kernel) (by decide +kernel)
set_option maxRecDepth 20000 in
theorem gX8_goesOn_X8_sign : GoodIn wsX8_goesOn (wsV RX8 70 RX8 yX8_sign wsX8_sign) := goodIn_app (goodIn_of _ (by decide +kernel)) ggX8_goesOn_X8_sign
theorem dX8_goesOn_0 : decode cX8_goesOn 0 = .ok (.aload_n 0, 1) := by decide +kernel
theorem dX8_goesOn_1 : decode cX8_goesOn 1 = .ok (.invokevirtual 70, 3) := by decide +kernel
theorem dX8_goesOn_4 : decode cX8_goesOn 4 = .ok (.iload_n 1, 1) := by decide +kernel
theorem dX8_goesOn_5 : decode cX8_goesOn 5 = .ok (.if_icmp .eq 5, 3) := by decide +kernel
theorem dX8_goesOn_8 : decode cX8_goesOn 8 = .ok (.iconst 0, 1) := by decide +kernel
theorem dX8_goesOn_9 : decode cX8_goesOn 9 = .ok (.ireturn, 1) := by decide +kernel
theorem dX8_goesOn_10 : decode cX8_goesOn 10 = .ok (.aload_n 0, 1) := by decide +kernel
theorem dX8_goesOn_11 : decode cX8_goesOn 11 = .ok (.dup, 1) := by decide +kernel
theorem dX8_goesOn_12 : decode cX8_goesOn 12 = .ok (.getfield 35, 3) := by decide +kernel
theorem dX8_goesOn_15 : decode cX8_goesOn 15 = .ok (.iconst 1, 1) := by decide +kernel
theorem dX8_goesOn_16 : decode cX8_goesOn 16 = .ok (.iadd, 1) := by decide +kernel
theorem dX8_goesOn_17 : decode cX8_goesOn 17 = .ok (.putfield 35, 3) := by decide +kernel
theorem dX8_goesOn_20 : decode cX8_goesOn 20 = .ok (.iconst 1, 1) := by decide +kernel
theorem dX8_goesOn_21 : decode cX8_goesOn 21 = .ok (.ireturn, 1) := by decide +kernel
theorem dX8_isLetter_0 : decode cX8_isLetter 0 = .ok (.iload_n 0, 1) := by decide +kernel
theorem dX8_isLetter_1 : decode cX8_isLetter 1 = .ok (.bipush 97, 2) := by decide +kernel
theorem dX8_isLetter_3 : decode cX8_isLetter 3 = .ok (.if_icmp .lt 13, 3) := by decide +kernel
theorem dX8_isLetter_6 : decode cX8_isLetter 6 = .ok (.iload_n 0, 1) := by decide +kernel
theorem dX8_isLetter_7 : decode cX8_isLetter 7 = .ok (.bipush 122, 2) := by decide +kernel
theorem dX8_isLetter_9 : decode cX8_isLetter 9 = .ok (.if_icmp .gt 7, 3) := by decide +kernel
theorem dX8_isLetter_12 : decode cX8_isLetter 12 = .ok (.iconst 1, 1) := by decide +kernel
theorem dX8_isLetter_13 : decode cX8_isLetter 13 = .ok (.goto 4, 3) := by decide +kernel
theorem dX8_isLetter_16 : decode cX8_isLetter 16 = .ok (.iconst 0, 1) := by decide +kernel
theorem dX8_isLetter_17 : decode cX8_isLetter 17 = .ok (.ireturn, 1) := by decide +kernel
set_option maxRecDepth 20000 in
theorem ggX9_init_X0_init : GoodIn wsX9_init wsX0_init := goodIn_r _ [18, 19, 2, 3, 20, 21, 44, 45, 46, 47, 48, 49] (by decide +kernel) (by decide +kernel)
set_option maxRecDepth 20000 in
theorem gX9_init_X0_init_n25 : GoodIn wsX9_init (wsX0_init) := ggX9_init_X0_init
set_option maxRecDepth 20000 in
theorem ggX9_init_X2_init : GoodIn wsX9_init wsX2_init := goodIn_r _ [23, 24, 2, 3, 25, 20, 26, 50, 51, 52, 53, 54, 55, 56, 57] (by decide +kernel) (by decide +kernel)
set_option maxRecDepth 20000 in
theorem gX9_init_X2_init_n34 : GoodIn wsX9_init (wsX2_init) := ggX9_init_X2_init
set_option maxRecDepth 20000 in
theorem ggX9_init_X5_init : GoodIn wsX9_init wsX5_init := goodIn_r _ [28, 29, 2, 3, 20, 30, 31, 32, 58, 59, 60, 61, 62] (by decide +kernel) (by decide +kernel)
set_option maxRecDepth 20000 in
theorem gX9_init_X5_init_n35 : GoodIn wsX9_init (wsX5_init) := ggX9_init_X5_init
theorem dX9_init_0 : decode cX9_init 0 = .ok (.aload_n 0, 1) := by decide +kernel
theorem dX9_init_1 : decode cX9_init 1 = .ok (.invokespecial 3, 3) := by decide +kernel
theorem dX9_init_4 : decode cX9_init 4 = .ok (.aload_n 0, 1) := by decide +kernel
theorem dX9_init_5 : decode cX9_init 5 = .ok (.bipush 16, 2) := by decide +kernel
theorem dX9_init_7 : decode cX9_init 7 = .ok (.anewarray 9, 3) := by decide +kernel
theorem dX9_init_10 : decode cX9_init 10 = .ok (.putfield 11, 3) := by decide +kernel
theorem dX9_init_13 : decode cX9_init 13 = .ok (.aload_n 0, 1) := by decide +kernel
theorem dX9_init_14 : decode cX9_init 14 = .ok (.iconst 4, 1) := by decide +kernel
theorem dX9_init_15 : decode cX9_init 15 = .ok (.anewarray 17, 3) := by decide +kernel
theorem dX9_init_18 : decode cX9_init 18 = .ok (.putfield 19, 3) := by decide +kernel
theorem dX9_init_21 : decode cX9_init 21 = .ok (.aload_n 0, 1) := by decide +kernel
theorem dX9_init_22 : decode cX9_init 22 = .ok (.new 23, 3) := by decide +kernel
theorem dX9_init_25 : decode cX9_init 25 = .ok (.dup, 1) := by decide +kernel
theorem dX9_init_26 : decode cX9_init 26 = .ok (.invokespecial 25, 3) := by decide +kernel
theorem dX9_init_29 : decode cX9_init 29 = .ok (.putfield 26, 3) := by decide +kernel
theorem dX9_init_32 : decode cX9_init 32 = .ok (.aload_n 0, 1) := by decide +kernel
theorem dX9_init_33 : decode cX9_init 33 = .ok (.iconst 2, 1) := by decide +kernel
theorem dX9_init_34 : decode cX9_init 34 = .ok (.putfield 30, 3) := by decide +kernel
theorem dX9_init_37 : decode cX9_init 37 = .ok (.iconst 0, 1) := by decide +kernel
theorem dX9_init_38 : decode cX9_init 38 = .ok (.istore_n 1, 1) := by decide +kernel
theorem dX9_init_39 : decode cX9_init 39 = .ok (.iload_n 1, 1) := by decide +kernel
theorem dX9_init_40 : decode cX9_init 40 = .ok (.bipush 16, 2) := by decide +kernel
theorem dX9_init_42 : decode cX9_init 42 = .ok (.if_icmp .ge 22, 3) := by decide +kernel
theorem dX9_init_45 : decode cX9_init 45 = .ok (.aload_n 0, 1) := by decide +kernel
theorem dX9_init_46 : decode cX9_init 46 = .ok (.getfield 11, 3) := by decide +kernel
theorem dX9_init_49 : decode cX9_init 49 = .ok (.iload_n 1, 1) := by decide +kernel
theorem dX9_init_50 : decode cX9_init 50 = .ok (.new 9, 3) := by decide +kernel
theorem dX9_init_53 : decode cX9_init 53 = .ok (.dup, 1) := by decide +kernel
theorem dX9_init_54 : decode cX9_init 54 = .ok (.invokespecial 34, 3) := by decide +kernel
theorem dX9_init_57 : decode cX9_init 57 = .ok (.aastore, 1) := by decide +kernel
theorem dX9_init_58 : decode cX9_init 58 = .ok (.iinc 1 1, 3) := by decide +kernel
theorem dX9_init_61 : decode cX9_init 61 = .ok (.goto (-22), 3) := by decide +kernel
theorem dX9_init_64 : decode cX9_init 64 = .ok (.iconst 0, 1) := by decide +kernel
theorem dX9_init_65 : decode cX9_init 65 = .ok (.istore_n 1, 1) := by decide +kernel
theorem dX9_init_66 : decode cX9_init 66 = .ok (.iload_n 1, 1) := by decide +kernel
theorem dX9_init_67 : decode cX9_init 67 = .ok (.iconst 4, 1) := by decide +kernel
theorem dX9_init_68 : decode cX9_init 68 = .ok (.if_icmp .ge 22, 3) := by decide +kernel
theorem dX9_init_71 : decode cX9_init 71 = .ok (.aload_n 0, 1) := by decide +kernel
theorem dX9_init_72 : decode cX9_init 72 = .ok (.getfield 19, 3) := by decide +kernel
theorem dX9_init_75 : decode cX9_init 75 = .ok (.iload_n 1, 1) := by decide +kernel
theorem dX9_init_76 : decode cX9_init 76 = .ok (.new 17, 3) := by decide +kernel
theorem dX9_init_79 : decode cX9_init 79 = .ok (.dup, 1) := by decide +kernel
theorem dX9_init_80 : decode cX9_init 80 = .ok (.invokespecial 35, 3) := by decide +kernel
theorem dX9_init_83 : decode cX9_init 83 = .ok (.aastore, 1) := by decide +kernel
theorem dX9_init_84 : decode cX9_init 84 = .ok (.iinc 1 1, 3) := by decide +kernel
theorem dX9_init_87 : decode cX9_init 87 = .ok (.goto (-21), 3) := by decide +kernel
theorem dX9_init_90 : decode cX9_init 90 = .ok (.return_, 1) := by decide +kernel
theorem dX9_sessionsOver_0 : decode cX9_sessionsOver 0 = .ok (.iconst 0, 1) := by decide +kernel
theorem dX9_sessionsOver_1 : decode cX9_sessionsOver 1 = .ok (.istore_n 1, 1) := by decide +kernel
theorem dX9_sessionsOver_2 : decode cX9_sessionsOver 2 = .ok (.iconst 0, 1) := by decide +kernel
theorem dX9_sessionsOver_3 : decode cX9_sessionsOver 3 = .ok (.istore_n 2, 1) := by decide +kernel
theorem dX9_sessionsOver_4 : decode cX9_sessionsOver 4 = .ok (.iload_n 2, 1) := by decide +kernel
theorem dX9_sessionsOver_5 : decode cX9_sessionsOver 5 = .ok (.iconst 1, 1) := by decide +kernel
theorem dX9_sessionsOver_6 : decode cX9_sessionsOver 6 = .ok (.iadd, 1) := by decide +kernel
theorem dX9_sessionsOver_7 : decode cX9_sessionsOver 7 = .ok (.bipush 16, 2) := by decide +kernel
theorem dX9_sessionsOver_9 : decode cX9_sessionsOver 9 = .ok (.if_icmp .ge 48, 3) := by decide +kernel
theorem dX9_sessionsOver_12 : decode cX9_sessionsOver 12 = .ok (.iload_n 2, 1) := by decide +kernel
theorem dX9_sessionsOver_13 : decode cX9_sessionsOver 13 = .ok (.iconst 2, 1) := by decide +kernel
theorem dX9_sessionsOver_14 : decode cX9_sessionsOver 14 = .ok (.aload_n 0, 1) := by decide +kernel
theorem dX9_sessionsOver_15 : decode cX9_sessionsOver 15 = .ok (.getfield 46, 3) := by decide +kernel
theorem dX9_sessionsOver_18 : decode cX9_sessionsOver 18 = .ok (.imul, 1) := by decide +kernel
theorem dX9_sessionsOver_19 : decode cX9_sessionsOver 19 = .ok (.if_icmp .ge 38, 3) := by decide +kernel
theorem dX9_sessionsOver_22 : decode cX9_sessionsOver 22 = .ok (.aload_n 0, 1) := by decide +kernel
theorem dX9_sessionsOver_23 : decode cX9_sessionsOver 23 = .ok (.getfield 11, 3) := by decide +kernel
theorem dX9_sessionsOver_26 : decode cX9_sessionsOver 26 = .ok (.iload_n 2, 1) := by decide +kernel
theorem dX9_sessionsOver_27 : decode cX9_sessionsOver 27 = .ok (.aaload, 1) := by decide +kernel
theorem dX9_sessionsOver_28 : decode cX9_sessionsOver 28 = .ok (.getfield 67, 3) := by decide +kernel
theorem dX9_sessionsOver_31 : decode cX9_sessionsOver 31 = .ok (.ifCond .eq 20, 3) := by decide +kernel
theorem dX9_sessionsOver_34 : decode cX9_sessionsOver 34 = .ok (.aload_n 0, 1) := by decide +kernel
theorem dX9_sessionsOver_35 : decode cX9_sessionsOver 35 = .ok (.getfield 11, 3) := by decide +kernel
theorem dX9_sessionsOver_38 : decode cX9_sessionsOver 38 = .ok (.iload_n 2, 1) := by decide +kernel
theorem dX9_sessionsOver_39 : decode cX9_sessionsOver 39 = .ok (.iconst 1, 1) := by decide +kernel
theorem dX9_sessionsOver_40 : decode cX9_sessionsOver 40 = .ok (.iadd, 1) := by decide +kernel
theorem dX9_sessionsOver_41 : decode cX9_sessionsOver 41 = .ok (.aaload, 1) := by decide +kernel
theorem dX9_sessionsOver_42 : decode cX9_sessionsOver 42 = .ok (.getfield 67, 3) := by decide +kernel
theorem dX9_sessionsOver_45 : decode cX9_sessionsOver 45 = .ok (.ifCond .eq 6, 3) := by decide +kernel
theorem dX9_sessionsOver_48 : decode cX9_sessionsOver 48 = .ok (.iinc 1 1, 3) := by decide +kernel
theorem dX9_sessionsOver_51 : decode cX9_sessionsOver 51 = .ok (.iinc 2 2, 3) := by decide +kernel
theorem dX9_sessionsOver_54 : decode cX9_sessionsOver 54 = .ok (.goto (-50), 3) := by decide +kernel
theorem dX9_sessionsOver_57 : decode cX9_sessionsOver 57 = .ok (.iload_n 1, 1) := by decide +kernel
theorem dX9_sessionsOver_58 : decode cX9_sessionsOver 58 = .ok (.ireturn, 1) := by decide +kernel
theorem dX9_lettersLying_0 : decode cX9_lettersLying 0 = .ok (.iconst 0, 1) := by decide +kernel
theorem dX9_lettersLying_1 : decode cX9_lettersLying 1 = .ok (.istore_n 1, 1) := by decide +kernel
theorem dX9_lettersLying_2 : decode cX9_lettersLying 2 = .ok (.iconst 0, 1) := by decide +kernel
theorem dX9_lettersLying_3 : decode cX9_lettersLying 3 = .ok (.istore_n 2, 1) := by decide +kernel
theorem dX9_lettersLying_4 : decode cX9_lettersLying 4 = .ok (.iload_n 2, 1) := by decide +kernel
theorem dX9_lettersLying_5 : decode cX9_lettersLying 5 = .ok (.bipush 16, 2) := by decide +kernel
theorem dX9_lettersLying_7 : decode cX9_lettersLying 7 = .ok (.if_icmp .ge 31, 3) := by decide +kernel
theorem dX9_lettersLying_10 : decode cX9_lettersLying 10 = .ok (.iload_n 2, 1) := by decide +kernel
theorem dX9_lettersLying_11 : decode cX9_lettersLying 11 = .ok (.iconst 2, 1) := by decide +kernel
theorem dX9_lettersLying_12 : decode cX9_lettersLying 12 = .ok (.aload_n 0, 1) := by decide +kernel
theorem dX9_lettersLying_13 : decode cX9_lettersLying 13 = .ok (.getfield 46, 3) := by decide +kernel
theorem dX9_lettersLying_16 : decode cX9_lettersLying 16 = .ok (.imul, 1) := by decide +kernel
theorem dX9_lettersLying_17 : decode cX9_lettersLying 17 = .ok (.if_icmp .ge 21, 3) := by decide +kernel
theorem dX9_lettersLying_20 : decode cX9_lettersLying 20 = .ok (.iload_n 1, 1) := by decide +kernel
theorem dX9_lettersLying_21 : decode cX9_lettersLying 21 = .ok (.aload_n 0, 1) := by decide +kernel
theorem dX9_lettersLying_22 : decode cX9_lettersLying 22 = .ok (.getfield 11, 3) := by decide +kernel
theorem dX9_lettersLying_25 : decode cX9_lettersLying 25 = .ok (.iload_n 2, 1) := by decide +kernel
theorem dX9_lettersLying_26 : decode cX9_lettersLying 26 = .ok (.aaload, 1) := by decide +kernel
theorem dX9_lettersLying_27 : decode cX9_lettersLying 27 = .ok (.getfield 70, 3) := by decide +kernel
theorem dX9_lettersLying_30 : decode cX9_lettersLying 30 = .ok (.iadd, 1) := by decide +kernel
theorem dX9_lettersLying_31 : decode cX9_lettersLying 31 = .ok (.istore_n 1, 1) := by decide +kernel
theorem dX9_lettersLying_32 : decode cX9_lettersLying 32 = .ok (.iinc 2 1, 3) := by decide +kernel
theorem dX9_lettersLying_35 : decode cX9_lettersLying 35 = .ok (.goto (-31), 3) := by decide +kernel
theorem dX9_lettersLying_38 : decode cX9_lettersLying 38 = .ok (.iload_n 1, 1) := by decide +kernel
theorem dX9_lettersLying_39 : decode cX9_lettersLying 39 = .ok (.ireturn, 1) := by decide +kernel
theorem dX9_endsUnheld_0 : decode cX9_endsUnheld 0 = .ok (.iconst 0, 1) := by decide +kernel
theorem dX9_endsUnheld_1 : decode cX9_endsUnheld 1 = .ok (.istore_n 1, 1) := by decide +kernel
theorem dX9_endsUnheld_2 : decode cX9_endsUnheld 2 = .ok (.iconst 0, 1) := by decide +kernel
theorem dX9_endsUnheld_3 : decode cX9_endsUnheld 3 = .ok (.istore_n 2, 1) := by decide +kernel
theorem dX9_endsUnheld_4 : decode cX9_endsUnheld 4 = .ok (.iload_n 2, 1) := by decide +kernel
theorem dX9_endsUnheld_5 : decode cX9_endsUnheld 5 = .ok (.bipush 16, 2) := by decide +kernel
theorem dX9_endsUnheld_7 : decode cX9_endsUnheld 7 = .ok (.if_icmp .ge 36, 3) := by decide +kernel
theorem dX9_endsUnheld_10 : decode cX9_endsUnheld 10 = .ok (.iload_n 2, 1) := by decide +kernel
theorem dX9_endsUnheld_11 : decode cX9_endsUnheld 11 = .ok (.iconst 2, 1) := by decide +kernel
theorem dX9_endsUnheld_12 : decode cX9_endsUnheld 12 = .ok (.aload_n 0, 1) := by decide +kernel
theorem dX9_endsUnheld_13 : decode cX9_endsUnheld 13 = .ok (.getfield 46, 3) := by decide +kernel
theorem dX9_endsUnheld_16 : decode cX9_endsUnheld 16 = .ok (.imul, 1) := by decide +kernel
theorem dX9_endsUnheld_17 : decode cX9_endsUnheld 17 = .ok (.if_icmp .ge 26, 3) := by decide +kernel
theorem dX9_endsUnheld_20 : decode cX9_endsUnheld 20 = .ok (.aload_n 0, 1) := by decide +kernel
theorem dX9_endsUnheld_21 : decode cX9_endsUnheld 21 = .ok (.getfield 11, 3) := by decide +kernel
theorem dX9_endsUnheld_24 : decode cX9_endsUnheld 24 = .ok (.iload_n 2, 1) := by decide +kernel
theorem dX9_endsUnheld_25 : decode cX9_endsUnheld 25 = .ok (.aaload, 1) := by decide +kernel
theorem dX9_endsUnheld_26 : decode cX9_endsUnheld 26 = .ok (.getfield 73, 3) := by decide +kernel
theorem dX9_endsUnheld_29 : decode cX9_endsUnheld 29 = .ok (.bipush 9, 2) := by decide +kernel
theorem dX9_endsUnheld_31 : decode cX9_endsUnheld 31 = .ok (.if_icmp .ne 6, 3) := by decide +kernel
theorem dX9_endsUnheld_34 : decode cX9_endsUnheld 34 = .ok (.iinc 1 1, 3) := by decide +kernel
theorem dX9_endsUnheld_37 : decode cX9_endsUnheld 37 = .ok (.iinc 2 1, 3) := by decide +kernel
theorem dX9_endsUnheld_40 : decode cX9_endsUnheld 40 = .ok (.goto (-36), 3) := by decide +kernel
theorem dX9_endsUnheld_43 : decode cX9_endsUnheld 43 = .ok (.iload_n 1, 1) := by decide +kernel
theorem dX9_endsUnheld_44 : decode cX9_endsUnheld 44 = .ok (.ireturn, 1) := by decide +kernel
theorem dX10_init_0 : decode cX10_init 0 = .ok (.aload_n 0, 1) := by decide +kernel
theorem dX10_init_1 : decode cX10_init 1 = .ok (.invokespecial 3, 3) := by decide +kernel
theorem dX10_init_4 : decode cX10_init 4 = .ok (.aload_n 0, 1) := by decide +kernel
theorem dX10_init_5 : decode cX10_init 5 = .ok (.sipush 200, 3) := by decide +kernel
theorem dX10_init_8 : decode cX10_init 8 = .ok (.newarray .int, 2) := by decide +kernel
theorem dX10_init_10 : decode cX10_init 10 = .ok (.putfield 9, 3) := by decide +kernel
theorem dX10_init_13 : decode cX10_init 13 = .ok (.return_, 1) := by decide +kernel
