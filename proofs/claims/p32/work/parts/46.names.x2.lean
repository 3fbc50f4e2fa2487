set_option maxRecDepth 20000 in
theorem gX11_enact_X11_accuse : GoodIn wsX11_enact (wsV RX11 304 RX11 yX11_accuse wsX11_accuse) := goodIn_app (goodIn_of _ (by decide +kernel)) ggX11_enact_X11_accuse
set_option maxRecDepth 20000 in
theorem ggX11_enact_X11_perform : GoodIn wsX11_enact wsX11_perform := goodIn_r _ [185, 1, 11, 14, 13, 2, 161, 186, 16, 17, 18, 19, 20, 21, 22, 23, 24, 25, 26, 27, 28, 29, 187, 188, 189, 190, 191, 192, 193, 194, 195, 196, 197, 198, 199, 200, 201, 202, 203, 204, 9, 205, 12, 206, 63, 64, 65, 66, 67, 68, 207, 208, 209, 210, 211, 137, 138, 139, 140, 141, 120, 121, 122, 123, 142, 55, 56, 57, 58, 143, 144, 145, 146, 147, 148, 149, 212, 213, 214, 215, 216, 217, 218, 219, 220, 221, 222, 223, 224, 225, 226, 227, 228, 229, 230, 231, 232, 233, 234, 235, 236, 237, 238, 239, 240, 241, 242, 243, 244, 245, 246, 247, 248, 249, 250, 251, 252] (by decide +kernel) (by decide +kernel)
set_option maxRecDepth 20000 in
theorem gX11_enact_X11_perform : GoodIn wsX11_enact (wsV RX11 308 RX11 yX11_perform wsX11_perform) := goodIn_app (goodIn_of _ (by decide +kernel)) ggX11_enact_X11_perform
theorem dX11_enact_0 : decode cX11_enact 0 = .ok (.aload_n 0, 1) := by decide +kernel
theorem dX11_enact_1 : decode cX11_enact 1 = .ok (.getfield 69, 3) := by decide +kernel
theorem dX11_enact_4 : decode cX11_enact 4 = .ok (.dup, 1) := by decide +kernel
theorem dX11_enact_5 : decode cX11_enact 5 = .ok (.getfield 265, 3) := by decide +kernel
theorem dX11_enact_8 : decode cX11_enact 8 = .ok (.iconst 1, 1) := by decide +kernel
theorem dX11_enact_9 : decode cX11_enact 9 = .ok (.iadd, 1) := by decide +kernel
theorem dX11_enact_10 : decode cX11_enact 10 = .ok (.putfield 265, 3) := by decide +kernel
theorem dX11_enact_13 : decode cX11_enact 13 = .ok (.aload_n 0, 1) := by decide +kernel
theorem dX11_enact_14 : decode cX11_enact 14 = .ok (.iload_n 1, 1) := by decide +kernel
theorem dX11_enact_15 : decode cX11_enact 15 = .ok (.iload_n 2, 1) := by decide +kernel
theorem dX11_enact_16 : decode cX11_enact 16 = .ok (.iload_n 3, 1) := by decide +kernel
theorem dX11_enact_17 : decode cX11_enact 17 = .ok (.iload 4, 2) := by decide +kernel
theorem dX11_enact_19 : decode cX11_enact 19 = .ok (.invokevirtual 301, 3) := by decide +kernel
theorem dX11_enact_22 : decode cX11_enact 22 = .ok (.istore 5, 2) := by decide +kernel
theorem dX11_enact_24 : decode cX11_enact 24 = .ok (.iload 5, 2) := by decide +kernel
theorem dX11_enact_26 : decode cX11_enact 26 = .ok (.bipush (-4), 2) := by decide +kernel
theorem dX11_enact_28 : decode cX11_enact 28 = .ok (.if_icmp .ne 19, 3) := by decide +kernel
theorem dX11_enact_31 : decode cX11_enact 31 = .ok (.aload_n 0, 1) := by decide +kernel
theorem dX11_enact_32 : decode cX11_enact 32 = .ok (.getfield 69, 3) := by decide +kernel
theorem dX11_enact_35 : decode cX11_enact 35 = .ok (.dup, 1) := by decide +kernel
theorem dX11_enact_36 : decode cX11_enact 36 = .ok (.getfield 271, 3) := by decide +kernel
theorem dX11_enact_39 : decode cX11_enact 39 = .ok (.iconst 1, 1) := by decide +kernel
theorem dX11_enact_40 : decode cX11_enact 40 = .ok (.iadd, 1) := by decide +kernel
theorem dX11_enact_41 : decode cX11_enact 41 = .ok (.putfield 271, 3) := by decide +kernel
theorem dX11_enact_44 : decode cX11_enact 44 = .ok (.bipush (-4), 2) := by decide +kernel
theorem dX11_enact_46 : decode cX11_enact 46 = .ok (.ireturn, 1) := by decide +kernel
theorem dX11_enact_47 : decode cX11_enact 47 = .ok (.iload 5, 2) := by decide +kernel
theorem dX11_enact_49 : decode cX11_enact 49 = .ok (.ifCond .eq 30, 3) := by decide +kernel
theorem dX11_enact_52 : decode cX11_enact 52 = .ok (.aload_n 0, 1) := by decide +kernel
theorem dX11_enact_53 : decode cX11_enact 53 = .ok (.getfield 69, 3) := by decide +kernel
theorem dX11_enact_56 : decode cX11_enact 56 = .ok (.dup, 1) := by decide +kernel
theorem dX11_enact_57 : decode cX11_enact 57 = .ok (.getfield 274, 3) := by decide +kernel
theorem dX11_enact_60 : decode cX11_enact 60 = .ok (.iconst 1, 1) := by decide +kernel
theorem dX11_enact_61 : decode cX11_enact 61 = .ok (.iadd, 1) := by decide +kernel
theorem dX11_enact_62 : decode cX11_enact 62 = .ok (.putfield 274, 3) := by decide +kernel
theorem dX11_enact_65 : decode cX11_enact 65 = .ok (.aload_n 0, 1) := by decide +kernel
theorem dX11_enact_66 : decode cX11_enact 66 = .ok (.iload_n 1, 1) := by decide +kernel
theorem dX11_enact_67 : decode cX11_enact 67 = .ok (.iload_n 2, 1) := by decide +kernel
theorem dX11_enact_68 : decode cX11_enact 68 = .ok (.iload_n 3, 1) := by decide +kernel
theorem dX11_enact_69 : decode cX11_enact 69 = .ok (.iload 4, 2) := by decide +kernel
theorem dX11_enact_71 : decode cX11_enact 71 = .ok (.iload 5, 2) := by decide +kernel
theorem dX11_enact_73 : decode cX11_enact 73 = .ok (.invokevirtual 304, 3) := by decide +kernel
theorem dX11_enact_76 : decode cX11_enact 76 = .ok (.bipush (-6), 2) := by decide +kernel
theorem dX11_enact_78 : decode cX11_enact 78 = .ok (.ireturn, 1) := by decide +kernel
theorem dX11_enact_79 : decode cX11_enact 79 = .ok (.aload_n 0, 1) := by decide +kernel
theorem dX11_enact_80 : decode cX11_enact 80 = .ok (.getfield 69, 3) := by decide +kernel
theorem dX11_enact_83 : decode cX11_enact 83 = .ok (.dup, 1) := by decide +kernel
theorem dX11_enact_84 : decode cX11_enact 84 = .ok (.getfield 268, 3) := by decide +kernel
theorem dX11_enact_87 : decode cX11_enact 87 = .ok (.iconst 1, 1) := by decide +kernel
theorem dX11_enact_88 : decode cX11_enact 88 = .ok (.iadd, 1) := by decide +kernel
theorem dX11_enact_89 : decode cX11_enact 89 = .ok (.putfield 268, 3) := by decide +kernel
theorem dX11_enact_92 : decode cX11_enact 92 = .ok (.aload_n 0, 1) := by decide +kernel
theorem dX11_enact_93 : decode cX11_enact 93 = .ok (.iload_n 1, 1) := by decide +kernel
theorem dX11_enact_94 : decode cX11_enact 94 = .ok (.iload_n 2, 1) := by decide +kernel
theorem dX11_enact_95 : decode cX11_enact 95 = .ok (.iload_n 3, 1) := by decide +kernel
theorem dX11_enact_96 : decode cX11_enact 96 = .ok (.iload 4, 2) := by decide +kernel
theorem dX11_enact_98 : decode cX11_enact 98 = .ok (.invokevirtual 308, 3) := by decide +kernel
theorem dX11_enact_101 : decode cX11_enact 101 = .ok (.ireturn, 1) := by decide +kernel
set_option maxRecDepth 20000 in
theorem ggX11_judge_X2_kind : GoodIn wsX11_judge wsX2_kind := goodIn_r _ [12, 13, 14, 15, 16, 17, 18, 19, 20, 172, 173, 174, 175, 176, 177, 178, 179, 180, 181, 182, 183, 184, 185, 186, 187, 188] (by decide +kernel) (by decide +kernel)
set_option maxRecDepth 20000 in
theorem gX11_judge_X2_kind : GoodIn wsX11_judge (wsV RX11 194 RX2 yX2_kind wsX2_kind) := goodIn_app (goodIn_of _ (by decide +kernel)) ggX11_judge_X2_kind
set_option maxRecDepth 20000 in
theorem ggX11_judge_X11_kindFor : GoodIn wsX11_judge wsX11_kindFor := goodIn_r _ [24] (by decide +kernel) (by decide +kernel)
set_option maxRecDepth 20000 in
theorem gX11_judge_X11_kindFor : GoodIn wsX11_judge (va_wsS RX11 314 yX11_kindFor wsX11_kindFor) := goodIn_app (goodIn_of _ (by decide +kernel)) ggX11_judge_X11_kindFor
set_option maxRecDepth 20000 in
theorem ggX11_judge_X2_isAtBrackets : GoodIn wsX11_judge wsX2_isAtBrackets := goodIn_r _ [28, 13, 14, 29, 30, 31, 18, 32, 33, 172, 173, 174, 175, 176, 177, 178, 179, 180, 181, 182, 183, 184, 185, 186, 187, 188] (by decide +kernel) (by decide +kernel)
set_option maxRecDepth 20000 in
theorem gX11_judge_X2_isAtBrackets : GoodIn wsX11_judge (wsV RX11 317 RX2 yX2_isAtBrackets wsX2_isAtBrackets) := goodIn_app (goodIn_of _ (by decide +kernel)) ggX11_judge_X2_isAtBrackets
set_option maxRecDepth 20000 in
theorem ggX11_judge_X2_maySay : GoodIn wsX11_judge wsX2_maySay := goodIn_r _ [37, 13, 14, 29, 30, 31, 18, 32, 33, 172, 173, 174, 175, 176, 177, 178, 179, 180, 181, 182, 183, 184, 185, 186, 187, 188] (by decide +kernel) (by decide +kernel)
set_option maxRecDepth 20000 in
theorem gX11_judge_X2_maySay : GoodIn wsX11_judge (wsV RX11 321 RX2 yX2_maySay wsX2_maySay) := goodIn_app (goodIn_of _ (by decide +kernel)) ggX11_judge_X2_maySay
set_option maxRecDepth 20000 in
theorem ggX11_judge_X2_mayPick : GoodIn wsX11_judge wsX2_mayPick := goodIn_r _ [41, 42, 43, 44, 11, 45, 13, 14, 46, 47, 48, 18, 49, 50, 172, 173, 174, 175, 176, 177, 178, 179, 180, 181, 182, 183, 184, 185, 186, 187, 188] (by decide +kernel) (by decide +kernel)
set_option maxRecDepth 20000 in
theorem gX11_judge_X2_mayPick : GoodIn wsX11_judge (wsV RX11 324 RX2 yX2_mayPick wsX2_mayPick) := goodIn_app (goodIn_of _ (by decide +kernel)) ggX11_judge_X2_mayPick
set_option maxRecDepth 20000 in
theorem ggX11_judge_X11_mayBeGiven : GoodIn wsX11_judge wsX11_mayBeGiven := goodIn_r _ [54, 1, 2, 3, 4, 5, 148, 149, 150, 151, 152, 153, 154, 155, 156, 157, 158, 159, 160, 161, 162, 163, 164, 165, 166, 167, 168, 169, 170, 171, 172, 173, 174, 175, 176, 177, 178, 179] (by decide +kernel) (by decide +kernel)
set_option maxRecDepth 20000 in
theorem gX11_judge_X11_mayBeGiven : GoodIn wsX11_judge (wsV RX11 327 RX11 yX11_mayBeGiven wsX11_mayBeGiven) := goodIn_app (goodIn_of _ (by decide +kernel)) ggX11_judge_X11_mayBeGiven
set_option maxRecDepth 20000 in
theorem ggX11_judge_X7_innerOf : GoodIn wsX11_judge wsX7_innerOf := goodIn_r _ [58, 59, 60, 180, 181, 182, 183, 184, 185, 186, 187, 188] (by decide +kernel) (by decide +kernel)
set_option maxRecDepth 20000 in
theorem gX11_judge_X7_innerOf : GoodIn wsX11_judge (wsV RX11 334 RX7 yX7_innerOf wsX7_innerOf) := goodIn_app (goodIn_of _ (by decide +kernel)) ggX11_judge_X7_innerOf
set_option maxRecDepth 20000 in
theorem ggX11_judge_X3_find : GoodIn wsX11_judge wsX3_find := goodIn_r _ [65, 66, 67, 68, 69, 70, 71, 72, 73, 74, 75, 76, 77, 64, 78, 79, 80, 81, 82, 83, 84, 16, 17, 18, 19, 20, 85, 30, 31, 32, 33, 86, 47, 48, 49, 50, 87, 88, 89, 90, 91, 56, 57, 58, 59, 60, 92, 93, 94, 95, 96, 97, 98, 99, 100, 101, 102, 103, 104, 105, 106, 107, 108, 109, 110, 111, 112, 113, 114, 115, 116, 117, 118, 119, 120, 121, 122, 123, 124, 125, 126, 127, 128, 129, 130, 131, 132, 133, 134, 135, 136, 137, 138, 139, 140, 141, 189, 190, 191, 192, 193, 194, 195, 196, 180, 181, 182, 183, 184, 185, 186, 187, 188, 197, 198, 199] (by decide +kernel) (by decide +kernel)
set_option maxRecDepth 20000 in
theorem gX11_judge_X3_find : GoodIn wsX11_judge (wsV RX11 136 RX3 yX3_find wsX3_find) := goodIn_app (goodIn_of _ (by decide +kernel)) ggX11_judge_X3_find
set_option maxRecDepth 20000 in
theorem ggX11_judge_X11_waitsFor : GoodIn wsX11_judge wsX11_waitsFor := goodIn_r _ [145, 1, 2, 146, 147, 21, 22, 23, 24, 148, 149, 150, 151, 152, 153, 154, 155, 156, 157, 158, 159, 160, 161, 162, 163, 164, 165, 166, 167, 168, 169, 170, 171, 172, 173, 174, 175, 176, 177, 178, 179] (by decide +kernel) (by decide +kernel)
set_option maxRecDepth 20000 in
theorem gX11_judge_X11_waitsFor : GoodIn wsX11_judge (wsV RX11 337 RX11 yX11_waitsFor wsX11_waitsFor) := goodIn_app (goodIn_of _ (by decide +kernel)) ggX11_judge_X11_waitsFor
theorem dX11_judge_0 : decode cX11_judge 0 = .ok (.iload_n 2, 1) := by decide +kernel
theorem dX11_judge_1 : decode cX11_judge 1 = .ok (.ifCond .lt 15, 3) := by decide +kernel
theorem dX11_judge_4 : decode cX11_judge 4 = .ok (.iload_n 2, 1) := by decide +kernel
theorem dX11_judge_5 : decode cX11_judge 5 = .ok (.aload_n 0, 1) := by decide +kernel
theorem dX11_judge_6 : decode cX11_judge 6 = .ok (.getfield 69, 3) := by decide +kernel
theorem dX11_judge_9 : decode cX11_judge 9 = .ok (.getfield 171, 3) := by decide +kernel
theorem dX11_judge_12 : decode cX11_judge 12 = .ok (.arraylength, 1) := by decide +kernel
theorem dX11_judge_13 : decode cX11_judge 13 = .ok (.if_icmp .lt 5, 3) := by decide +kernel
theorem dX11_judge_16 : decode cX11_judge 16 = .ok (.iconst 1, 1) := by decide +kernel
theorem dX11_judge_17 : decode cX11_judge 17 = .ok (.ireturn, 1) := by decide +kernel
theorem dX11_judge_18 : decode cX11_judge 18 = .ok (.aload_n 0, 1) := by decide +kernel
theorem dX11_judge_19 : decode cX11_judge 19 = .ok (.getfield 69, 3) := by decide +kernel
theorem dX11_judge_22 : decode cX11_judge 22 = .ok (.getfield 171, 3) := by decide +kernel
theorem dX11_judge_25 : decode cX11_judge 25 = .ok (.iload_n 2, 1) := by decide +kernel
theorem dX11_judge_26 : decode cX11_judge 26 = .ok (.aaload, 1) := by decide +kernel
theorem dX11_judge_27 : decode cX11_judge 27 = .ok (.astore 5, 2) := by decide +kernel
theorem dX11_judge_29 : decode cX11_judge 29 = .ok (.aload 5, 2) := by decide +kernel
theorem dX11_judge_31 : decode cX11_judge 31 = .ok (.getfield 191, 3) := by decide +kernel
theorem dX11_judge_34 : decode cX11_judge 34 = .ok (.iload_n 1, 1) := by decide +kernel
theorem dX11_judge_35 : decode cX11_judge 35 = .ok (.if_icmp .eq 5, 3) := by decide +kernel
theorem dX11_judge_38 : decode cX11_judge 38 = .ok (.iconst 1, 1) := by decide +kernel
theorem dX11_judge_39 : decode cX11_judge 39 = .ok (.ireturn, 1) := by decide +kernel
theorem dX11_judge_40 : decode cX11_judge 40 = .ok (.aload 5, 2) := by decide +kernel
theorem dX11_judge_42 : decode cX11_judge 42 = .ok (.getfield 204, 3) := by decide +kernel
theorem dX11_judge_45 : decode cX11_judge 45 = .ok (.ifCond .eq 5, 3) := by decide +kernel
theorem dX11_judge_48 : decode cX11_judge 48 = .ok (.iconst 2, 1) := by decide +kernel
theorem dX11_judge_49 : decode cX11_judge 49 = .ok (.ireturn, 1) := by decide +kernel
theorem dX11_judge_50 : decode cX11_judge 50 = .ok (.aload 5, 2) := by decide +kernel
theorem dX11_judge_52 : decode cX11_judge 52 = .ok (.getfield 311, 3) := by decide +kernel
theorem dX11_judge_55 : decode cX11_judge 55 = .ok (.ifnull 15, 3) := by decide +kernel
theorem dX11_judge_58 : decode cX11_judge 58 = .ok (.aload 5, 2) := by decide +kernel
theorem dX11_judge_60 : decode cX11_judge 60 = .ok (.invokevirtual 194, 3) := by decide +kernel
theorem dX11_judge_63 : decode cX11_judge 63 = .ok (.iload_n 3, 1) := by decide +kernel
theorem dX11_judge_64 : decode cX11_judge 64 = .ok (.invokestatic 314, 3) := by decide +kernel
theorem dX11_judge_67 : decode cX11_judge 67 = .ok (.if_icmp .eq 5, 3) := by decide +kernel
theorem dX11_judge_70 : decode cX11_judge 70 = .ok (.iconst 3, 1) := by decide +kernel
theorem dX11_judge_71 : decode cX11_judge 71 = .ok (.ireturn, 1) := by decide +kernel
theorem dX11_judge_72 : decode cX11_judge 72 = .ok (.aload 5, 2) := by decide +kernel
theorem dX11_judge_74 : decode cX11_judge 74 = .ok (.invokevirtual 317, 3) := by decide +kernel
theorem dX11_judge_77 : decode cX11_judge 77 = .ok (.iload_n 3, 1) := by decide +kernel
theorem dX11_judge_78 : decode cX11_judge 78 = .ok (.iconst 4, 1) := by decide +kernel
theorem dX11_judge_79 : decode cX11_judge 79 = .ok (.if_icmp .le 7, 3) := by decide +kernel
theorem dX11_judge_82 : decode cX11_judge 82 = .ok (.iconst 1, 1) := by decide +kernel
theorem dX11_judge_83 : decode cX11_judge 83 = .ok (.goto 4, 3) := by decide +kernel
theorem dX11_judge_86 : decode cX11_judge 86 = .ok (.iconst 0, 1) := by decide +kernel
theorem dX11_judge_87 : decode cX11_judge 87 = .ok (.if_icmp .eq 5, 3) := by decide +kernel
theorem dX11_judge_90 : decode cX11_judge 90 = .ok (.iconst 3, 1) := by decide +kernel
theorem dX11_judge_91 : decode cX11_judge 91 = .ok (.ireturn, 1) := by decide +kernel
theorem dX11_judge_92 : decode cX11_judge 92 = .ok (.iload_n 3, 1) := by decide +kernel
theorem dX11_judge_93 : decode cX11_judge 93 = .ok (.iconst 1, 1) := by decide +kernel
theorem dX11_judge_94 : decode cX11_judge 94 = .ok (.if_icmp .ne 15, 3) := by decide +kernel
theorem dX11_judge_97 : decode cX11_judge 97 = .ok (.aload 5, 2) := by decide +kernel
theorem dX11_judge_99 : decode cX11_judge 99 = .ok (.iload 4, 2) := by decide +kernel
theorem dX11_judge_101 : decode cX11_judge 101 = .ok (.invokevirtual 321, 3) := by decide +kernel
theorem dX11_judge_104 : decode cX11_judge 104 = .ok (.ifCond .ne 5, 3) := by decide +kernel
theorem dX11_judge_107 : decode cX11_judge 107 = .ok (.iconst 4, 1) := by decide +kernel
theorem dX11_judge_108 : decode cX11_judge 108 = .ok (.ireturn, 1) := by decide +kernel
theorem dX11_judge_109 : decode cX11_judge 109 = .ok (.iload_n 3, 1) := by decide +kernel
theorem dX11_judge_110 : decode cX11_judge 110 = .ok (.iconst 3, 1) := by decide +kernel
theorem dX11_judge_111 : decode cX11_judge 111 = .ok (.if_icmp .ne 15, 3) := by decide +kernel
theorem dX11_judge_114 : decode cX11_judge 114 = .ok (.aload 5, 2) := by decide +kernel
theorem dX11_judge_116 : decode cX11_judge 116 = .ok (.iload 4, 2) := by decide +kernel
theorem dX11_judge_118 : decode cX11_judge 118 = .ok (.invokevirtual 324, 3) := by decide +kernel
theorem dX11_judge_121 : decode cX11_judge 121 = .ok (.ifCond .ne 5, 3) := by decide +kernel
theorem dX11_judge_124 : decode cX11_judge 124 = .ok (.iconst 4, 1) := by decide +kernel
theorem dX11_judge_125 : decode cX11_judge 125 = .ok (.ireturn, 1) := by decide +kernel
theorem dX11_judge_126 : decode cX11_judge 126 = .ok (.iload_n 3, 1) := by decide +kernel
theorem dX11_judge_127 : decode cX11_judge 127 = .ok (.iconst 5, 1) := by decide +kernel
theorem dX11_judge_128 : decode cX11_judge 128 = .ok (.if_icmp .ne 68, 3) := by decide +kernel
theorem dX11_judge_131 : decode cX11_judge 131 = .ok (.aload_n 0, 1) := by decide +kernel
theorem dX11_judge_132 : decode cX11_judge 132 = .ok (.iload_n 1, 1) := by decide +kernel
theorem dX11_judge_133 : decode cX11_judge 133 = .ok (.iload_n 2, 1) := by decide +kernel
theorem dX11_judge_134 : decode cX11_judge 134 = .ok (.iload 4, 2) := by decide +kernel
theorem dX11_judge_136 : decode cX11_judge 136 = .ok (.invokevirtual 327, 3) := by decide +kernel
theorem dX11_judge_139 : decode cX11_judge 139 = .ok (.ifCond .ne 5, 3) := by decide +kernel
theorem dX11_judge_142 : decode cX11_judge 142 = .ok (.iconst 4, 1) := by decide +kernel
theorem dX11_judge_143 : decode cX11_judge 143 = .ok (.ireturn, 1) := by decide +kernel
theorem dX11_judge_144 : decode cX11_judge 144 = .ok (.aload_n 0, 1) := by decide +kernel
theorem dX11_judge_145 : decode cX11_judge 145 = .ok (.getfield 69, 3) := by decide +kernel
theorem dX11_judge_148 : decode cX11_judge 148 = .ok (.getfield 171, 3) := by decide +kernel
theorem dX11_judge_151 : decode cX11_judge 151 = .ok (.iload 4, 2) := by decide +kernel
theorem dX11_judge_153 : decode cX11_judge 153 = .ok (.aaload, 1) := by decide +kernel
theorem dX11_judge_154 : decode cX11_judge 154 = .ok (.astore 6, 2) := by decide +kernel
theorem dX11_judge_156 : decode cX11_judge 156 = .ok (.aload_n 0, 1) := by decide +kernel
theorem dX11_judge_157 : decode cX11_judge 157 = .ok (.getfield 52, 3) := by decide +kernel
theorem dX11_judge_160 : decode cX11_judge 160 = .ok (.aload 5, 2) := by decide +kernel
theorem dX11_judge_162 : decode cX11_judge 162 = .ok (.getfield 311, 3) := by decide +kernel
theorem dX11_judge_165 : decode cX11_judge 165 = .ok (.aload 5, 2) := by decide +kernel
theorem dX11_judge_167 : decode cX11_judge 167 = .ok (.getfield 311, 3) := by decide +kernel
theorem dX11_judge_170 : decode cX11_judge 170 = .ok (.aload 5, 2) := by decide +kernel
theorem dX11_judge_172 : decode cX11_judge 172 = .ok (.getfield 331, 3) := by decide +kernel
theorem dX11_judge_175 : decode cX11_judge 175 = .ok (.invokevirtual 334, 3) := by decide +kernel
theorem dX11_judge_178 : decode cX11_judge 178 = .ok (.aload 6, 2) := by decide +kernel
theorem dX11_judge_180 : decode cX11_judge 180 = .ok (.getfield 311, 3) := by decide +kernel
theorem dX11_judge_183 : decode cX11_judge 183 = .ok (.aload 6, 2) := by decide +kernel
theorem dX11_judge_185 : decode cX11_judge 185 = .ok (.getfield 331, 3) := by decide +kernel
theorem dX11_judge_188 : decode cX11_judge 188 = .ok (.invokevirtual 136, 3) := by decide +kernel
theorem dX11_judge_191 : decode cX11_judge 191 = .ok (.ifCond .eq 5, 3) := by decide +kernel
theorem dX11_judge_194 : decode cX11_judge 194 = .ok (.iconst 5, 1) := by decide +kernel
theorem dX11_judge_195 : decode cX11_judge 195 = .ok (.ireturn, 1) := by decide +kernel
theorem dX11_judge_196 : decode cX11_judge 196 = .ok (.aload_n 0, 1) := by decide +kernel
theorem dX11_judge_197 : decode cX11_judge 197 = .ok (.iload_n 2, 1) := by decide +kernel
theorem dX11_judge_198 : decode cX11_judge 198 = .ok (.iload_n 3, 1) := by decide +kernel
theorem dX11_judge_199 : decode cX11_judge 199 = .ok (.invokevirtual 337, 3) := by decide +kernel
theorem dX11_judge_202 : decode cX11_judge 202 = .ok (.ifCond .eq 8, 3) := by decide +kernel
theorem dX11_judge_205 : decode cX11_judge 205 = .ok (.bipush (-4), 2) := by decide +kernel
theorem dX11_judge_207 : decode cX11_judge 207 = .ok (.goto 4, 3) := by decide +kernel
theorem dX11_judge_210 : decode cX11_judge 210 = .ok (.iconst 0, 1) := by decide +kernel
theorem dX11_judge_211 : decode cX11_judge 211 = .ok (.ireturn, 1) := by decide +kernel
theorem dX11_kindFor_0 : decode cX11_kindFor 0 = .ok (.iload_n 0, 1) := by decide +kernel
theorem dX11_kindFor_1 : decode cX11_kindFor 1 = .ok (.iconst 4, 1) := by decide +kernel
theorem dX11_kindFor_2 : decode cX11_kindFor 2 = .ok (.if_icmp .le 9, 3) := by decide +kernel
theorem dX11_kindFor_5 : decode cX11_kindFor 5 = .ok (.iload_n 0, 1) := by decide +kernel
theorem dX11_kindFor_6 : decode cX11_kindFor 6 = .ok (.iconst 4, 1) := by decide +kernel
theorem dX11_kindFor_7 : decode cX11_kindFor 7 = .ok (.isub, 1) := by decide +kernel
theorem dX11_kindFor_8 : decode cX11_kindFor 8 = .ok (.goto 4, 3) := by decide +kernel
theorem dX11_kindFor_11 : decode cX11_kindFor 11 = .ok (.iload_n 0, 1) := by decide +kernel
theorem dX11_kindFor_12 : decode cX11_kindFor 12 = .ok (.ireturn, 1) := by decide +kernel
theorem dX11_mayBeGiven_0 : decode cX11_mayBeGiven 0 = .ok (.iload_n 3, 1) := by decide +kernel
theorem dX11_mayBeGiven_1 : decode cX11_mayBeGiven 1 = .ok (.iload_n 2, 1) := by decide +kernel
theorem dX11_mayBeGiven_2 : decode cX11_mayBeGiven 2 = .ok (.if_icmp .eq 19, 3) := by decide +kernel
theorem dX11_mayBeGiven_5 : decode cX11_mayBeGiven 5 = .ok (.iload_n 3, 1) := by decide +kernel
theorem dX11_mayBeGiven_6 : decode cX11_mayBeGiven 6 = .ok (.ifCond .lt 15, 3) := by decide +kernel
theorem dX11_mayBeGiven_9 : decode cX11_mayBeGiven 9 = .ok (.iload_n 3, 1) := by decide +kernel
theorem dX11_mayBeGiven_10 : decode cX11_mayBeGiven 10 = .ok (.aload_n 0, 1) := by decide +kernel
theorem dX11_mayBeGiven_11 : decode cX11_mayBeGiven 11 = .ok (.getfield 69, 3) := by decide +kernel
theorem dX11_mayBeGiven_14 : decode cX11_mayBeGiven 14 = .ok (.getfield 171, 3) := by decide +kernel
theorem dX11_mayBeGiven_17 : decode cX11_mayBeGiven 17 = .ok (.arraylength, 1) := by decide +kernel
theorem dX11_mayBeGiven_18 : decode cX11_mayBeGiven 18 = .ok (.if_icmp .lt 5, 3) := by decide +kernel
theorem dX11_mayBeGiven_21 : decode cX11_mayBeGiven 21 = .ok (.iconst 0, 1) := by decide +kernel
theorem dX11_mayBeGiven_22 : decode cX11_mayBeGiven 22 = .ok (.ireturn, 1) := by decide +kernel
theorem dX11_mayBeGiven_23 : decode cX11_mayBeGiven 23 = .ok (.aload_n 0, 1) := by decide +kernel
theorem dX11_mayBeGiven_24 : decode cX11_mayBeGiven 24 = .ok (.getfield 69, 3) := by decide +kernel
theorem dX11_mayBeGiven_27 : decode cX11_mayBeGiven 27 = .ok (.getfield 171, 3) := by decide +kernel
theorem dX11_mayBeGiven_30 : decode cX11_mayBeGiven 30 = .ok (.iload_n 3, 1) := by decide +kernel
theorem dX11_mayBeGiven_31 : decode cX11_mayBeGiven 31 = .ok (.aaload, 1) := by decide +kernel
theorem dX11_mayBeGiven_32 : decode cX11_mayBeGiven 32 = .ok (.astore 4, 2) := by decide +kernel
theorem dX11_mayBeGiven_34 : decode cX11_mayBeGiven 34 = .ok (.aload 4, 2) := by decide +kernel
theorem dX11_mayBeGiven_36 : decode cX11_mayBeGiven 36 = .ok (.getfield 191, 3) := by decide +kernel
theorem dX11_mayBeGiven_39 : decode cX11_mayBeGiven 39 = .ok (.iload_n 1, 1) := by decide +kernel
theorem dX11_mayBeGiven_40 : decode cX11_mayBeGiven 40 = .ok (.if_icmp .ne 23, 3) := by decide +kernel
theorem dX11_mayBeGiven_43 : decode cX11_mayBeGiven 43 = .ok (.aload 4, 2) := by decide +kernel
theorem dX11_mayBeGiven_45 : decode cX11_mayBeGiven 45 = .ok (.getfield 204, 3) := by decide +kernel
theorem dX11_mayBeGiven_48 : decode cX11_mayBeGiven 48 = .ok (.ifCond .ne 15, 3) := by decide +kernel
theorem dX11_mayBeGiven_51 : decode cX11_mayBeGiven 51 = .ok (.aload 4, 2) := by decide +kernel
theorem dX11_mayBeGiven_53 : decode cX11_mayBeGiven 53 = .ok (.getfield 311, 3) := by decide +kernel
theorem dX11_mayBeGiven_56 : decode cX11_mayBeGiven 56 = .ok (.ifnull 7, 3) := by decide +kernel
theorem dX11_mayBeGiven_59 : decode cX11_mayBeGiven 59 = .ok (.iconst 1, 1) := by decide +kernel
theorem dX11_mayBeGiven_60 : decode cX11_mayBeGiven 60 = .ok (.goto 4, 3) := by decide +kernel
theorem dX11_mayBeGiven_63 : decode cX11_mayBeGiven 63 = .ok (.iconst 0, 1) := by decide +kernel
theorem dX11_mayBeGiven_64 : decode cX11_mayBeGiven 64 = .ok (.ireturn, 1) := by decide +kernel
set_option maxRecDepth 20000 in
theorem ggX11_waitsFor_X11_kindFor : GoodIn wsX11_waitsFor wsX11_kindFor := goodIn_r _ [8] (by decide +kernel) (by decide +kernel)
set_option maxRecDepth 20000 in
theorem gX11_waitsFor_X11_kindFor : GoodIn wsX11_waitsFor (va_wsS RX11 314 yX11_kindFor wsX11_kindFor) := goodIn_app (goodIn_of _ (by decide +kernel)) ggX11_waitsFor_X11_kindFor
theorem dX11_waitsFor_0 : decode cX11_waitsFor 0 = .ok (.iload_n 1, 1) := by decide +kernel
theorem dX11_waitsFor_1 : decode cX11_waitsFor 1 = .ok (.iconst 1, 1) := by decide +kernel
theorem dX11_waitsFor_2 : decode cX11_waitsFor 2 = .ok (.ixor, 1) := by decide +kernel
theorem dX11_waitsFor_3 : decode cX11_waitsFor 3 = .ok (.istore_n 3, 1) := by decide +kernel
theorem dX11_waitsFor_4 : decode cX11_waitsFor 4 = .ok (.iload_n 1, 1) := by decide +kernel
theorem dX11_waitsFor_5 : decode cX11_waitsFor 5 = .ok (.ifCond .lt 31, 3) := by decide +kernel
theorem dX11_waitsFor_8 : decode cX11_waitsFor 8 = .ok (.iload_n 1, 1) := by decide +kernel
theorem dX11_waitsFor_9 : decode cX11_waitsFor 9 = .ok (.aload_n 0, 1) := by decide +kernel
theorem dX11_waitsFor_10 : decode cX11_waitsFor 10 = .ok (.getfield 69, 3) := by decide +kernel
theorem dX11_waitsFor_13 : decode cX11_waitsFor 13 = .ok (.getfield 171, 3) := by decide +kernel
theorem dX11_waitsFor_16 : decode cX11_waitsFor 16 = .ok (.arraylength, 1) := by decide +kernel
theorem dX11_waitsFor_17 : decode cX11_waitsFor 17 = .ok (.if_icmp .ge 19, 3) := by decide +kernel
theorem dX11_waitsFor_20 : decode cX11_waitsFor 20 = .ok (.iload_n 3, 1) := by decide +kernel
theorem dX11_waitsFor_21 : decode cX11_waitsFor 21 = .ok (.ifCond .lt 15, 3) := by decide +kernel
theorem dX11_waitsFor_24 : decode cX11_waitsFor 24 = .ok (.iload_n 3, 1) := by decide +kernel
theorem dX11_waitsFor_25 : decode cX11_waitsFor 25 = .ok (.aload_n 0, 1) := by decide +kernel
theorem dX11_waitsFor_26 : decode cX11_waitsFor 26 = .ok (.getfield 69, 3) := by decide +kernel
theorem dX11_waitsFor_29 : decode cX11_waitsFor 29 = .ok (.getfield 171, 3) := by decide +kernel
theorem dX11_waitsFor_32 : decode cX11_waitsFor 32 = .ok (.arraylength, 1) := by decide +kernel
theorem dX11_waitsFor_33 : decode cX11_waitsFor 33 = .ok (.if_icmp .lt 5, 3) := by decide +kernel
theorem dX11_waitsFor_36 : decode cX11_waitsFor 36 = .ok (.iconst 0, 1) := by decide +kernel
theorem dX11_waitsFor_37 : decode cX11_waitsFor 37 = .ok (.ireturn, 1) := by decide +kernel
theorem dX11_waitsFor_38 : decode cX11_waitsFor 38 = .ok (.iload_n 2, 1) := by decide +kernel
theorem dX11_waitsFor_39 : decode cX11_waitsFor 39 = .ok (.invokestatic 314, 3) := by decide +kernel
theorem dX11_waitsFor_42 : decode cX11_waitsFor 42 = .ok (.tableswitch 79 1 4 #[30, 58, 30, 58], 30) := by decide +kernel
theorem dX11_waitsFor_72 : decode cX11_waitsFor 72 = .ok (.aload_n 0, 1) := by decide +kernel
theorem dX11_waitsFor_73 : decode cX11_waitsFor 73 = .ok (.getfield 69, 3) := by decide +kernel
theorem dX11_waitsFor_76 : decode cX11_waitsFor 76 = .ok (.getfield 171, 3) := by decide +kernel
theorem dX11_waitsFor_79 : decode cX11_waitsFor 79 = .ok (.iload_n 3, 1) := by decide +kernel
theorem dX11_waitsFor_80 : decode cX11_waitsFor 80 = .ok (.aaload, 1) := by decide +kernel
theorem dX11_waitsFor_81 : decode cX11_waitsFor 81 = .ok (.getfield 200, 3) := by decide +kernel
theorem dX11_waitsFor_84 : decode cX11_waitsFor 84 = .ok (.aload_n 0, 1) := by decide +kernel
theorem dX11_waitsFor_85 : decode cX11_waitsFor 85 = .ok (.getfield 69, 3) := by decide +kernel
theorem dX11_waitsFor_88 : decode cX11_waitsFor 88 = .ok (.getfield 181, 3) := by decide +kernel
theorem dX11_waitsFor_91 : decode cX11_waitsFor 91 = .ok (.if_icmp .lt 7, 3) := by decide +kernel
theorem dX11_waitsFor_94 : decode cX11_waitsFor 94 = .ok (.iconst 1, 1) := by decide +kernel
theorem dX11_waitsFor_95 : decode cX11_waitsFor 95 = .ok (.goto 4, 3) := by decide +kernel
theorem dX11_waitsFor_98 : decode cX11_waitsFor 98 = .ok (.iconst 0, 1) := by decide +kernel
theorem dX11_waitsFor_99 : decode cX11_waitsFor 99 = .ok (.ireturn, 1) := by decide +kernel
theorem dX11_waitsFor_100 : decode cX11_waitsFor 100 = .ok (.aload_n 0, 1) := by decide +kernel
theorem dX11_waitsFor_101 : decode cX11_waitsFor 101 = .ok (.getfield 69, 3) := by decide +kernel
theorem dX11_waitsFor_104 : decode cX11_waitsFor 104 = .ok (.getfield 171, 3) := by decide +kernel
theorem dX11_waitsFor_107 : decode cX11_waitsFor 107 = .ok (.iload_n 1, 1) := by decide +kernel
theorem dX11_waitsFor_108 : decode cX11_waitsFor 108 = .ok (.aaload, 1) := by decide +kernel
theorem dX11_waitsFor_109 : decode cX11_waitsFor 109 = .ok (.getfield 200, 3) := by decide +kernel
theorem dX11_waitsFor_112 : decode cX11_waitsFor 112 = .ok (.ifCond .ne 7, 3) := by decide +kernel
theorem dX11_waitsFor_115 : decode cX11_waitsFor 115 = .ok (.iconst 1, 1) := by decide +kernel
theorem dX11_waitsFor_116 : decode cX11_waitsFor 116 = .ok (.goto 4, 3) := by decide +kernel
theorem dX11_waitsFor_119 : decode cX11_waitsFor 119 = .ok (.iconst 0, 1) := by decide +kernel
theorem dX11_waitsFor_120 : decode cX11_waitsFor 120 = .ok (.ireturn, 1) := by decide +kernel
theorem dX11_waitsFor_121 : decode cX11_waitsFor 121 = .ok (.iconst 0, 1) := by decide +kernel
theorem dX11_waitsFor_122 : decode cX11_waitsFor 122 = .ok (.ireturn, 1) := by decide +kernel
set_option maxRecDepth 20000 in
theorem ggX11_accuse_X0_begin : GoodIn wsX11_accuse wsX0_begin := goodIn_r _ [13, 14, 15, 16, 17, 18, 88, 89, 90, 91, 92, 93] (by decide +kernel) (by decide +kernel)
set_option maxRecDepth 20000 in
theorem gX11_accuse_X0_begin : GoodIn wsX11_accuse (wsV RX11 341 RX0 yX0_begin wsX0_begin) := goodIn_app (goodIn_of _ (by decide +kernel)) ggX11_accuse_X0_begin
set_option maxRecDepth 20000 in
theorem ggX11_accuse_X0_add : GoodIn wsX11_accuse wsX0_add := goodIn_r _ [22, 18, 23, 88, 89, 90, 91, 92, 93] (by decide +kernel) (by decide +kernel)
set_option maxRecDepth 20000 in
theorem gX11_accuse_X0_add : GoodIn wsX11_accuse (wsV RX11 345 RX0 yX0_add wsX0_add) := goodIn_app (goodIn_of _ (by decide +kernel)) ggX11_accuse_X0_add
set_option maxRecDepth 20000 in
theorem ggX11_accuse_X2_kind : GoodIn wsX11_accuse wsX2_kind := goodIn_r _ [28, 29, 30, 31, 32, 33, 34, 35, 36, 72, 73, 74, 75, 76, 77, 78, 79, 94, 95, 96, 97, 98, 99, 100, 101, 102] (by decide +kernel) (by decide +kernel)
set_option maxRecDepth 20000 in
theorem gX11_accuse_X2_kind : GoodIn wsX11_accuse (wsV RX11 194 RX2 yX2_kind wsX2_kind) := goodIn_app (goodIn_of _ (by decide +kernel)) ggX11_accuse_X2_kind
set_option maxRecDepth 20000 in
theorem ggX11_accuse_X11_kindFor : GoodIn wsX11_accuse wsX11_kindFor := goodIn_r _ [40] (by decide +kernel) (by decide +kernel)
set_option maxRecDepth 20000 in
theorem gX11_accuse_X11_kindFor : GoodIn wsX11_accuse (va_wsS RX11 314 yX11_kindFor wsX11_kindFor) := goodIn_app (goodIn_of _ (by decide +kernel)) ggX11_accuse_X11_kindFor
set_option maxRecDepth 20000 in
theorem ggX11_accuse_X3_last : GoodIn wsX11_accuse wsX3_last := goodIn_r _ [45, 46, 47, 80, 81, 82, 83, 84, 85, 86, 87] (by decide +kernel) (by decide +kernel)
set_option maxRecDepth 20000 in
theorem gX11_accuse_X3_last : GoodIn wsX11_accuse (wsV RX11 352 RX3 yX3_last wsX3_last) := goodIn_app (goodIn_of _ (by decide +kernel)) ggX11_accuse_X3_last
theorem dX11_accuse_0 : decode cX11_accuse 0 = .ok (.iload_n 2, 1) := by decide +kernel
theorem dX11_accuse_1 : decode cX11_accuse 1 = .ok (.ifCond .lt 15, 3) := by decide +kernel
theorem dX11_accuse_4 : decode cX11_accuse 4 = .ok (.iload_n 2, 1) := by decide +kernel
theorem dX11_accuse_5 : decode cX11_accuse 5 = .ok (.aload_n 0, 1) := by decide +kernel
theorem dX11_accuse_6 : decode cX11_accuse 6 = .ok (.getfield 69, 3) := by decide +kernel
theorem dX11_accuse_9 : decode cX11_accuse 9 = .ok (.getfield 171, 3) := by decide +kernel
theorem dX11_accuse_12 : decode cX11_accuse 12 = .ok (.arraylength, 1) := by decide +kernel
theorem dX11_accuse_13 : decode cX11_accuse 13 = .ok (.if_icmp .lt 4, 3) := by decide +kernel
theorem dX11_accuse_16 : decode cX11_accuse 16 = .ok (.return_, 1) := by decide +kernel
theorem dX11_accuse_17 : decode cX11_accuse 17 = .ok (.aload_n 0, 1) := by decide +kernel
theorem dX11_accuse_18 : decode cX11_accuse 18 = .ok (.getfield 69, 3) := by decide +kernel
theorem dX11_accuse_21 : decode cX11_accuse 21 = .ok (.getfield 171, 3) := by decide +kernel
theorem dX11_accuse_24 : decode cX11_accuse 24 = .ok (.iload_n 2, 1) := by decide +kernel
theorem dX11_accuse_25 : decode cX11_accuse 25 = .ok (.aaload, 1) := by decide +kernel
theorem dX11_accuse_26 : decode cX11_accuse 26 = .ok (.astore 6, 2) := by decide +kernel
theorem dX11_accuse_28 : decode cX11_accuse 28 = .ok (.aload_n 0, 1) := by decide +kernel
theorem dX11_accuse_29 : decode cX11_accuse 29 = .ok (.getfield 69, 3) := by decide +kernel
theorem dX11_accuse_32 : decode cX11_accuse 32 = .ok (.getfield 208, 3) := by decide +kernel
theorem dX11_accuse_35 : decode cX11_accuse 35 = .ok (.astore 7, 2) := by decide +kernel
theorem dX11_accuse_37 : decode cX11_accuse 37 = .ok (.aload 7, 2) := by decide +kernel
theorem dX11_accuse_39 : decode cX11_accuse 39 = .ok (.iload_n 1, 1) := by decide +kernel
theorem dX11_accuse_40 : decode cX11_accuse 40 = .ok (.aload_n 0, 1) := by decide +kernel
theorem dX11_accuse_41 : decode cX11_accuse 41 = .ok (.getfield 69, 3) := by decide +kernel
theorem dX11_accuse_44 : decode cX11_accuse 44 = .ok (.getfield 265, 3) := by decide +kernel
theorem dX11_accuse_47 : decode cX11_accuse 47 = .ok (.iload 5, 2) := by decide +kernel
theorem dX11_accuse_49 : decode cX11_accuse 49 = .ok (.iload_n 2, 1) := by decide +kernel
theorem dX11_accuse_50 : decode cX11_accuse 50 = .ok (.invokevirtual 341, 3) := by decide +kernel
theorem dX11_accuse_53 : decode cX11_accuse 53 = .ok (.iload 5, 2) := by decide +kernel
theorem dX11_accuse_55 : decode cX11_accuse 55 = .ok (.tableswitch 87 1 4 #[29, 42, 55, 77], 29) := by decide +kernel
theorem dX11_accuse_84 : decode cX11_accuse 84 = .ok (.aload 7, 2) := by decide +kernel
theorem dX11_accuse_86 : decode cX11_accuse 86 = .ok (.aload 6, 2) := by decide +kernel
theorem dX11_accuse_88 : decode cX11_accuse 88 = .ok (.getfield 191, 3) := by decide +kernel
theorem dX11_accuse_91 : decode cX11_accuse 91 = .ok (.invokevirtual 345, 3) := by decide +kernel
theorem dX11_accuse_94 : decode cX11_accuse 94 = .ok (.goto 79, 3) := by decide +kernel
theorem dX11_accuse_97 : decode cX11_accuse 97 = .ok (.aload 7, 2) := by decide +kernel
theorem dX11_accuse_99 : decode cX11_accuse 99 = .ok (.aload 6, 2) := by decide +kernel
theorem dX11_accuse_101 : decode cX11_accuse 101 = .ok (.getfield 349, 3) := by decide +kernel
theorem dX11_accuse_104 : decode cX11_accuse 104 = .ok (.invokevirtual 345, 3) := by decide +kernel
theorem dX11_accuse_107 : decode cX11_accuse 107 = .ok (.goto 66, 3) := by decide +kernel
theorem dX11_accuse_110 : decode cX11_accuse 110 = .ok (.aload 7, 2) := by decide +kernel
theorem dX11_accuse_112 : decode cX11_accuse 112 = .ok (.aload 6, 2) := by decide +kernel
theorem dX11_accuse_114 : decode cX11_accuse 114 = .ok (.invokevirtual 194, 3) := by decide +kernel
theorem dX11_accuse_117 : decode cX11_accuse 117 = .ok (.invokevirtual 345, 3) := by decide +kernel
theorem dX11_accuse_120 : decode cX11_accuse 120 = .ok (.aload 7, 2) := by decide +kernel
theorem dX11_accuse_122 : decode cX11_accuse 122 = .ok (.iload_n 3, 1) := by decide +kernel
theorem dX11_accuse_123 : decode cX11_accuse 123 = .ok (.invokestatic 314, 3) := by decide +kernel
theorem dX11_accuse_126 : decode cX11_accuse 126 = .ok (.invokevirtual 345, 3) := by decide +kernel
theorem dX11_accuse_129 : decode cX11_accuse 129 = .ok (.goto 44, 3) := by decide +kernel
theorem dX11_accuse_132 : decode cX11_accuse 132 = .ok (.aload 7, 2) := by decide +kernel
theorem dX11_accuse_134 : decode cX11_accuse 134 = .ok (.iload 4, 2) := by decide +kernel
theorem dX11_accuse_136 : decode cX11_accuse 136 = .ok (.invokevirtual 345, 3) := by decide +kernel
theorem dX11_accuse_139 : decode cX11_accuse 139 = .ok (.goto 34, 3) := by decide +kernel
theorem dX11_accuse_142 : decode cX11_accuse 142 = .ok (.aload 7, 2) := by decide +kernel
theorem dX11_accuse_144 : decode cX11_accuse 144 = .ok (.iload 4, 2) := by decide +kernel
theorem dX11_accuse_146 : decode cX11_accuse 146 = .ok (.invokevirtual 345, 3) := by decide +kernel
theorem dX11_accuse_149 : decode cX11_accuse 149 = .ok (.aload 7, 2) := by decide +kernel
theorem dX11_accuse_151 : decode cX11_accuse 151 = .ok (.aload_n 0, 1) := by decide +kernel
theorem dX11_accuse_152 : decode cX11_accuse 152 = .ok (.getfield 52, 3) := by decide +kernel
theorem dX11_accuse_155 : decode cX11_accuse 155 = .ok (.invokevirtual 352, 3) := by decide +kernel
theorem dX11_accuse_158 : decode cX11_accuse 158 = .ok (.invokevirtual 345, 3) := by decide +kernel
theorem dX11_accuse_161 : decode cX11_accuse 161 = .ok (.aload 7, 2) := by decide +kernel
theorem dX11_accuse_163 : decode cX11_accuse 163 = .ok (.aload_n 0, 1) := by decide +kernel
theorem dX11_accuse_164 : decode cX11_accuse 164 = .ok (.getfield 52, 3) := by decide +kernel
theorem dX11_accuse_167 : decode cX11_accuse 167 = .ok (.getfield 355, 3) := by decide +kernel
theorem dX11_accuse_170 : decode cX11_accuse 170 = .ok (.invokevirtual 345, 3) := by decide +kernel
theorem dX11_accuse_173 : decode cX11_accuse 173 = .ok (.return_, 1) := by decide +kernel
set_option maxRecDepth 20000 in
theorem ggX11_perform_X2_kind : GoodIn wsX11_perform wsX2_kind := goodIn_r _ [13, 14, 15, 16, 17, 18, 19, 20, 21, 100, 101, 102, 103, 104, 105, 106, 107, 108, 109, 110, 111, 112, 113, 114, 115, 116] (by decide +kernel) (by decide +kernel)
set_option maxRecDepth 20000 in
theorem gX11_perform_X2_kind : GoodIn wsX11_perform (wsV RX11 194 RX2 yX2_kind wsX2_kind) := goodIn_app (goodIn_of _ (by decide +kernel)) ggX11_perform_X2_kind
set_option maxRecDepth 20000 in
theorem ggX11_perform_X2_draw : GoodIn wsX11_perform wsX2_draw := goodIn_r _ [25, 26, 27, 100, 101, 102, 103, 104, 105, 106, 107] (by decide +kernel) (by decide +kernel)
set_option maxRecDepth 20000 in
theorem gX11_perform_X2_draw : GoodIn wsX11_perform (wsV RX11 356 RX2 yX2_draw wsX2_draw) := goodIn_app (goodIn_of _ (by decide +kernel)) ggX11_perform_X2_draw
set_option maxRecDepth 20000 in
theorem ggX11_perform_X2_put : GoodIn wsX11_perform wsX2_put := goodIn_r _ [31, 26, 27, 32, 33, 34, 35, 36, 100, 101, 102, 103, 104, 105, 106, 107] (by decide +kernel) (by decide +kernel)
set_option maxRecDepth 20000 in
theorem gX11_perform_X2_put : GoodIn wsX11_perform (wsV RX11 359 RX2 yX2_put wsX2_put) := goodIn_app (goodIn_of _ (by decide +kernel)) ggX11_perform_X2_put
set_option maxRecDepth 20000 in
theorem ggX11_perform_X11_handOver : GoodIn wsX11_perform wsX11_handOver := goodIn_r _ [41, 1, 2, 3, 42, 8, 43, 44, 45, 46, 19, 47, 48, 49, 76, 77, 78, 79, 80, 81, 82, 83, 84, 85, 86, 87, 88, 89, 90, 91, 92, 93, 94, 95, 96, 97, 98, 99, 100, 101, 102, 103, 104, 105, 106, 107, 108, 109, 110, 111, 112, 113, 114, 115, 116] (by decide +kernel) (by decide +kernel)
set_option maxRecDepth 20000 in
theorem gX11_perform_X11_handOver : GoodIn wsX11_perform (wsV RX11 362 RX11 yX11_handOver wsX11_handOver) := goodIn_app (goodIn_of _ (by decide +kernel)) ggX11_perform_X11_handOver
set_option maxRecDepth 20000 in
theorem ggX11_perform_X11_receive : GoodIn wsX11_perform wsX11_receive := goodIn_r _ [53, 1, 2, 42, 76, 77, 78, 79, 80, 81, 82, 83, 84, 85, 86, 87, 88, 89, 90, 91, 92, 93, 94, 95, 96, 97, 98, 99, 100, 101, 102, 103, 104, 105, 106, 107] (by decide +kernel) (by decide +kernel)
set_option maxRecDepth 20000 in
theorem gX11_perform_X11_receive : GoodIn wsX11_perform (wsV RX11 366 RX11 yX11_receive wsX11_receive) := goodIn_app (goodIn_of _ (by decide +kernel)) ggX11_perform_X11_receive
set_option maxRecDepth 20000 in
theorem ggX11_perform_X7_behind : GoodIn wsX11_perform wsX7_behind := goodIn_r _ [57, 58, 17, 18, 19, 20, 21, 59, 60, 61, 62, 63, 49, 64, 65, 66, 67, 68, 69, 70, 71, 72, 73, 74, 75, 108, 109, 110, 111, 112, 113, 114, 115, 116] (by decide +kernel) (by decide +kernel)
set_option maxRecDepth 20000 in
theorem gX11_perform_X7_behind : GoodIn wsX11_perform (wsV RX11 370 RX7 yX7_behind wsX7_behind) := goodIn_app (goodIn_of _ (by decide +kernel)) ggX11_perform_X7_behind
theorem dX11_perform_0 : decode cX11_perform 0 = .ok (.iload_n 2, 1) := by decide +kernel
theorem dX11_perform_1 : decode cX11_perform 1 = .ok (.iconst 1, 1) := by decide +kernel
theorem dX11_perform_2 : decode cX11_perform 2 = .ok (.ixor, 1) := by decide +kernel
theorem dX11_perform_3 : decode cX11_perform 3 = .ok (.istore 5, 2) := by decide +kernel
theorem dX11_perform_5 : decode cX11_perform 5 = .ok (.iload_n 2, 1) := by decide +kernel
theorem dX11_perform_6 : decode cX11_perform 6 = .ok (.ifCond .lt 33, 3) := by decide +kernel
theorem dX11_perform_9 : decode cX11_perform 9 = .ok (.iload_n 2, 1) := by decide +kernel
theorem dX11_perform_10 : decode cX11_perform 10 = .ok (.aload_n 0, 1) := by decide +kernel
theorem dX11_perform_11 : decode cX11_perform 11 = .ok (.getfield 69, 3) := by decide +kernel
theorem dX11_perform_14 : decode cX11_perform 14 = .ok (.getfield 171, 3) := by decide +kernel
theorem dX11_perform_17 : decode cX11_perform 17 = .ok (.arraylength, 1) := by decide +kernel
theorem dX11_perform_18 : decode cX11_perform 18 = .ok (.if_icmp .ge 21, 3) := by decide +kernel
theorem dX11_perform_21 : decode cX11_perform 21 = .ok (.iload 5, 2) := by decide +kernel
theorem dX11_perform_23 : decode cX11_perform 23 = .ok (.ifCond .lt 16, 3) := by decide +kernel
theorem dX11_perform_26 : decode cX11_perform 26 = .ok (.iload 5, 2) := by decide +kernel
theorem dX11_perform_28 : decode cX11_perform 28 = .ok (.aload_n 0, 1) := by decide +kernel
theorem dX11_perform_29 : decode cX11_perform 29 = .ok (.getfield 69, 3) := by decide +kernel
theorem dX11_perform_32 : decode cX11_perform 32 = .ok (.getfield 171, 3) := by decide +kernel
theorem dX11_perform_35 : decode cX11_perform 35 = .ok (.arraylength, 1) := by decide +kernel
theorem dX11_perform_36 : decode cX11_perform 36 = .ok (.if_icmp .lt 5, 3) := by decide +kernel
theorem dX11_perform_39 : decode cX11_perform 39 = .ok (.iconst (-1), 1) := by decide +kernel
theorem dX11_perform_40 : decode cX11_perform 40 = .ok (.ireturn, 1) := by decide +kernel
theorem dX11_perform_41 : decode cX11_perform 41 = .ok (.aload_n 0, 1) := by decide +kernel
theorem dX11_perform_42 : decode cX11_perform 42 = .ok (.getfield 69, 3) := by decide +kernel
theorem dX11_perform_45 : decode cX11_perform 45 = .ok (.getfield 171, 3) := by decide +kernel
theorem dX11_perform_48 : decode cX11_perform 48 = .ok (.iload_n 2, 1) := by decide +kernel
theorem dX11_perform_49 : decode cX11_perform 49 = .ok (.aaload, 1) := by decide +kernel
theorem dX11_perform_50 : decode cX11_perform 50 = .ok (.astore 6, 2) := by decide +kernel
theorem dX11_perform_52 : decode cX11_perform 52 = .ok (.aload 6, 2) := by decide +kernel
theorem dX11_perform_54 : decode cX11_perform 54 = .ok (.getfield 311, 3) := by decide +kernel
theorem dX11_perform_57 : decode cX11_perform 57 = .ok (.ifnonnull 5, 3) := by decide +kernel
theorem dX11_perform_60 : decode cX11_perform 60 = .ok (.iconst (-1), 1) := by decide +kernel
theorem dX11_perform_61 : decode cX11_perform 61 = .ok (.ireturn, 1) := by decide +kernel
theorem dX11_perform_62 : decode cX11_perform 62 = .ok (.iload_n 3, 1) := by decide +kernel
theorem dX11_perform_63 : decode cX11_perform 63 = .ok (.ifCond .ne 36, 3) := by decide +kernel
theorem dX11_perform_66 : decode cX11_perform 66 = .ok (.aload 6, 2) := by decide +kernel
theorem dX11_perform_68 : decode cX11_perform 68 = .ok (.iconst 1, 1) := by decide +kernel
theorem dX11_perform_69 : decode cX11_perform 69 = .ok (.putfield 204, 3) := by decide +kernel
theorem dX11_perform_72 : decode cX11_perform 72 = .ok (.aload 6, 2) := by decide +kernel
theorem dX11_perform_74 : decode cX11_perform 74 = .ok (.aload_n 0, 1) := by decide +kernel
theorem dX11_perform_75 : decode cX11_perform 75 = .ok (.getfield 69, 3) := by decide +kernel
theorem dX11_perform_78 : decode cX11_perform 78 = .ok (.getfield 265, 3) := by decide +kernel
theorem dX11_perform_81 : decode cX11_perform 81 = .ok (.putfield 349, 3) := by decide +kernel
theorem dX11_perform_84 : decode cX11_perform 84 = .ok (.aload_n 0, 1) := by decide +kernel
theorem dX11_perform_85 : decode cX11_perform 85 = .ok (.getfield 69, 3) := by decide +kernel
theorem dX11_perform_88 : decode cX11_perform 88 = .ok (.dup, 1) := by decide +kernel
theorem dX11_perform_89 : decode cX11_perform 89 = .ok (.getfield 280, 3) := by decide +kernel
theorem dX11_perform_92 : decode cX11_perform 92 = .ok (.iconst 1, 1) := by decide +kernel
theorem dX11_perform_93 : decode cX11_perform 93 = .ok (.iadd, 1) := by decide +kernel
theorem dX11_perform_94 : decode cX11_perform 94 = .ok (.putfield 280, 3) := by decide +kernel
theorem dX11_perform_97 : decode cX11_perform 97 = .ok (.iconst 1, 1) := by decide +kernel
theorem dX11_perform_98 : decode cX11_perform 98 = .ok (.ireturn, 1) := by decide +kernel
theorem dX11_perform_99 : decode cX11_perform 99 = .ok (.aload 6, 2) := by decide +kernel
theorem dX11_perform_101 : decode cX11_perform 101 = .ok (.invokevirtual 194, 3) := by decide +kernel
theorem dX11_perform_104 : decode cX11_perform 104 = .ok (.istore 7, 2) := by decide +kernel
theorem dX11_perform_106 : decode cX11_perform 106 = .ok (.iload 7, 2) := by decide +kernel
theorem dX11_perform_108 : decode cX11_perform 108 = .ok (.iconst 1, 1) := by decide +kernel
theorem dX11_perform_109 : decode cX11_perform 109 = .ok (.if_icmp .eq 9, 3) := by decide +kernel
theorem dX11_perform_112 : decode cX11_perform 112 = .ok (.iload 7, 2) := by decide +kernel
theorem dX11_perform_114 : decode cX11_perform 114 = .ok (.iconst 3, 1) := by decide +kernel
theorem dX11_perform_115 : decode cX11_perform 115 = .ok (.if_icmp .ne 7, 3) := by decide +kernel
theorem dX11_perform_118 : decode cX11_perform 118 = .ok (.iconst 1, 1) := by decide +kernel
theorem dX11_perform_119 : decode cX11_perform 119 = .ok (.goto 4, 3) := by decide +kernel
theorem dX11_perform_122 : decode cX11_perform 122 = .ok (.iconst 0, 1) := by decide +kernel
theorem dX11_perform_123 : decode cX11_perform 123 = .ok (.istore 8, 2) := by decide +kernel
theorem dX11_perform_125 : decode cX11_perform 125 = .ok (.iload 8, 2) := by decide +kernel
theorem dX11_perform_127 : decode cX11_perform 127 = .ok (.ifCond .eq 8, 3) := by decide +kernel
theorem dX11_perform_130 : decode cX11_perform 130 = .ok (.iload 4, 2) := by decide +kernel
theorem dX11_perform_132 : decode cX11_perform 132 = .ok (.goto 8, 3) := by decide +kernel
theorem dX11_perform_135 : decode cX11_perform 135 = .ok (.aload 6, 2) := by decide +kernel
theorem dX11_perform_137 : decode cX11_perform 137 = .ok (.invokevirtual 356, 3) := by decide +kernel
theorem dX11_perform_140 : decode cX11_perform 140 = .ok (.istore 9, 2) := by decide +kernel
theorem dX11_perform_142 : decode cX11_perform 142 = .ok (.iload 8, 2) := by decide +kernel
theorem dX11_perform_144 : decode cX11_perform 144 = .ok (.ifCond .eq 18, 3) := by decide +kernel
theorem dX11_perform_147 : decode cX11_perform 147 = .ok (.aload_n 0, 1) := by decide +kernel
theorem dX11_perform_148 : decode cX11_perform 148 = .ok (.getfield 69, 3) := by decide +kernel
theorem dX11_perform_151 : decode cX11_perform 151 = .ok (.getfield 171, 3) := by decide +kernel
theorem dX11_perform_154 : decode cX11_perform 154 = .ok (.iload 5, 2) := by decide +kernel
