theorem dX11_open_68 : decode cX11_open 68 = .ok (.arraylength, 1) := by decide +kernel
theorem dX11_open_69 : decode cX11_open 69 = .ok (.if_icmp .lt 6, 3) := by decide +kernel
theorem dX11_open_72 : decode cX11_open 72 = .ok (.bipush (-3), 2) := by decide +kernel
theorem dX11_open_74 : decode cX11_open 74 = .ok (.ireturn, 1) := by decide +kernel
theorem dX11_open_75 : decode cX11_open 75 = .ok (.aload_n 0, 1) := by decide +kernel
theorem dX11_open_76 : decode cX11_open 76 = .ok (.getfield 69, 3) := by decide +kernel
theorem dX11_open_79 : decode cX11_open 79 = .ok (.getfield 171, 3) := by decide +kernel
theorem dX11_open_82 : decode cX11_open 82 = .ok (.iload 6, 2) := by decide +kernel
theorem dX11_open_84 : decode cX11_open 84 = .ok (.aaload, 1) := by decide +kernel
theorem dX11_open_85 : decode cX11_open 85 = .ok (.iload_n 2, 1) := by decide +kernel
theorem dX11_open_86 : decode cX11_open 86 = .ok (.aload 4, 2) := by decide +kernel
theorem dX11_open_88 : decode cX11_open 88 = .ok (.invokevirtual 175, 3) := by decide +kernel
theorem dX11_open_91 : decode cX11_open 91 = .ok (.aload_n 0, 1) := by decide +kernel
theorem dX11_open_92 : decode cX11_open 92 = .ok (.getfield 69, 3) := by decide +kernel
theorem dX11_open_95 : decode cX11_open 95 = .ok (.getfield 171, 3) := by decide +kernel
theorem dX11_open_98 : decode cX11_open 98 = .ok (.iload 6, 2) := by decide +kernel
theorem dX11_open_100 : decode cX11_open 100 = .ok (.iconst 1, 1) := by decide +kernel
theorem dX11_open_101 : decode cX11_open 101 = .ok (.iadd, 1) := by decide +kernel
theorem dX11_open_102 : decode cX11_open 102 = .ok (.aaload, 1) := by decide +kernel
theorem dX11_open_103 : decode cX11_open 103 = .ok (.iload_n 3, 1) := by decide +kernel
theorem dX11_open_104 : decode cX11_open 104 = .ok (.aload 4, 2) := by decide +kernel
theorem dX11_open_106 : decode cX11_open 106 = .ok (.invokevirtual 98, 3) := by decide +kernel
theorem dX11_open_109 : decode cX11_open 109 = .ok (.invokevirtual 175, 3) := by decide +kernel
theorem dX11_open_112 : decode cX11_open 112 = .ok (.aload_n 0, 1) := by decide +kernel
theorem dX11_open_113 : decode cX11_open 113 = .ok (.getfield 69, 3) := by decide +kernel
theorem dX11_open_116 : decode cX11_open 116 = .ok (.iload 5, 2) := by decide +kernel
theorem dX11_open_118 : decode cX11_open 118 = .ok (.iconst 1, 1) := by decide +kernel
theorem dX11_open_119 : decode cX11_open 119 = .ok (.iadd, 1) := by decide +kernel
theorem dX11_open_120 : decode cX11_open 120 = .ok (.putfield 168, 3) := by decide +kernel
theorem dX11_open_123 : decode cX11_open 123 = .ok (.iload 5, 2) := by decide +kernel
theorem dX11_open_125 : decode cX11_open 125 = .ok (.ireturn, 1) := by decide +kernel
theorem dX11_size_0 : decode cX11_size 0 = .ok (.iload_n 1, 1) := by decide +kernel
theorem dX11_size_1 : decode cX11_size 1 = .ok (.iconst 1, 1) := by decide +kernel
theorem dX11_size_2 : decode cX11_size 2 = .ok (.if_icmp .lt 8, 3) := by decide +kernel
theorem dX11_size_5 : decode cX11_size 5 = .ok (.iload_n 1, 1) := by decide +kernel
theorem dX11_size_6 : decode cX11_size 6 = .ok (.iconst 4, 1) := by decide +kernel
theorem dX11_size_7 : decode cX11_size 7 = .ok (.if_icmp .le 5, 3) := by decide +kernel
theorem dX11_size_10 : decode cX11_size 10 = .ok (.iconst (-1), 1) := by decide +kernel
theorem dX11_size_11 : decode cX11_size 11 = .ok (.ireturn, 1) := by decide +kernel
theorem dX11_size_12 : decode cX11_size 12 = .ok (.aload_n 0, 1) := by decide +kernel
theorem dX11_size_13 : decode cX11_size 13 = .ok (.getfield 69, 3) := by decide +kernel
theorem dX11_size_16 : decode cX11_size 16 = .ok (.getfield 181, 3) := by decide +kernel
theorem dX11_size_19 : decode cX11_size 19 = .ok (.istore_n 2, 1) := by decide +kernel
theorem dX11_size_20 : decode cX11_size 20 = .ok (.aload_n 0, 1) := by decide +kernel
theorem dX11_size_21 : decode cX11_size 21 = .ok (.getfield 69, 3) := by decide +kernel
theorem dX11_size_24 : decode cX11_size 24 = .ok (.iload_n 1, 1) := by decide +kernel
theorem dX11_size_25 : decode cX11_size 25 = .ok (.putfield 181, 3) := by decide +kernel
theorem dX11_size_28 : decode cX11_size 28 = .ok (.iload_n 2, 1) := by decide +kernel
theorem dX11_size_29 : decode cX11_size 29 = .ok (.ireturn, 1) := by decide +kernel
set_option maxRecDepth 100000 in
set_option maxHeartbeats 8000000 in
theorem ggX11_say_X11_isParty : GoodIn wsX11_say wsX11_isParty := goodIn_r _ [5] rfl (by decide +kernel)
set_option maxRecDepth 20000 in
theorem gX11_say_X11_isParty : GoodIn wsX11_say (wsV RX11 164 RX11 yX11_isParty wsX11_isParty) := goodIn_app (goodIn_of _ (by decide +kernel)) ggX11_say_X11_isParty
set_option maxRecDepth 100000 in
set_option maxHeartbeats 8000000 in
theorem ggX11_say_X11_isEnd : GoodIn wsX11_say wsX11_isEnd := goodIn_r _ [9, 10, 11, 225, 226, 227, 228, 229, 230, 231, 232, 233, 234, 235, 236, 237, 238, 239, 240, 241, 242, 243, 244, 245, 246, 247, 248] rfl (by decide +kernel)
set_option maxRecDepth 20000 in
theorem gX11_say_X11_isEnd : GoodIn wsX11_say (wsV RX11 184 RX11 yX11_isEnd wsX11_isEnd) := goodIn_app (goodIn_of _ (by decide +kernel)) ggX11_say_X11_isEnd
set_option maxRecDepth 100000 in
set_option maxHeartbeats 8000000 in
theorem ggX11_say_X11_enact : GoodIn wsX11_say wsX11_enact := goodIn_r _ [15, 10, 16, 17, 18, 19, 20, 21, 22, 4, 23, 24, 25, 26, 27, 28, 29, 30, 31, 32, 33, 34, 35, 36, 37, 38, 39, 40, 41, 42, 43, 44, 45, 46, 47, 48, 49, 50, 51, 52, 53, 54, 55, 56, 57, 58, 59, 60, 61, 62, 63, 64, 65, 66, 67, 68, 69, 70, 71, 72, 73, 74, 75, 76, 77, 78, 79, 80, 81, 82, 83, 84, 85, 86, 87, 88, 89, 90, 91, 92, 93, 94, 95, 96, 97, 98, 99, 100, 101, 102, 103, 104, 105, 106, 107, 108, 109, 110, 111, 112, 113, 114, 115, 116, 117, 118, 119, 120, 121, 122, 123, 124, 125, 126, 127, 128, 129, 130, 131, 132, 133, 134, 135, 136, 137, 138, 139, 140, 141, 142, 143, 144, 145, 146, 147, 148, 149, 150, 151, 152, 153, 154, 155, 156, 157, 158, 159, 160, 161, 162, 163, 164, 165, 166, 167, 168, 169, 170, 171, 172, 173, 174, 175, 176, 177, 178, 179, 180, 181, 182, 183, 184, 185, 186, 187, 188, 189, 190, 191, 192, 193, 194, 195, 196, 197, 198, 199, 200, 201, 202, 203, 204, 205, 206, 207, 208, 209, 210, 211, 212, 213, 214, 215, 216, 217, 218, 219, 220, 221, 222, 223, 224, 225, 226, 227, 228, 229, 230, 231, 232, 233, 234, 235, 236, 237, 238, 239, 240, 241, 242, 243, 244, 245, 246, 247, 248, 249, 250, 251, 252, 253, 254, 255, 256, 257, 258, 259, 260, 261, 262, 263, 264, 265, 266, 267, 268, 269, 270, 271, 272, 273, 274, 275, 276, 277, 278, 279, 280, 281, 282] rfl (by decide +kernel)
set_option maxRecDepth 20000 in
theorem gX11_say_X11_enact : GoodIn wsX11_say (wsV RX11 187 RX11 yX11_enact wsX11_enact) := goodIn_app (goodIn_of _ (by decide +kernel)) ggX11_say_X11_enact
theorem dX11_say_0 : decode cX11_say 0 = .ok (.aload_n 0, 1) := by decide +kernel
theorem dX11_say_1 : decode cX11_say 1 = .ok (.iload_n 1, 1) := by decide +kernel
theorem dX11_say_2 : decode cX11_say 2 = .ok (.invokevirtual 164, 3) := by decide +kernel
theorem dX11_say_5 : decode cX11_say 5 = .ok (.ifCond .eq 22, 3) := by decide +kernel
theorem dX11_say_8 : decode cX11_say 8 = .ok (.aload_n 0, 1) := by decide +kernel
theorem dX11_say_9 : decode cX11_say 9 = .ok (.iload_n 2, 1) := by decide +kernel
theorem dX11_say_10 : decode cX11_say 10 = .ok (.invokevirtual 184, 3) := by decide +kernel
theorem dX11_say_13 : decode cX11_say 13 = .ok (.ifCond .eq 14, 3) := by decide +kernel
theorem dX11_say_16 : decode cX11_say 16 = .ok (.aload_n 0, 1) := by decide +kernel
theorem dX11_say_17 : decode cX11_say 17 = .ok (.iload_n 1, 1) := by decide +kernel
theorem dX11_say_18 : decode cX11_say 18 = .ok (.iload_n 2, 1) := by decide +kernel
theorem dX11_say_19 : decode cX11_say 19 = .ok (.iconst 1, 1) := by decide +kernel
theorem dX11_say_20 : decode cX11_say 20 = .ok (.iload_n 3, 1) := by decide +kernel
theorem dX11_say_21 : decode cX11_say 21 = .ok (.invokevirtual 187, 3) := by decide +kernel
theorem dX11_say_24 : decode cX11_say 24 = .ok (.goto 4, 3) := by decide +kernel
theorem dX11_say_27 : decode cX11_say 27 = .ok (.iconst (-1), 1) := by decide +kernel
theorem dX11_say_28 : decode cX11_say 28 = .ok (.ireturn, 1) := by decide +kernel
set_option maxRecDepth 100000 in
set_option maxHeartbeats 8000000 in
theorem ggX11_hear_X11_isParty : GoodIn wsX11_hear wsX11_isParty := goodIn_r _ [5] rfl (by decide +kernel)
set_option maxRecDepth 20000 in
theorem gX11_hear_X11_isParty : GoodIn wsX11_hear (wsV RX11 164 RX11 yX11_isParty wsX11_isParty) := goodIn_app (goodIn_of _ (by decide +kernel)) ggX11_hear_X11_isParty
set_option maxRecDepth 100000 in
set_option maxHeartbeats 8000000 in
theorem ggX11_hear_X11_isEnd : GoodIn wsX11_hear wsX11_isEnd := goodIn_r _ [9, 10, 11, 225, 226, 227, 228, 229, 230, 231, 232, 233, 234, 235, 236, 237, 238, 239, 240, 241, 242, 243, 244, 245, 246, 247, 248] rfl (by decide +kernel)
set_option maxRecDepth 20000 in
theorem gX11_hear_X11_isEnd : GoodIn wsX11_hear (wsV RX11 184 RX11 yX11_isEnd wsX11_isEnd) := goodIn_app (goodIn_of _ (by decide +kernel)) ggX11_hear_X11_isEnd
set_option maxRecDepth 100000 in
set_option maxHeartbeats 8000000 in
theorem ggX11_hear_X11_enact : GoodIn wsX11_hear wsX11_enact := goodIn_r _ [15, 10, 16, 17, 18, 19, 20, 21, 22, 4, 23, 24, 25, 26, 27, 28, 29, 30, 31, 32, 33, 34, 35, 36, 37, 38, 39, 40, 41, 42, 43, 44, 45, 46, 47, 48, 49, 50, 51, 52, 53, 54, 55, 56, 57, 58, 59, 60, 61, 62, 63, 64, 65, 66, 67, 68, 69, 70, 71, 72, 73, 74, 75, 76, 77, 78, 79, 80, 81, 82, 83, 84, 85, 86, 87, 88, 89, 90, 91, 92, 93, 94, 95, 96, 97, 98, 99, 100, 101, 102, 103, 104, 105, 106, 107, 108, 109, 110, 111, 112, 113, 114, 115, 116, 117, 118, 119, 120, 121, 122, 123, 124, 125, 126, 127, 128, 129, 130, 131, 132, 133, 134, 135, 136, 137, 138, 139, 140, 141, 142, 143, 144, 145, 146, 147, 148, 149, 150, 151, 152, 153, 154, 155, 156, 157, 158, 159, 160, 161, 162, 163, 164, 165, 166, 167, 168, 169, 170, 171, 172, 173, 174, 175, 176, 177, 178, 179, 180, 181, 182, 183, 184, 185, 186, 187, 188, 189, 190, 191, 192, 193, 194, 195, 196, 197, 198, 199, 200, 201, 202, 203, 204, 205, 206, 207, 208, 209, 210, 211, 212, 213, 214, 215, 216, 217, 218, 219, 220, 221, 222, 223, 224, 225, 226, 227, 228, 229, 230, 231, 232, 233, 234, 235, 236, 237, 238, 239, 240, 241, 242, 243, 244, 245, 246, 247, 248, 249, 250, 251, 252, 253, 254, 255, 256, 257, 258, 259, 260, 261, 262, 263, 264, 265, 266, 267, 268, 269, 270, 271, 272, 273, 274, 275, 276, 277, 278, 279, 280, 281, 282] rfl (by decide +kernel)
set_option maxRecDepth 20000 in
theorem gX11_hear_X11_enact : GoodIn wsX11_hear (wsV RX11 187 RX11 yX11_enact wsX11_enact) := goodIn_app (goodIn_of _ (by decide +kernel)) ggX11_hear_X11_enact
theorem dX11_hear_0 : decode cX11_hear 0 = .ok (.aload_n 0, 1) := by decide +kernel
theorem dX11_hear_1 : decode cX11_hear 1 = .ok (.iload_n 1, 1) := by decide +kernel
theorem dX11_hear_2 : decode cX11_hear 2 = .ok (.invokevirtual 164, 3) := by decide +kernel
theorem dX11_hear_5 : decode cX11_hear 5 = .ok (.ifCond .eq 22, 3) := by decide +kernel
theorem dX11_hear_8 : decode cX11_hear 8 = .ok (.aload_n 0, 1) := by decide +kernel
theorem dX11_hear_9 : decode cX11_hear 9 = .ok (.iload_n 2, 1) := by decide +kernel
theorem dX11_hear_10 : decode cX11_hear 10 = .ok (.invokevirtual 184, 3) := by decide +kernel
theorem dX11_hear_13 : decode cX11_hear 13 = .ok (.ifCond .eq 14, 3) := by decide +kernel
theorem dX11_hear_16 : decode cX11_hear 16 = .ok (.aload_n 0, 1) := by decide +kernel
theorem dX11_hear_17 : decode cX11_hear 17 = .ok (.iload_n 1, 1) := by decide +kernel
theorem dX11_hear_18 : decode cX11_hear 18 = .ok (.iload_n 2, 1) := by decide +kernel
theorem dX11_hear_19 : decode cX11_hear 19 = .ok (.iconst 2, 1) := by decide +kernel
theorem dX11_hear_20 : decode cX11_hear 20 = .ok (.iconst 0, 1) := by decide +kernel
theorem dX11_hear_21 : decode cX11_hear 21 = .ok (.invokevirtual 187, 3) := by decide +kernel
theorem dX11_hear_24 : decode cX11_hear 24 = .ok (.goto 4, 3) := by decide +kernel
theorem dX11_hear_27 : decode cX11_hear 27 = .ok (.iconst (-1), 1) := by decide +kernel
theorem dX11_hear_28 : decode cX11_hear 28 = .ok (.ireturn, 1) := by decide +kernel
set_option maxRecDepth 100000 in
set_option maxHeartbeats 8000000 in
theorem ggX11_choose_X11_isParty : GoodIn wsX11_choose wsX11_isParty := goodIn_r _ [5] rfl (by decide +kernel)
set_option maxRecDepth 20000 in
theorem gX11_choose_X11_isParty : GoodIn wsX11_choose (wsV RX11 164 RX11 yX11_isParty wsX11_isParty) := goodIn_app (goodIn_of _ (by decide +kernel)) ggX11_choose_X11_isParty
set_option maxRecDepth 100000 in
set_option maxHeartbeats 8000000 in
theorem ggX11_choose_X11_isEnd : GoodIn wsX11_choose wsX11_isEnd := goodIn_r _ [9, 10, 11, 225, 226, 227, 228, 229, 230, 231, 232, 233, 234, 235, 236, 237, 238, 239, 240, 241, 242, 243, 244, 245, 246, 247, 248] rfl (by decide +kernel)
set_option maxRecDepth 20000 in
theorem gX11_choose_X11_isEnd : GoodIn wsX11_choose (wsV RX11 184 RX11 yX11_isEnd wsX11_isEnd) := goodIn_app (goodIn_of _ (by decide +kernel)) ggX11_choose_X11_isEnd
set_option maxRecDepth 100000 in
set_option maxHeartbeats 8000000 in
theorem ggX11_choose_X11_enact : GoodIn wsX11_choose wsX11_enact := goodIn_r _ [15, 10, 16, 17, 18, 19, 20, 21, 22, 4, 23, 24, 25, 26, 27, 28, 29, 30, 31, 32, 33, 34, 35, 36, 37, 38, 39, 40, 41, 42, 43, 44, 45, 46, 47, 48, 49, 50, 51, 52, 53, 54, 55, 56, 57, 58, 59, 60, 61, 62, 63, 64, 65, 66, 67, 68, 69, 70, 71, 72, 73, 74, 75, 76, 77, 78, 79, 80, 81, 82, 83, 84, 85, 86, 87, 88, 89, 90, 91, 92, 93, 94, 95, 96, 97, 98, 99, 100, 101, 102, 103, 104, 105, 106, 107, 108, 109, 110, 111, 112, 113, 114, 115, 116, 117, 118, 119, 120, 121, 122, 123, 124, 125, 126, 127, 128, 129, 130, 131, 132, 133, 134, 135, 136, 137, 138, 139, 140, 141, 142, 143, 144, 145, 146, 147, 148, 149, 150, 151, 152, 153, 154, 155, 156, 157, 158, 159, 160, 161, 162, 163, 164, 165, 166, 167, 168, 169, 170, 171, 172, 173, 174, 175, 176, 177, 178, 179, 180, 181, 182, 183, 184, 185, 186, 187, 188, 189, 190, 191, 192, 193, 194, 195, 196, 197, 198, 199, 200, 201, 202, 203, 204, 205, 206, 207, 208, 209, 210, 211, 212, 213, 214, 215, 216, 217, 218, 219, 220, 221, 222, 223, 224, 225, 226, 227, 228, 229, 230, 231, 232, 233, 234, 235, 236, 237, 238, 239, 240, 241, 242, 243, 244, 245, 246, 247, 248, 249, 250, 251, 252, 253, 254, 255, 256, 257, 258, 259, 260, 261, 262, 263, 264, 265, 266, 267, 268, 269, 270, 271, 272, 273, 274, 275, 276, 277, 278, 279, 280, 281, 282] rfl (by decide +kernel)
set_option maxRecDepth 20000 in
theorem gX11_choose_X11_enact : GoodIn wsX11_choose (wsV RX11 187 RX11 yX11_enact wsX11_enact) := goodIn_app (goodIn_of _ (by decide +kernel)) ggX11_choose_X11_enact
theorem dX11_choose_0 : decode cX11_choose 0 = .ok (.aload_n 0, 1) := by decide +kernel
theorem dX11_choose_1 : decode cX11_choose 1 = .ok (.iload_n 1, 1) := by decide +kernel
theorem dX11_choose_2 : decode cX11_choose 2 = .ok (.invokevirtual 164, 3) := by decide +kernel
theorem dX11_choose_5 : decode cX11_choose 5 = .ok (.ifCond .eq 22, 3) := by decide +kernel
theorem dX11_choose_8 : decode cX11_choose 8 = .ok (.aload_n 0, 1) := by decide +kernel
theorem dX11_choose_9 : decode cX11_choose 9 = .ok (.iload_n 2, 1) := by decide +kernel
theorem dX11_choose_10 : decode cX11_choose 10 = .ok (.invokevirtual 184, 3) := by decide +kernel
theorem dX11_choose_13 : decode cX11_choose 13 = .ok (.ifCond .eq 14, 3) := by decide +kernel
theorem dX11_choose_16 : decode cX11_choose 16 = .ok (.aload_n 0, 1) := by decide +kernel
theorem dX11_choose_17 : decode cX11_choose 17 = .ok (.iload_n 1, 1) := by decide +kernel
theorem dX11_choose_18 : decode cX11_choose 18 = .ok (.iload_n 2, 1) := by decide +kernel
theorem dX11_choose_19 : decode cX11_choose 19 = .ok (.iconst 3, 1) := by decide +kernel
theorem dX11_choose_20 : decode cX11_choose 20 = .ok (.iload_n 3, 1) := by decide +kernel
theorem dX11_choose_21 : decode cX11_choose 21 = .ok (.invokevirtual 187, 3) := by decide +kernel
theorem dX11_choose_24 : decode cX11_choose 24 = .ok (.goto 4, 3) := by decide +kernel
theorem dX11_choose_27 : decode cX11_choose 27 = .ok (.iconst (-1), 1) := by decide +kernel
theorem dX11_choose_28 : decode cX11_choose 28 = .ok (.ireturn, 1) := by decide +kernel
set_option maxRecDepth 100000 in
set_option maxHeartbeats 8000000 in
theorem ggX11_offered_X11_isParty : GoodIn wsX11_offered wsX11_isParty := goodIn_r _ [5] rfl (by decide +kernel)
set_option maxRecDepth 20000 in
theorem gX11_offered_X11_isParty : GoodIn wsX11_offered (wsV RX11 164 RX11 yX11_isParty wsX11_isParty) := goodIn_app (goodIn_of _ (by decide +kernel)) ggX11_offered_X11_isParty
set_option maxRecDepth 100000 in
set_option maxHeartbeats 8000000 in
theorem ggX11_offered_X11_isEnd : GoodIn wsX11_offered wsX11_isEnd := goodIn_r _ [9, 10, 11, 225, 226, 227, 228, 229, 230, 231, 232, 233, 234, 235, 236, 237, 238, 239, 240, 241, 242, 243, 244, 245, 246, 247, 248] rfl (by decide +kernel)
set_option maxRecDepth 20000 in
theorem gX11_offered_X11_isEnd : GoodIn wsX11_offered (wsV RX11 184 RX11 yX11_isEnd wsX11_isEnd) := goodIn_app (goodIn_of _ (by decide +kernel)) ggX11_offered_X11_isEnd
set_option maxRecDepth 100000 in
set_option maxHeartbeats 8000000 in
theorem ggX11_offered_X11_enact : GoodIn wsX11_offered wsX11_enact := goodIn_r _ [15, 10, 16, 17, 18, 19, 20, 21, 22, 4, 23, 24, 25, 26, 27, 28, 29, 30, 31, 32, 33, 34, 35, 36, 37, 38, 39, 40, 41, 42, 43, 44, 45, 46, 47, 48, 49, 50, 51, 52, 53, 54, 55, 56, 57, 58, 59, 60, 61, 62, 63, 64, 65, 66, 67, 68, 69, 70, 71, 72, 73, 74, 75, 76, 77, 78, 79, 80, 81, 82, 83, 84, 85, 86, 87, 88, 89, 90, 91, 92, 93, 94, 95, 96, 97, 98, 99, 100, 101, 102, 103, 104, 105, 106, 107, 108, 109, 110, 111, 112, 113, 114, 115, 116, 117, 118, 119, 120, 121, 122, 123, 124, 125, 126, 127, 128, 129, 130, 131, 132, 133, 134, 135, 136, 137, 138, 139, 140, 141, 142, 143, 144, 145, 146, 147, 148, 149, 150, 151, 152, 153, 154, 155, 156, 157, 158, 159, 160, 161, 162, 163, 164, 165, 166, 167, 168, 169, 170, 171, 172, 173, 174, 175, 176, 177, 178, 179, 180, 181, 182, 183, 184, 185, 186, 187, 188, 189, 190, 191, 192, 193, 194, 195, 196, 197, 198, 199, 200, 201, 202, 203, 204, 205, 206, 207, 208, 209, 210, 211, 212, 213, 214, 215, 216, 217, 218, 219, 220, 221, 222, 223, 224, 225, 226, 227, 228, 229, 230, 231, 232, 233, 234, 235, 236, 237, 238, 239, 240, 241, 242, 243, 244, 245, 246, 247, 248, 249, 250, 251, 252, 253, 254, 255, 256, 257, 258, 259, 260, 261, 262, 263, 264, 265, 266, 267, 268, 269, 270, 271, 272, 273, 274, 275, 276, 277, 278, 279, 280, 281, 282] rfl (by decide +kernel)
set_option maxRecDepth 20000 in
theorem gX11_offered_X11_enact : GoodIn wsX11_offered (wsV RX11 187 RX11 yX11_enact wsX11_enact) := goodIn_app (goodIn_of _ (by decide +kernel)) ggX11_offered_X11_enact
theorem dX11_offered_0 : decode cX11_offered 0 = .ok (.aload_n 0, 1) := by decide +kernel
theorem dX11_offered_1 : decode cX11_offered 1 = .ok (.iload_n 1, 1) := by decide +kernel
theorem dX11_offered_2 : decode cX11_offered 2 = .ok (.invokevirtual 164, 3) := by decide +kernel
theorem dX11_offered_5 : decode cX11_offered 5 = .ok (.ifCond .eq 22, 3) := by decide +kernel
theorem dX11_offered_8 : decode cX11_offered 8 = .ok (.aload_n 0, 1) := by decide +kernel
theorem dX11_offered_9 : decode cX11_offered 9 = .ok (.iload_n 2, 1) := by decide +kernel
theorem dX11_offered_10 : decode cX11_offered 10 = .ok (.invokevirtual 184, 3) := by decide +kernel
theorem dX11_offered_13 : decode cX11_offered 13 = .ok (.ifCond .eq 14, 3) := by decide +kernel
theorem dX11_offered_16 : decode cX11_offered 16 = .ok (.aload_n 0, 1) := by decide +kernel
theorem dX11_offered_17 : decode cX11_offered 17 = .ok (.iload_n 1, 1) := by decide +kernel
theorem dX11_offered_18 : decode cX11_offered 18 = .ok (.iload_n 2, 1) := by decide +kernel
theorem dX11_offered_19 : decode cX11_offered 19 = .ok (.iconst 4, 1) := by decide +kernel
theorem dX11_offered_20 : decode cX11_offered 20 = .ok (.iconst 0, 1) := by decide +kernel
theorem dX11_offered_21 : decode cX11_offered 21 = .ok (.invokevirtual 187, 3) := by decide +kernel
theorem dX11_offered_24 : decode cX11_offered 24 = .ok (.goto 4, 3) := by decide +kernel
theorem dX11_offered_27 : decode cX11_offered 27 = .ok (.iconst (-1), 1) := by decide +kernel
theorem dX11_offered_28 : decode cX11_offered 28 = .ok (.ireturn, 1) := by decide +kernel
set_option maxRecDepth 100000 in
set_option maxHeartbeats 8000000 in
theorem ggX11_end_X11_isParty : GoodIn wsX11_end wsX11_isParty := goodIn_r _ [5] rfl (by decide +kernel)
set_option maxRecDepth 20000 in
theorem gX11_end_X11_isParty : GoodIn wsX11_end (wsV RX11 164 RX11 yX11_isParty wsX11_isParty) := goodIn_app (goodIn_of _ (by decide +kernel)) ggX11_end_X11_isParty
set_option maxRecDepth 100000 in
set_option maxHeartbeats 8000000 in
theorem ggX11_end_X11_isEnd : GoodIn wsX11_end wsX11_isEnd := goodIn_r _ [9, 10, 11, 225, 226, 227, 228, 229, 230, 231, 232, 233, 234, 235, 236, 237, 238, 239, 240, 241, 242, 243, 244, 245, 246, 247, 248] rfl (by decide +kernel)
set_option maxRecDepth 20000 in
theorem gX11_end_X11_isEnd : GoodIn wsX11_end (wsV RX11 184 RX11 yX11_isEnd wsX11_isEnd) := goodIn_app (goodIn_of _ (by decide +kernel)) ggX11_end_X11_isEnd
set_option maxRecDepth 100000 in
set_option maxHeartbeats 8000000 in
theorem ggX11_end_X11_enact : GoodIn wsX11_end wsX11_enact := goodIn_r _ [15, 10, 16, 17, 18, 19, 20, 21, 22, 4, 23, 24, 25, 26, 27, 28, 29, 30, 31, 32, 33, 34, 35, 36, 37, 38, 39, 40, 41, 42, 43, 44, 45, 46, 47, 48, 49, 50, 51, 52, 53, 54, 55, 56, 57, 58, 59, 60, 61, 62, 63, 64, 65, 66, 67, 68, 69, 70, 71, 72, 73, 74, 75, 76, 77, 78, 79, 80, 81, 82, 83, 84, 85, 86, 87, 88, 89, 90, 91, 92, 93, 94, 95, 96, 97, 98, 99, 100, 101, 102, 103, 104, 105, 106, 107, 108, 109, 110, 111, 112, 113, 114, 115, 116, 117, 118, 119, 120, 121, 122, 123, 124, 125, 126, 127, 128, 129, 130, 131, 132, 133, 134, 135, 136, 137, 138, 139, 140, 141, 142, 143, 144, 145, 146, 147, 148, 149, 150, 151, 152, 153, 154, 155, 156, 157, 158, 159, 160, 161, 162, 163, 164, 165, 166, 167, 168, 169, 170, 171, 172, 173, 174, 175, 176, 177, 178, 179, 180, 181, 182, 183, 184, 185, 186, 187, 188, 189, 190, 191, 192, 193, 194, 195, 196, 197, 198, 199, 200, 201, 202, 203, 204, 205, 206, 207, 208, 209, 210, 211, 212, 213, 214, 215, 216, 217, 218, 219, 220, 221, 222, 223, 224, 225, 226, 227, 228, 229, 230, 231, 232, 233, 234, 235, 236, 237, 238, 239, 240, 241, 242, 243, 244, 245, 246, 247, 248, 249, 250, 251, 252, 253, 254, 255, 256, 257, 258, 259, 260, 261, 262, 263, 264, 265, 266, 267, 268, 269, 270, 271, 272, 273, 274, 275, 276, 277, 278, 279, 280, 281, 282] rfl (by decide +kernel)
set_option maxRecDepth 20000 in
theorem gX11_end_X11_enact : GoodIn wsX11_end (wsV RX11 187 RX11 yX11_enact wsX11_enact) := goodIn_app (goodIn_of _ (by decide +kernel)) ggX11_end_X11_enact
theorem dX11_end_0 : decode cX11_end 0 = .ok (.aload_n 0, 1) := by decide +kernel
theorem dX11_end_1 : decode cX11_end 1 = .ok (.iload_n 1, 1) := by decide +kernel
theorem dX11_end_2 : decode cX11_end 2 = .ok (.invokevirtual 164, 3) := by decide +kernel
theorem dX11_end_5 : decode cX11_end 5 = .ok (.ifCond .eq 22, 3) := by decide +kernel
theorem dX11_end_8 : decode cX11_end 8 = .ok (.aload_n 0, 1) := by decide +kernel
theorem dX11_end_9 : decode cX11_end 9 = .ok (.iload_n 2, 1) := by decide +kernel
theorem dX11_end_10 : decode cX11_end 10 = .ok (.invokevirtual 184, 3) := by decide +kernel
theorem dX11_end_13 : decode cX11_end 13 = .ok (.ifCond .eq 14, 3) := by decide +kernel
theorem dX11_end_16 : decode cX11_end 16 = .ok (.aload_n 0, 1) := by decide +kernel
theorem dX11_end_17 : decode cX11_end 17 = .ok (.iload_n 1, 1) := by decide +kernel
theorem dX11_end_18 : decode cX11_end 18 = .ok (.iload_n 2, 1) := by decide +kernel
theorem dX11_end_19 : decode cX11_end 19 = .ok (.iconst 0, 1) := by decide +kernel
theorem dX11_end_20 : decode cX11_end 20 = .ok (.iconst 0, 1) := by decide +kernel
theorem dX11_end_21 : decode cX11_end 21 = .ok (.invokevirtual 187, 3) := by decide +kernel
theorem dX11_end_24 : decode cX11_end 24 = .ok (.goto 4, 3) := by decide +kernel
theorem dX11_end_27 : decode cX11_end 27 = .ok (.iconst (-1), 1) := by decide +kernel
theorem dX11_end_28 : decode cX11_end 28 = .ok (.ireturn, 1) := by decide +kernel
set_option maxRecDepth 100000 in
set_option maxHeartbeats 8000000 in
theorem ggX11_look_X11_isEnd : GoodIn wsX11_look wsX11_isEnd := goodIn_r _ [11, 1, 12, 35, 36, 37, 38, 39, 40, 41, 42, 43, 44, 45, 46, 47, 48, 49, 50, 51, 52, 53, 54, 55, 56, 57, 58] rfl (by decide +kernel)
set_option maxRecDepth 20000 in
theorem gX11_look_X11_isEnd : GoodIn wsX11_look (wsV RX11 184 RX11 yX11_isEnd wsX11_isEnd) := goodIn_app (goodIn_of _ (by decide +kernel)) ggX11_look_X11_isEnd
set_option maxRecDepth 100000 in
set_option maxHeartbeats 8000000 in
theorem ggX11_look_X2_kind : GoodIn wsX11_look wsX2_kind := goodIn_r _ [17, 18, 19, 20, 21, 22, 23, 24, 25, 59, 60, 61, 62, 63, 64, 65, 66, 67, 68, 69, 70, 71, 72, 73, 74, 75] rfl (by decide +kernel)
set_option maxRecDepth 20000 in
theorem gX11_look_X2_kind : GoodIn wsX11_look (wsV RX11 194 RX2 yX2_kind wsX2_kind) := goodIn_app (goodIn_of _ (by decide +kernel)) ggX11_look_X2_kind
set_option maxRecDepth 100000 in
set_option maxHeartbeats 8000000 in
theorem ggX11_look_X2_labels : GoodIn wsX11_look wsX2_labels := goodIn_r _ [29, 18, 19, 30, 31, 32, 23, 33, 34, 59, 60, 61, 62, 63, 64, 65, 66, 67, 68, 69, 70, 71, 72, 73, 74, 75] rfl (by decide +kernel)
set_option maxRecDepth 20000 in
theorem gX11_look_X2_labels : GoodIn wsX11_look (wsV RX11 197 RX2 yX2_labels wsX2_labels) := goodIn_app (goodIn_of _ (by decide +kernel)) ggX11_look_X2_labels
theorem dX11_look_0 : decode cX11_look 0 = .ok (.aload_n 0, 1) := by decide +kernel
theorem dX11_look_1 : decode cX11_look 1 = .ok (.iload_n 1, 1) := by decide +kernel
theorem dX11_look_2 : decode cX11_look 2 = .ok (.invokevirtual 184, 3) := by decide +kernel
theorem dX11_look_5 : decode cX11_look 5 = .ok (.ifCond .eq 15, 3) := by decide +kernel
theorem dX11_look_8 : decode cX11_look 8 = .ok (.iload_n 1, 1) := by decide +kernel
theorem dX11_look_9 : decode cX11_look 9 = .ok (.aload_n 0, 1) := by decide +kernel
theorem dX11_look_10 : decode cX11_look 10 = .ok (.getfield 69, 3) := by decide +kernel
theorem dX11_look_13 : decode cX11_look 13 = .ok (.getfield 171, 3) := by decide +kernel
theorem dX11_look_16 : decode cX11_look 16 = .ok (.arraylength, 1) := by decide +kernel
theorem dX11_look_17 : decode cX11_look 17 = .ok (.if_icmp .lt 5, 3) := by decide +kernel
theorem dX11_look_20 : decode cX11_look 20 = .ok (.iconst (-1), 1) := by decide +kernel
theorem dX11_look_21 : decode cX11_look 21 = .ok (.ireturn, 1) := by decide +kernel
theorem dX11_look_22 : decode cX11_look 22 = .ok (.aload_n 0, 1) := by decide +kernel
theorem dX11_look_23 : decode cX11_look 23 = .ok (.getfield 69, 3) := by decide +kernel
theorem dX11_look_26 : decode cX11_look 26 = .ok (.getfield 171, 3) := by decide +kernel
theorem dX11_look_29 : decode cX11_look 29 = .ok (.iload_n 1, 1) := by decide +kernel
theorem dX11_look_30 : decode cX11_look 30 = .ok (.aaload, 1) := by decide +kernel
theorem dX11_look_31 : decode cX11_look 31 = .ok (.astore_n 3, 1) := by decide +kernel
theorem dX11_look_32 : decode cX11_look 32 = .ok (.iload_n 2, 1) := by decide +kernel
theorem dX11_look_33 : decode cX11_look 33 = .ok (.tableswitch 77 0 5 #[39, 44, 49, 54, 59, 64], 39) := by decide +kernel
theorem dX11_look_72 : decode cX11_look 72 = .ok (.aload_n 3, 1) := by decide +kernel
theorem dX11_look_73 : decode cX11_look 73 = .ok (.getfield 191, 3) := by decide +kernel
theorem dX11_look_76 : decode cX11_look 76 = .ok (.ireturn, 1) := by decide +kernel
theorem dX11_look_77 : decode cX11_look 77 = .ok (.aload_n 3, 1) := by decide +kernel
theorem dX11_look_78 : decode cX11_look 78 = .ok (.invokevirtual 194, 3) := by decide +kernel
theorem dX11_look_81 : decode cX11_look 81 = .ok (.ireturn, 1) := by decide +kernel
theorem dX11_look_82 : decode cX11_look 82 = .ok (.aload_n 3, 1) := by decide +kernel
theorem dX11_look_83 : decode cX11_look 83 = .ok (.invokevirtual 197, 3) := by decide +kernel
theorem dX11_look_86 : decode cX11_look 86 = .ok (.ireturn, 1) := by decide +kernel
theorem dX11_look_87 : decode cX11_look 87 = .ok (.aload_n 3, 1) := by decide +kernel
theorem dX11_look_88 : decode cX11_look 88 = .ok (.getfield 200, 3) := by decide +kernel
theorem dX11_look_91 : decode cX11_look 91 = .ok (.ireturn, 1) := by decide +kernel
theorem dX11_look_92 : decode cX11_look 92 = .ok (.aload_n 3, 1) := by decide +kernel
theorem dX11_look_93 : decode cX11_look 93 = .ok (.getfield 203, 3) := by decide +kernel
theorem dX11_look_96 : decode cX11_look 96 = .ok (.ireturn, 1) := by decide +kernel
theorem dX11_look_97 : decode cX11_look 97 = .ok (.aload_n 3, 1) := by decide +kernel
theorem dX11_look_98 : decode cX11_look 98 = .ok (.getfield 204, 3) := by decide +kernel
theorem dX11_look_101 : decode cX11_look 101 = .ok (.ifCond .eq 7, 3) := by decide +kernel
theorem dX11_look_104 : decode cX11_look 104 = .ok (.iconst 1, 1) := by decide +kernel
theorem dX11_look_105 : decode cX11_look 105 = .ok (.goto 4, 3) := by decide +kernel
theorem dX11_look_108 : decode cX11_look 108 = .ok (.iconst 0, 1) := by decide +kernel
theorem dX11_look_109 : decode cX11_look 109 = .ok (.ireturn, 1) := by decide +kernel
theorem dX11_look_110 : decode cX11_look 110 = .ok (.iconst (-1), 1) := by decide +kernel
theorem dX11_look_111 : decode cX11_look 111 = .ok (.ireturn, 1) := by decide +kernel
set_option maxRecDepth 100000 in
set_option maxHeartbeats 8000000 in
theorem ggX11_blame_X0_causeAt : GoodIn wsX11_blame wsX0_causeAt := goodIn_r _ [12, 13, 14, 39, 40, 41, 42, 43, 44] rfl (by decide +kernel)
set_option maxRecDepth 20000 in
theorem gX11_blame_X0_causeAt : GoodIn wsX11_blame (wsV RX11 229 RX0 yX0_causeAt wsX0_causeAt) := goodIn_app (goodIn_of _ (by decide +kernel)) ggX11_blame_X0_causeAt
theorem dX11_blame_0 : decode cX11_blame 0 = .ok (.iload_n 1, 1) := by decide +kernel
theorem dX11_blame_1 : decode cX11_blame 1 = .ok (.ifCond .lt 9, 3) := by decide +kernel
theorem dX11_blame_4 : decode cX11_blame 4 = .ok (.iload_n 1, 1) := by decide +kernel
theorem dX11_blame_5 : decode cX11_blame 5 = .ok (.bipush 7, 2) := by decide +kernel
theorem dX11_blame_7 : decode cX11_blame 7 = .ok (.if_icmp .le 5, 3) := by decide +kernel
theorem dX11_blame_10 : decode cX11_blame 10 = .ok (.iconst (-1), 1) := by decide +kernel
theorem dX11_blame_11 : decode cX11_blame 11 = .ok (.ireturn, 1) := by decide +kernel
theorem dX11_blame_12 : decode cX11_blame 12 = .ok (.aload_n 0, 1) := by decide +kernel
theorem dX11_blame_13 : decode cX11_blame 13 = .ok (.getfield 69, 3) := by decide +kernel
theorem dX11_blame_16 : decode cX11_blame 16 = .ok (.getfield 208, 3) := by decide +kernel
theorem dX11_blame_19 : decode cX11_blame 19 = .ok (.astore_n 2, 1) := by decide +kernel
theorem dX11_blame_20 : decode cX11_blame 20 = .ok (.aload_n 2, 1) := by decide +kernel
theorem dX11_blame_21 : decode cX11_blame 21 = .ok (.getfield 212, 3) := by decide +kernel
theorem dX11_blame_24 : decode cX11_blame 24 = .ok (.ifCond .ne 6, 3) := by decide +kernel
theorem dX11_blame_27 : decode cX11_blame 27 = .ok (.bipush (-5), 2) := by decide +kernel
theorem dX11_blame_29 : decode cX11_blame 29 = .ok (.ireturn, 1) := by decide +kernel
theorem dX11_blame_30 : decode cX11_blame 30 = .ok (.iload_n 1, 1) := by decide +kernel
theorem dX11_blame_31 : decode cX11_blame 31 = .ok (.tableswitch 58 0 4 #[33, 38, 43, 48, 53], 33) := by decide +kernel
theorem dX11_blame_64 : decode cX11_blame 64 = .ok (.aload_n 2, 1) := by decide +kernel
theorem dX11_blame_65 : decode cX11_blame 65 = .ok (.getfield 217, 3) := by decide +kernel
theorem dX11_blame_68 : decode cX11_blame 68 = .ok (.ireturn, 1) := by decide +kernel
theorem dX11_blame_69 : decode cX11_blame 69 = .ok (.aload_n 2, 1) := by decide +kernel
theorem dX11_blame_70 : decode cX11_blame 70 = .ok (.getfield 220, 3) := by decide +kernel
theorem dX11_blame_73 : decode cX11_blame 73 = .ok (.ireturn, 1) := by decide +kernel
theorem dX11_blame_74 : decode cX11_blame 74 = .ok (.aload_n 2, 1) := by decide +kernel
theorem dX11_blame_75 : decode cX11_blame 75 = .ok (.getfield 212, 3) := by decide +kernel
theorem dX11_blame_78 : decode cX11_blame 78 = .ok (.ireturn, 1) := by decide +kernel
theorem dX11_blame_79 : decode cX11_blame 79 = .ok (.aload_n 2, 1) := by decide +kernel
theorem dX11_blame_80 : decode cX11_blame 80 = .ok (.getfield 223, 3) := by decide +kernel
theorem dX11_blame_83 : decode cX11_blame 83 = .ok (.ireturn, 1) := by decide +kernel
theorem dX11_blame_84 : decode cX11_blame 84 = .ok (.aload_n 2, 1) := by decide +kernel
theorem dX11_blame_85 : decode cX11_blame 85 = .ok (.getfield 226, 3) := by decide +kernel
theorem dX11_blame_88 : decode cX11_blame 88 = .ok (.ireturn, 1) := by decide +kernel
theorem dX11_blame_89 : decode cX11_blame 89 = .ok (.aload_n 2, 1) := by decide +kernel
theorem dX11_blame_90 : decode cX11_blame 90 = .ok (.iload_n 1, 1) := by decide +kernel
theorem dX11_blame_91 : decode cX11_blame 91 = .ok (.iconst 5, 1) := by decide +kernel
theorem dX11_blame_92 : decode cX11_blame 92 = .ok (.isub, 1) := by decide +kernel
theorem dX11_blame_93 : decode cX11_blame 93 = .ok (.invokevirtual 229, 3) := by decide +kernel
theorem dX11_blame_96 : decode cX11_blame 96 = .ok (.ireturn, 1) := by decide +kernel
theorem dX11_led_0 : decode cX11_led 0 = .ok (.iload_n 1, 1) := by decide +kernel
theorem dX11_led_1 : decode cX11_led 1 = .ok (.tableswitch 87 0 5 #[39, 47, 55, 63, 71, 79], 39) := by decide +kernel
theorem dX11_led_40 : decode cX11_led 40 = .ok (.aload_n 0, 1) := by decide +kernel
theorem dX11_led_41 : decode cX11_led 41 = .ok (.getfield 69, 3) := by decide +kernel
theorem dX11_led_44 : decode cX11_led 44 = .ok (.getfield 265, 3) := by decide +kernel
theorem dX11_led_47 : decode cX11_led 47 = .ok (.ireturn, 1) := by decide +kernel
theorem dX11_led_48 : decode cX11_led 48 = .ok (.aload_n 0, 1) := by decide +kernel
theorem dX11_led_49 : decode cX11_led 49 = .ok (.getfield 69, 3) := by decide +kernel
theorem dX11_led_52 : decode cX11_led 52 = .ok (.getfield 268, 3) := by decide +kernel
theorem dX11_led_55 : decode cX11_led 55 = .ok (.ireturn, 1) := by decide +kernel
theorem dX11_led_56 : decode cX11_led 56 = .ok (.aload_n 0, 1) := by decide +kernel
theorem dX11_led_57 : decode cX11_led 57 = .ok (.getfield 69, 3) := by decide +kernel
theorem dX11_led_60 : decode cX11_led 60 = .ok (.getfield 271, 3) := by decide +kernel
theorem dX11_led_63 : decode cX11_led 63 = .ok (.ireturn, 1) := by decide +kernel
theorem dX11_led_64 : decode cX11_led 64 = .ok (.aload_n 0, 1) := by decide +kernel
theorem dX11_led_65 : decode cX11_led 65 = .ok (.getfield 69, 3) := by decide +kernel
theorem dX11_led_68 : decode cX11_led 68 = .ok (.getfield 274, 3) := by decide +kernel
theorem dX11_led_71 : decode cX11_led 71 = .ok (.ireturn, 1) := by decide +kernel
theorem dX11_led_72 : decode cX11_led 72 = .ok (.aload_n 0, 1) := by decide +kernel
theorem dX11_led_73 : decode cX11_led 73 = .ok (.getfield 69, 3) := by decide +kernel
theorem dX11_led_76 : decode cX11_led 76 = .ok (.getfield 277, 3) := by decide +kernel
theorem dX11_led_79 : decode cX11_led 79 = .ok (.ireturn, 1) := by decide +kernel
theorem dX11_led_80 : decode cX11_led 80 = .ok (.aload_n 0, 1) := by decide +kernel
theorem dX11_led_81 : decode cX11_led 81 = .ok (.getfield 69, 3) := by decide +kernel
theorem dX11_led_84 : decode cX11_led 84 = .ok (.getfield 280, 3) := by decide +kernel
theorem dX11_led_87 : decode cX11_led 87 = .ok (.ireturn, 1) := by decide +kernel
theorem dX11_led_88 : decode cX11_led 88 = .ok (.iconst (-1), 1) := by decide +kernel
theorem dX11_led_89 : decode cX11_led 89 = .ok (.ireturn, 1) := by decide +kernel
set_option maxRecDepth 100000 in
set_option maxHeartbeats 8000000 in
theorem ggX11_count_X11_protocolsThere : GoodIn wsX11_count wsX11_protocolsThere := goodIn_r _ [9, 10, 29, 30, 31, 32, 33, 34, 35, 36, 37, 38, 39, 40, 41] rfl (by decide +kernel)
set_option maxRecDepth 20000 in
theorem gX11_count_X11_protocolsThere : GoodIn wsX11_count (wsV RX11 282 RX11 yX11_protocolsThere wsX11_protocolsThere) := goodIn_app (goodIn_of _ (by decide +kernel)) ggX11_count_X11_protocolsThere
set_option maxRecDepth 100000 in
set_option maxHeartbeats 8000000 in
theorem ggX11_count_X9_sessionsOver : GoodIn wsX11_count wsX9_sessionsOver := goodIn_r _ [15, 16, 17, 18, 42, 43, 44, 45, 46, 47, 48, 49, 50, 51, 52, 53, 54, 55, 56, 57, 58, 59, 60] rfl (by decide +kernel)
set_option maxRecDepth 20000 in
theorem gX11_count_X9_sessionsOver : GoodIn wsX11_count (wsV RX11 285 RX9 yX9_sessionsOver wsX9_sessionsOver) := goodIn_app (goodIn_of _ (by decide +kernel)) ggX11_count_X9_sessionsOver
set_option maxRecDepth 100000 in
set_option maxHeartbeats 8000000 in
theorem ggX11_count_X9_lettersLying : GoodIn wsX11_count wsX9_lettersLying := goodIn_r _ [22, 16, 17, 23, 42, 43, 44, 45, 46, 47, 48, 49, 50, 51, 52, 53, 54, 55, 56, 57, 58, 59, 60] rfl (by decide +kernel)
set_option maxRecDepth 20000 in
theorem gX11_count_X9_lettersLying : GoodIn wsX11_count (wsV RX11 288 RX9 yX9_lettersLying wsX9_lettersLying) := goodIn_app (goodIn_of _ (by decide +kernel)) ggX11_count_X9_lettersLying
set_option maxRecDepth 100000 in
set_option maxHeartbeats 8000000 in
theorem ggX11_count_X9_endsUnheld : GoodIn wsX11_count wsX9_endsUnheld := goodIn_r _ [27, 16, 17, 28, 42, 43, 44, 45, 46, 47, 48, 49, 50, 51, 52, 53, 54, 55, 56, 57, 58, 59, 60] rfl (by decide +kernel)
set_option maxRecDepth 20000 in
theorem gX11_count_X9_endsUnheld : GoodIn wsX11_count (wsV RX11 291 RX9 yX9_endsUnheld wsX9_endsUnheld) := goodIn_app (goodIn_of _ (by decide +kernel)) ggX11_count_X9_endsUnheld
theorem dX11_count_0 : decode cX11_count 0 = .ok (.iload_n 1, 1) := by decide +kernel
theorem dX11_count_1 : decode cX11_count 1 = .ok (.tableswitch 93 0 6 #[43, 48, 56, 61, 69, 77, 85], 43) := by decide +kernel
theorem dX11_count_44 : decode cX11_count 44 = .ok (.aload_n 0, 1) := by decide +kernel
theorem dX11_count_45 : decode cX11_count 45 = .ok (.invokevirtual 282, 3) := by decide +kernel
theorem dX11_count_48 : decode cX11_count 48 = .ok (.ireturn, 1) := by decide +kernel
theorem dX11_count_49 : decode cX11_count 49 = .ok (.aload_n 0, 1) := by decide +kernel
theorem dX11_count_50 : decode cX11_count 50 = .ok (.getfield 69, 3) := by decide +kernel
theorem dX11_count_53 : decode cX11_count 53 = .ok (.getfield 168, 3) := by decide +kernel
theorem dX11_count_56 : decode cX11_count 56 = .ok (.ireturn, 1) := by decide +kernel
theorem dX11_count_57 : decode cX11_count 57 = .ok (.aload_n 0, 1) := by decide +kernel
theorem dX11_count_58 : decode cX11_count 58 = .ok (.getfield 76, 3) := by decide +kernel
theorem dX11_count_61 : decode cX11_count 61 = .ok (.ireturn, 1) := by decide +kernel
theorem dX11_count_62 : decode cX11_count 62 = .ok (.aload_n 0, 1) := by decide +kernel
theorem dX11_count_63 : decode cX11_count 63 = .ok (.getfield 69, 3) := by decide +kernel
theorem dX11_count_66 : decode cX11_count 66 = .ok (.invokevirtual 285, 3) := by decide +kernel
theorem dX11_count_69 : decode cX11_count 69 = .ok (.ireturn, 1) := by decide +kernel
theorem dX11_count_70 : decode cX11_count 70 = .ok (.aload_n 0, 1) := by decide +kernel
theorem dX11_count_71 : decode cX11_count 71 = .ok (.getfield 69, 3) := by decide +kernel
theorem dX11_count_74 : decode cX11_count 74 = .ok (.invokevirtual 288, 3) := by decide +kernel
theorem dX11_count_77 : decode cX11_count 77 = .ok (.ireturn, 1) := by decide +kernel
theorem dX11_count_78 : decode cX11_count 78 = .ok (.aload_n 0, 1) := by decide +kernel
theorem dX11_count_79 : decode cX11_count 79 = .ok (.getfield 69, 3) := by decide +kernel
theorem dX11_count_82 : decode cX11_count 82 = .ok (.getfield 181, 3) := by decide +kernel
theorem dX11_count_85 : decode cX11_count 85 = .ok (.ireturn, 1) := by decide +kernel
theorem dX11_count_86 : decode cX11_count 86 = .ok (.aload_n 0, 1) := by decide +kernel
theorem dX11_count_87 : decode cX11_count 87 = .ok (.getfield 69, 3) := by decide +kernel
theorem dX11_count_90 : decode cX11_count 90 = .ok (.invokevirtual 291, 3) := by decide +kernel
theorem dX11_count_93 : decode cX11_count 93 = .ok (.ireturn, 1) := by decide +kernel
theorem dX11_count_94 : decode cX11_count 94 = .ok (.iconst (-1), 1) := by decide +kernel
theorem dX11_count_95 : decode cX11_count 95 = .ok (.ireturn, 1) := by decide +kernel
theorem dX11_protocolAt_0 : decode cX11_protocolAt 0 = .ok (.iload_n 1, 1) := by decide +kernel
theorem dX11_protocolAt_1 : decode cX11_protocolAt 1 = .ok (.ifCond .lt 21, 3) := by decide +kernel
theorem dX11_protocolAt_4 : decode cX11_protocolAt 4 = .ok (.iload_n 1, 1) := by decide +kernel
theorem dX11_protocolAt_5 : decode cX11_protocolAt 5 = .ok (.aload_n 0, 1) := by decide +kernel
theorem dX11_protocolAt_6 : decode cX11_protocolAt 6 = .ok (.getfield 11, 3) := by decide +kernel
theorem dX11_protocolAt_9 : decode cX11_protocolAt 9 = .ok (.arraylength, 1) := by decide +kernel
theorem dX11_protocolAt_10 : decode cX11_protocolAt 10 = .ok (.if_icmp .ge 12, 3) := by decide +kernel
theorem dX11_protocolAt_13 : decode cX11_protocolAt 13 = .ok (.aload_n 0, 1) := by decide +kernel
theorem dX11_protocolAt_14 : decode cX11_protocolAt 14 = .ok (.getfield 11, 3) := by decide +kernel
theorem dX11_protocolAt_17 : decode cX11_protocolAt 17 = .ok (.iload_n 1, 1) := by decide +kernel
theorem dX11_protocolAt_18 : decode cX11_protocolAt 18 = .ok (.aaload, 1) := by decide +kernel
theorem dX11_protocolAt_19 : decode cX11_protocolAt 19 = .ok (.goto 4, 3) := by decide +kernel
theorem dX11_protocolAt_22 : decode cX11_protocolAt 22 = .ok (.aconst_null, 1) := by decide +kernel
theorem dX11_protocolAt_23 : decode cX11_protocolAt 23 = .ok (.areturn, 1) := by decide +kernel
theorem dX11_protocolsThere_0 : decode cX11_protocolsThere 0 = .ok (.iconst 0, 1) := by decide +kernel
theorem dX11_protocolsThere_1 : decode cX11_protocolsThere 1 = .ok (.istore_n 1, 1) := by decide +kernel
theorem dX11_protocolsThere_2 : decode cX11_protocolsThere 2 = .ok (.iconst 0, 1) := by decide +kernel
theorem dX11_protocolsThere_3 : decode cX11_protocolsThere 3 = .ok (.istore_n 2, 1) := by decide +kernel
theorem dX11_protocolsThere_4 : decode cX11_protocolsThere 4 = .ok (.iload_n 2, 1) := by decide +kernel
theorem dX11_protocolsThere_5 : decode cX11_protocolsThere 5 = .ok (.aload_n 0, 1) := by decide +kernel
theorem dX11_protocolsThere_6 : decode cX11_protocolsThere 6 = .ok (.getfield 11, 3) := by decide +kernel
theorem dX11_protocolsThere_9 : decode cX11_protocolsThere 9 = .ok (.arraylength, 1) := by decide +kernel
theorem dX11_protocolsThere_10 : decode cX11_protocolsThere 10 = .ok (.if_icmp .ge 21, 3) := by decide +kernel
theorem dX11_protocolsThere_13 : decode cX11_protocolsThere 13 = .ok (.aload_n 0, 1) := by decide +kernel
theorem dX11_protocolsThere_14 : decode cX11_protocolsThere 14 = .ok (.getfield 11, 3) := by decide +kernel
theorem dX11_protocolsThere_17 : decode cX11_protocolsThere 17 = .ok (.iload_n 2, 1) := by decide +kernel
theorem dX11_protocolsThere_18 : decode cX11_protocolsThere 18 = .ok (.aaload, 1) := by decide +kernel
theorem dX11_protocolsThere_19 : decode cX11_protocolsThere 19 = .ok (.ifnull 6, 3) := by decide +kernel
theorem dX11_protocolsThere_22 : decode cX11_protocolsThere 22 = .ok (.iinc 1 1, 3) := by decide +kernel
theorem dX11_protocolsThere_25 : decode cX11_protocolsThere 25 = .ok (.iinc 2 1, 3) := by decide +kernel
theorem dX11_protocolsThere_28 : decode cX11_protocolsThere 28 = .ok (.goto (-24), 3) := by decide +kernel
theorem dX11_protocolsThere_31 : decode cX11_protocolsThere 31 = .ok (.iload_n 1, 1) := by decide +kernel
theorem dX11_protocolsThere_32 : decode cX11_protocolsThere 32 = .ok (.ireturn, 1) := by decide +kernel
theorem dX11_isParty_0 : decode cX11_isParty 0 = .ok (.iload_n 1, 1) := by decide +kernel
theorem dX11_isParty_1 : decode cX11_isParty 1 = .ok (.ifCond .lt 12, 3) := by decide +kernel
theorem dX11_isParty_4 : decode cX11_isParty 4 = .ok (.iload_n 1, 1) := by decide +kernel
theorem dX11_isParty_5 : decode cX11_isParty 5 = .ok (.iconst 4, 1) := by decide +kernel
theorem dX11_isParty_6 : decode cX11_isParty 6 = .ok (.if_icmp .ge 7, 3) := by decide +kernel
theorem dX11_isParty_9 : decode cX11_isParty 9 = .ok (.iconst 1, 1) := by decide +kernel
theorem dX11_isParty_10 : decode cX11_isParty 10 = .ok (.goto 4, 3) := by decide +kernel
theorem dX11_isParty_13 : decode cX11_isParty 13 = .ok (.iconst 0, 1) := by decide +kernel
theorem dX11_isParty_14 : decode cX11_isParty 14 = .ok (.ireturn, 1) := by decide +kernel
theorem dX11_isEnd_0 : decode cX11_isEnd 0 = .ok (.iload_n 1, 1) := by decide +kernel
theorem dX11_isEnd_1 : decode cX11_isEnd 1 = .ok (.ifCond .lt 26, 3) := by decide +kernel
theorem dX11_isEnd_4 : decode cX11_isEnd 4 = .ok (.iload_n 1, 1) := by decide +kernel
theorem dX11_isEnd_5 : decode cX11_isEnd 5 = .ok (.iconst 2, 1) := by decide +kernel
theorem dX11_isEnd_6 : decode cX11_isEnd 6 = .ok (.aload_n 0, 1) := by decide +kernel
theorem dX11_isEnd_7 : decode cX11_isEnd 7 = .ok (.getfield 69, 3) := by decide +kernel
theorem dX11_isEnd_10 : decode cX11_isEnd 10 = .ok (.getfield 168, 3) := by decide +kernel
theorem dX11_isEnd_13 : decode cX11_isEnd 13 = .ok (.imul, 1) := by decide +kernel
theorem dX11_isEnd_14 : decode cX11_isEnd 14 = .ok (.if_icmp .ge 13, 3) := by decide +kernel
theorem dX11_isEnd_17 : decode cX11_isEnd 17 = .ok (.iload_n 1, 1) := by decide +kernel
theorem dX11_isEnd_18 : decode cX11_isEnd 18 = .ok (.bipush 16, 2) := by decide +kernel
theorem dX11_isEnd_20 : decode cX11_isEnd 20 = .ok (.if_icmp .ge 7, 3) := by decide +kernel
theorem dX11_isEnd_23 : decode cX11_isEnd 23 = .ok (.iconst 1, 1) := by decide +kernel
theorem dX11_isEnd_24 : decode cX11_isEnd 24 = .ok (.goto 4, 3) := by decide +kernel
theorem dX11_isEnd_27 : decode cX11_isEnd 27 = .ok (.iconst 0, 1) := by decide +kernel
theorem dX11_isEnd_28 : decode cX11_isEnd 28 = .ok (.ireturn, 1) := by decide +kernel
set_option maxRecDepth 100000 in
set_option maxHeartbeats 8000000 in
theorem ggX11_unlikeStates_X7_isStateOutside : GoodIn wsX11_unlikeStates wsX7_isStateOutside := goodIn_r _ [7, 8, 9, 10, 11, 6, 12, 13, 65, 66, 67, 68, 69, 70, 71, 72, 73] rfl (by decide +kernel)
set_option maxRecDepth 20000 in
theorem gX11_unlikeStates_X7_isStateOutside : GoodIn wsX11_unlikeStates (wsV RX11 294 RX7 yX7_isStateOutside wsX7_isStateOutside) := goodIn_app (goodIn_of _ (by decide +kernel)) ggX11_unlikeStates_X7_isStateOutside
set_option maxRecDepth 100000 in
set_option maxHeartbeats 8000000 in
theorem ggX11_unlikeStates_X11_isLikeOneOf : GoodIn wsX11_unlikeStates wsX11_isLikeOneOf := goodIn_r _ [18, 2, 19, 20, 21, 22, 23, 24, 25, 26, 27, 28, 29, 30, 31, 32, 33, 34, 35, 36, 37, 38, 39, 40, 10, 11, 6, 12, 13, 41, 42, 43, 44, 45, 46, 47, 48, 49, 50, 51, 52, 53, 54, 55, 56, 57, 58, 59, 60, 61, 62, 63, 64, 74, 75, 76, 77, 78, 79, 80, 81, 82, 83, 84, 85, 86, 87, 88, 89, 65, 66, 67, 68, 69, 70, 71, 72, 73] rfl (by decide +kernel)
set_option maxRecDepth 20000 in
theorem gX11_unlikeStates_X11_isLikeOneOf : GoodIn wsX11_unlikeStates (wsV RX11 297 RX11 yX11_isLikeOneOf wsX11_isLikeOneOf) := goodIn_app (goodIn_of _ (by decide +kernel)) ggX11_unlikeStates_X11_isLikeOneOf
theorem dX11_unlikeStates_0 : decode cX11_unlikeStates 0 = .ok (.iconst 0, 1) := by decide +kernel
theorem dX11_unlikeStates_1 : decode cX11_unlikeStates 1 = .ok (.istore_n 2, 1) := by decide +kernel
theorem dX11_unlikeStates_2 : decode cX11_unlikeStates 2 = .ok (.iconst 0, 1) := by decide +kernel
theorem dX11_unlikeStates_3 : decode cX11_unlikeStates 3 = .ok (.istore_n 3, 1) := by decide +kernel
theorem dX11_unlikeStates_4 : decode cX11_unlikeStates 4 = .ok (.iload_n 3, 1) := by decide +kernel
theorem dX11_unlikeStates_5 : decode cX11_unlikeStates 5 = .ok (.aload_n 1, 1) := by decide +kernel
theorem dX11_unlikeStates_6 : decode cX11_unlikeStates 6 = .ok (.getfield 91, 3) := by decide +kernel
theorem dX11_unlikeStates_9 : decode cX11_unlikeStates 9 = .ok (.if_icmp .ge 49, 3) := by decide +kernel
theorem dX11_unlikeStates_12 : decode cX11_unlikeStates 12 = .ok (.aload_n 1, 1) := by decide +kernel
theorem dX11_unlikeStates_13 : decode cX11_unlikeStates 13 = .ok (.iload_n 3, 1) := by decide +kernel
theorem dX11_unlikeStates_14 : decode cX11_unlikeStates 14 = .ok (.invokevirtual 294, 3) := by decide +kernel
theorem dX11_unlikeStates_17 : decode cX11_unlikeStates 17 = .ok (.ifCond .eq 35, 3) := by decide +kernel
theorem dX11_unlikeStates_20 : decode cX11_unlikeStates 20 = .ok (.aload_n 0, 1) := by decide +kernel
theorem dX11_unlikeStates_21 : decode cX11_unlikeStates 21 = .ok (.aload_n 1, 1) := by decide +kernel
theorem dX11_unlikeStates_22 : decode cX11_unlikeStates 22 = .ok (.iload_n 3, 1) := by decide +kernel
theorem dX11_unlikeStates_23 : decode cX11_unlikeStates 23 = .ok (.iload_n 2, 1) := by decide +kernel
theorem dX11_unlikeStates_24 : decode cX11_unlikeStates 24 = .ok (.invokevirtual 297, 3) := by decide +kernel
theorem dX11_unlikeStates_27 : decode cX11_unlikeStates 27 = .ok (.ifCond .eq 6, 3) := by decide +kernel
theorem dX11_unlikeStates_30 : decode cX11_unlikeStates 30 = .ok (.goto 22, 3) := by decide +kernel
theorem dX11_unlikeStates_33 : decode cX11_unlikeStates 33 = .ok (.iload_n 2, 1) := by decide +kernel
theorem dX11_unlikeStates_34 : decode cX11_unlikeStates 34 = .ok (.aload_n 0, 1) := by decide +kernel
theorem dX11_unlikeStates_35 : decode cX11_unlikeStates 35 = .ok (.getfield 63, 3) := by decide +kernel
theorem dX11_unlikeStates_38 : decode cX11_unlikeStates 38 = .ok (.arraylength, 1) := by decide +kernel
theorem dX11_unlikeStates_39 : decode cX11_unlikeStates 39 = .ok (.if_icmp .ge 10, 3) := by decide +kernel
theorem dX11_unlikeStates_42 : decode cX11_unlikeStates 42 = .ok (.aload_n 0, 1) := by decide +kernel
theorem dX11_unlikeStates_43 : decode cX11_unlikeStates 43 = .ok (.getfield 63, 3) := by decide +kernel
theorem dX11_unlikeStates_46 : decode cX11_unlikeStates 46 = .ok (.iload_n 2, 1) := by decide +kernel
theorem dX11_unlikeStates_47 : decode cX11_unlikeStates 47 = .ok (.iload_n 3, 1) := by decide +kernel
theorem dX11_unlikeStates_48 : decode cX11_unlikeStates 48 = .ok (.iastore, 1) := by decide +kernel
theorem dX11_unlikeStates_49 : decode cX11_unlikeStates 49 = .ok (.iinc 2 1, 3) := by decide +kernel
theorem dX11_unlikeStates_52 : decode cX11_unlikeStates 52 = .ok (.iinc 3 1, 3) := by decide +kernel
theorem dX11_unlikeStates_55 : decode cX11_unlikeStates 55 = .ok (.goto (-51), 3) := by decide +kernel
theorem dX11_unlikeStates_58 : decode cX11_unlikeStates 58 = .ok (.iload_n 2, 1) := by decide +kernel
theorem dX11_unlikeStates_59 : decode cX11_unlikeStates 59 = .ok (.ireturn, 1) := by decide +kernel
set_option maxRecDepth 100000 in
set_option maxHeartbeats 8000000 in
theorem ggX11_isLikeOneOf_X1_holds : GoodIn wsX11_isLikeOneOf wsX1_holds := goodIn_r _ [7, 8, 9, 10, 11, 12, 13, 14, 15, 16, 17, 6, 18, 19, 20, 21, 22, 23, 24, 25, 26, 27, 28, 29, 30, 31, 32, 33, 34, 35, 36, 37, 38, 39, 40, 41, 42, 43, 44, 45, 46, 47, 48, 49, 50, 51, 52, 66, 67, 68, 69, 70, 71, 72, 73, 74, 75, 76, 77] rfl (by decide +kernel)
set_option maxRecDepth 20000 in
theorem gX11_isLikeOneOf_X1_holds : GoodIn wsX11_isLikeOneOf (wsV RX11 132 RX1 yX1_holds wsX1_holds) := goodIn_app (goodIn_of _ (by decide +kernel)) ggX11_isLikeOneOf_X1_holds
theorem dX11_isLikeOneOf_0 : decode cX11_isLikeOneOf 0 = .ok (.iconst 0, 1) := by decide +kernel
theorem dX11_isLikeOneOf_1 : decode cX11_isLikeOneOf 1 = .ok (.istore 4, 2) := by decide +kernel
theorem dX11_isLikeOneOf_3 : decode cX11_isLikeOneOf 3 = .ok (.iload 4, 2) := by decide +kernel
theorem dX11_isLikeOneOf_5 : decode cX11_isLikeOneOf 5 = .ok (.iload_n 3, 1) := by decide +kernel
theorem dX11_isLikeOneOf_6 : decode cX11_isLikeOneOf 6 = .ok (.if_icmp .ge 42, 3) := by decide +kernel
theorem dX11_isLikeOneOf_9 : decode cX11_isLikeOneOf 9 = .ok (.iload 4, 2) := by decide +kernel
theorem dX11_isLikeOneOf_11 : decode cX11_isLikeOneOf 11 = .ok (.aload_n 0, 1) := by decide +kernel
theorem dX11_isLikeOneOf_12 : decode cX11_isLikeOneOf 12 = .ok (.getfield 63, 3) := by decide +kernel
theorem dX11_isLikeOneOf_15 : decode cX11_isLikeOneOf 15 = .ok (.arraylength, 1) := by decide +kernel
theorem dX11_isLikeOneOf_16 : decode cX11_isLikeOneOf 16 = .ok (.if_icmp .ge 32, 3) := by decide +kernel
theorem dX11_isLikeOneOf_19 : decode cX11_isLikeOneOf 19 = .ok (.aload_n 0, 1) := by decide +kernel
theorem dX11_isLikeOneOf_20 : decode cX11_isLikeOneOf 20 = .ok (.getfield 43, 3) := by decide +kernel
theorem dX11_isLikeOneOf_23 : decode cX11_isLikeOneOf 23 = .ok (.aload_n 1, 1) := by decide +kernel
theorem dX11_isLikeOneOf_24 : decode cX11_isLikeOneOf 24 = .ok (.aload_n 0, 1) := by decide +kernel
theorem dX11_isLikeOneOf_25 : decode cX11_isLikeOneOf 25 = .ok (.getfield 63, 3) := by decide +kernel
theorem dX11_isLikeOneOf_28 : decode cX11_isLikeOneOf 28 = .ok (.iload 4, 2) := by decide +kernel
theorem dX11_isLikeOneOf_30 : decode cX11_isLikeOneOf 30 = .ok (.iaload, 1) := by decide +kernel
theorem dX11_isLikeOneOf_31 : decode cX11_isLikeOneOf 31 = .ok (.aload_n 1, 1) := by decide +kernel
theorem dX11_isLikeOneOf_32 : decode cX11_isLikeOneOf 32 = .ok (.iload_n 2, 1) := by decide +kernel
theorem dX11_isLikeOneOf_33 : decode cX11_isLikeOneOf 33 = .ok (.iconst 1, 1) := by decide +kernel
theorem dX11_isLikeOneOf_34 : decode cX11_isLikeOneOf 34 = .ok (.invokevirtual 132, 3) := by decide +kernel
theorem dX11_isLikeOneOf_37 : decode cX11_isLikeOneOf 37 = .ok (.ifCond .eq 5, 3) := by decide +kernel
theorem dX11_isLikeOneOf_40 : decode cX11_isLikeOneOf 40 = .ok (.iconst 1, 1) := by decide +kernel
theorem dX11_isLikeOneOf_41 : decode cX11_isLikeOneOf 41 = .ok (.ireturn, 1) := by decide +kernel
theorem dX11_isLikeOneOf_42 : decode cX11_isLikeOneOf 42 = .ok (.iinc 4 1, 3) := by decide +kernel
theorem dX11_isLikeOneOf_45 : decode cX11_isLikeOneOf 45 = .ok (.goto (-42), 3) := by decide +kernel
theorem dX11_isLikeOneOf_48 : decode cX11_isLikeOneOf 48 = .ok (.iconst 0, 1) := by decide +kernel
theorem dX11_isLikeOneOf_49 : decode cX11_isLikeOneOf 49 = .ok (.ireturn, 1) := by decide +kernel
set_option maxRecDepth 100000 in
set_option maxHeartbeats 8000000 in
theorem ggX11_enact_X11_judge : GoodIn wsX11_enact wsX11_judge := goodIn_r _ [10, 1, 11, 12, 13, 14, 15, 16, 17, 18, 19, 20, 21, 22, 23, 24, 25, 26, 27, 28, 29, 30, 31, 9, 32, 33, 34, 35, 36, 37, 38, 39, 40, 41, 42, 43, 44, 45, 46, 47, 48, 49, 50, 51, 52, 53, 54, 55, 56, 57, 58, 59, 60, 61, 62, 63, 64, 65, 66, 67, 68, 69, 70, 71, 72, 73, 74, 75, 76, 77, 78, 79, 80, 81, 82, 83, 84, 85, 86, 87, 88, 89, 90, 91, 92, 93, 94, 95, 96, 97, 98, 99, 100, 101, 102, 103, 104, 105, 106, 107, 108, 109, 110, 111, 112, 113, 114, 115, 116, 117, 118, 119, 120, 121, 122, 123, 124, 125, 126, 127, 128, 129, 130, 131, 132, 133, 134, 135, 136, 137, 138, 139, 140, 141, 142, 143, 144, 145, 146, 147, 148, 149, 150, 151, 152, 153, 154, 155, 212, 213, 214, 215, 216, 217, 218, 219, 220, 221, 222, 223, 224, 225, 226, 227, 228, 229, 230, 231, 232, 233, 234, 235, 236, 237, 238, 239, 240, 241, 242, 243, 244, 245, 246, 247, 248, 249, 250, 251, 252, 253, 254, 255, 256, 257, 258, 259, 260, 261, 262, 263] rfl (by decide +kernel)
set_option maxRecDepth 20000 in
theorem gX11_enact_X11_judge : GoodIn wsX11_enact (wsV RX11 301 RX11 yX11_judge wsX11_judge) := goodIn_app (goodIn_of _ (by decide +kernel)) ggX11_enact_X11_judge
set_option maxRecDepth 100000 in
set_option maxHeartbeats 8000000 in
theorem ggX11_enact_X11_accuse : GoodIn wsX11_enact wsX11_accuse := goodIn_r _ [159, 1, 11, 160, 2, 12, 161, 15, 162, 163, 164, 165, 166, 167, 168, 169, 170, 171, 172, 173, 174, 175, 176, 177, 17, 18, 19, 20, 21, 22, 23, 24, 25, 26, 27, 28, 29, 30, 31, 9, 32, 178, 179, 180, 72, 181, 76, 130, 212, 213, 214, 215, 216, 217, 218, 219, 220, 221, 222, 223, 224, 225, 226, 227, 228, 229, 230, 231, 232, 233, 234, 235, 236, 237, 238, 239, 240, 241, 242, 243, 253, 254, 255, 256, 257, 258, 259, 260, 264, 265, 266, 267, 268, 269, 244, 245, 246, 247, 248, 249, 250, 251, 252] rfl (by decide +kernel)
