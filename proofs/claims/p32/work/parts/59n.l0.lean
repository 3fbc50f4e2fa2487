theorem dL_cell_0 : decode cL_cell 0 = .ok (.iload_n 1, 1) := by decide +kernel
theorem dL_cell_1 : decode cL_cell 1 = .ok (.aload_n 0, 1) := by decide +kernel
theorem dL_cell_2 : decode cL_cell 2 = .ok (.arraylength, 1) := by decide +kernel
theorem dL_cell_3 : decode cL_cell 3 = .ok (.if_icmp .ge 12, 3) := by decide +kernel
theorem dL_cell_6 : decode cL_cell 6 = .ok (.aload_n 0, 1) := by decide +kernel
theorem dL_cell_7 : decode cL_cell 7 = .ok (.iload_n 1, 1) := by decide +kernel
theorem dL_cell_8 : decode cL_cell 8 = .ok (.iaload, 1) := by decide +kernel
theorem dL_cell_9 : decode cL_cell 9 = .ok (.ldc 7, 2) := by decide +kernel
theorem dL_cell_11 : decode cL_cell 11 = .ok (.iand, 1) := by decide +kernel
theorem dL_cell_12 : decode cL_cell 12 = .ok (.goto 8, 3) := by decide +kernel
theorem dL_cell_15 : decode cL_cell 15 = .ok (.iload_n 1, 1) := by decide +kernel
theorem dL_cell_16 : decode cL_cell 16 = .ok (.sipush 9151, 3) := by decide +kernel
theorem dL_cell_19 : decode cL_cell 19 = .ok (.imul, 1) := by decide +kernel
theorem dL_cell_20 : decode cL_cell 20 = .ok (.ireturn, 1) := by decide +kernel
set_option maxRecDepth 100000 in
set_option maxHeartbeats 8000000 in
theorem ggL_tell_J0_length_8abf5 : GoodIn wsL_tell wsJ0_length_8abf5 := goodIn_r _ [5, 6, 7, 8, 9, 4, 10, 11, 12, 87, 88, 89, 90] rfl (by decide +kernel)
set_option maxRecDepth 20000 in
theorem gL_tell_J0_length_8abf5 : GoodIn wsL_tell (wsV RL 8 RJ0 yJ0_length_8abf5 wsJ0_length_8abf5) := goodIn_app (goodIn_of _ (by decide +kernel)) ggL_tell_J0_length_8abf5
set_option maxRecDepth 100000 in
set_option maxHeartbeats 8000000 in
theorem ggL_tell_J0_charAt_5068e : GoodIn wsL_tell wsJ0_charAt_5068e := goodIn_r _ [16, 6, 17, 18, 19, 4, 20, 11, 12, 21, 22, 23, 24, 25, 26, 27, 28, 29, 30, 31, 32, 33, 34, 35, 36, 37, 38, 39, 40, 41, 42, 43, 44, 45, 46, 47, 48, 49, 87, 88, 89, 90] rfl (by decide +kernel)
set_option maxRecDepth 20000 in
theorem gL_tell_J0_charAt_5068e : GoodIn wsL_tell (wsV RL 14 RJ0 yJ0_charAt_5068e wsJ0_charAt_5068e) := goodIn_app (goodIn_of _ (by decide +kernel)) ggL_tell_J0_charAt_5068e
set_option maxRecDepth 100000 in
set_option maxHeartbeats 8000000 in
theorem ggL_tell_X11_feed : GoodIn wsL_tell wsX11_feed := goodIn_r _ [54, 55, 56, 91, 92, 93, 94, 95, 96, 97, 98, 99, 100, 101, 102, 103] rfl (by decide +kernel)
set_option maxRecDepth 20000 in
theorem gL_tell_X11_feed : GoodIn wsL_tell (wsV RL 18 RX11 yX11_feed wsX11_feed) := goodIn_app (goodIn_of _ (by decide +kernel)) ggL_tell_X11_feed
set_option maxRecDepth 100000 in
set_option maxHeartbeats 8000000 in
theorem ggL_tell_X11_count : GoodIn wsL_tell wsX11_count := goodIn_r _ [60, 61, 62, 55, 63, 64, 65, 66, 53, 67, 68, 69, 70, 71, 72, 73, 74, 75, 76, 77, 78, 79, 80, 81, 82, 83, 84, 85, 86, 91, 92, 93, 94, 95, 96, 97, 98, 99, 100, 101, 102, 103, 104, 105, 106, 107, 108, 109, 110, 111, 112, 113, 114, 115, 116, 117, 118, 119, 120, 121, 122] rfl (by decide +kernel)
set_option maxRecDepth 20000 in
theorem gL_tell_X11_count : GoodIn wsL_tell (wsV RL 24 RX11 yX11_count wsX11_count) := goodIn_app (goodIn_of _ (by decide +kernel)) ggL_tell_X11_count
theorem dL_tell_0 : decode cL_tell 0 = .ok (.iconst 0, 1) := by decide +kernel
theorem dL_tell_1 : decode cL_tell 1 = .ok (.istore_n 2, 1) := by decide +kernel
theorem dL_tell_2 : decode cL_tell 2 = .ok (.iload_n 2, 1) := by decide +kernel
theorem dL_tell_3 : decode cL_tell 3 = .ok (.aload_n 1, 1) := by decide +kernel
theorem dL_tell_4 : decode cL_tell 4 = .ok (.invokevirtual 8, 3) := by decide +kernel
theorem dL_tell_7 : decode cL_tell 7 = .ok (.if_icmp .ge 26, 3) := by decide +kernel
theorem dL_tell_10 : decode cL_tell 10 = .ok (.aload_n 0, 1) := by decide +kernel
theorem dL_tell_11 : decode cL_tell 11 = .ok (.aload_n 1, 1) := by decide +kernel
theorem dL_tell_12 : decode cL_tell 12 = .ok (.iload_n 2, 1) := by decide +kernel
theorem dL_tell_13 : decode cL_tell 13 = .ok (.invokevirtual 14, 3) := by decide +kernel
theorem dL_tell_16 : decode cL_tell 16 = .ok (.invokevirtual 18, 3) := by decide +kernel
theorem dL_tell_19 : decode cL_tell 19 = .ok (.iload_n 2, 1) := by decide +kernel
theorem dL_tell_20 : decode cL_tell 20 = .ok (.iconst 1, 1) := by decide +kernel
theorem dL_tell_21 : decode cL_tell 21 = .ok (.iadd, 1) := by decide +kernel
theorem dL_tell_22 : decode cL_tell 22 = .ok (.if_icmp .eq 5, 3) := by decide +kernel
theorem dL_tell_25 : decode cL_tell 25 = .ok (.iconst 0, 1) := by decide +kernel
theorem dL_tell_26 : decode cL_tell 26 = .ok (.ireturn, 1) := by decide +kernel
theorem dL_tell_27 : decode cL_tell 27 = .ok (.iinc 2 1, 3) := by decide +kernel
theorem dL_tell_30 : decode cL_tell 30 = .ok (.goto (-28), 3) := by decide +kernel
theorem dL_tell_33 : decode cL_tell 33 = .ok (.aload_n 0, 1) := by decide +kernel
theorem dL_tell_34 : decode cL_tell 34 = .ok (.iconst 2, 1) := by decide +kernel
theorem dL_tell_35 : decode cL_tell 35 = .ok (.invokevirtual 24, 3) := by decide +kernel
theorem dL_tell_38 : decode cL_tell 38 = .ok (.aload_n 1, 1) := by decide +kernel
theorem dL_tell_39 : decode cL_tell 39 = .ok (.invokevirtual 8, 3) := by decide +kernel
theorem dL_tell_42 : decode cL_tell 42 = .ok (.if_icmp .ne 7, 3) := by decide +kernel
theorem dL_tell_45 : decode cL_tell 45 = .ok (.iconst 1, 1) := by decide +kernel
theorem dL_tell_46 : decode cL_tell 46 = .ok (.goto 4, 3) := by decide +kernel
theorem dL_tell_49 : decode cL_tell 49 = .ok (.iconst 0, 1) := by decide +kernel
theorem dL_tell_50 : decode cL_tell 50 = .ok (.ireturn, 1) := by decide +kernel
set_option maxRecDepth 100000 in
set_option maxHeartbeats 8000000 in
theorem ggL_told_L_tell : GoodIn wsL_told wsL_tell := goodIn_r _ [4, 5, 6, 7, 8, 9, 10, 11, 12, 13, 14, 15, 16, 17, 18, 19, 20, 21, 22, 23, 24, 25, 26, 27, 28, 29, 30, 31, 32, 33, 34, 35, 36, 37, 38, 39, 40, 41, 42, 43, 44, 45, 46, 47, 48, 49, 50, 51, 52, 53, 54, 55, 56, 57, 58, 59, 60, 61, 62, 63, 64, 65, 66, 67, 68, 69, 70, 71, 72, 73, 74, 75, 76, 77, 78, 79, 80, 81, 82, 83, 84, 85, 86, 87, 88, 89, 90, 228, 229, 230, 231, 232, 233, 234, 235, 236, 237, 238, 239, 240, 241, 242, 243, 244, 245, 246, 247, 248, 249, 250, 251, 252, 253, 254, 255, 256, 257, 258, 259, 260, 261, 262, 263] rfl (by decide +kernel)
set_option maxRecDepth 20000 in
theorem gL_told_L_tell : GoodIn wsL_told (va_wsS RL 27 yL_tell wsL_tell) := goodIn_app (goodIn_of _ (by decide +kernel)) ggL_told_L_tell
set_option maxRecDepth 100000 in
set_option maxHeartbeats 8000000 in
theorem ggL_told_X11_define : GoodIn wsL_told wsX11_define := goodIn_r _ [94, 72, 95, 60, 59, 96, 97, 98, 99, 100, 101, 102, 103, 104, 105, 106, 107, 108, 109, 110, 111, 112, 113, 114, 115, 116, 117, 118, 119, 120, 121, 122, 123, 124, 125, 126, 127, 128, 129, 130, 131, 132, 133, 134, 135, 136, 137, 138, 139, 140, 141, 142, 143, 144, 145, 146, 147, 148, 149, 150, 151, 152, 153, 154, 155, 156, 157, 158, 159, 160, 161, 162, 163, 164, 165, 166, 167, 168, 169, 170, 171, 172, 173, 174, 175, 176, 177, 178, 179, 180, 181, 182, 183, 184, 185, 186, 187, 188, 189, 190, 191, 192, 193, 194, 195, 196, 197, 198, 199, 200, 201, 202, 203, 204, 205, 206, 207, 208, 209, 210, 211, 212, 213, 214, 215, 216, 217, 218, 219, 220, 221, 222, 223, 224, 225, 226, 227, 232, 233, 234, 235, 236, 237, 238, 239, 240, 241, 242, 243, 244, 264, 265, 266, 267, 268, 269, 270, 271, 272, 273, 274, 275, 276, 277] rfl (by decide +kernel)
set_option maxRecDepth 20000 in
theorem gL_told_X11_define : GoodIn wsL_told (wsV RL 33 RX11 yX11_define wsX11_define) := goodIn_app (goodIn_of _ (by decide +kernel)) ggL_told_X11_define
set_option maxRecDepth 100000 in
set_option maxHeartbeats 8000000 in
theorem ggL_told_X11_count : GoodIn wsL_told wsX11_count := goodIn_r _ [64, 65, 66, 59, 67, 68, 69, 70, 57, 71, 72, 73, 74, 75, 76, 77, 78, 79, 80, 81, 82, 83, 84, 85, 86, 87, 88, 89, 90, 232, 233, 234, 235, 236, 237, 238, 239, 240, 241, 242, 243, 244, 245, 246, 247, 248, 249, 250, 251, 252, 253, 254, 255, 256, 257, 258, 259, 260, 261, 262, 263] rfl (by decide +kernel)
set_option maxRecDepth 20000 in
theorem gL_told_X11_count : GoodIn wsL_told (wsV RL 24 RX11 yX11_count wsX11_count) := goodIn_app (goodIn_of _ (by decide +kernel)) ggL_told_X11_count
theorem dL_told_0 : decode cL_told 0 = .ok (.aload_n 0, 1) := by decide +kernel
theorem dL_told_1 : decode cL_told 1 = .ok (.aload_n 2, 1) := by decide +kernel
theorem dL_told_2 : decode cL_told 2 = .ok (.invokestatic 27, 3) := by decide +kernel
theorem dL_told_5 : decode cL_told 5 = .ok (.ifCond .eq 24, 3) := by decide +kernel
theorem dL_told_8 : decode cL_told 8 = .ok (.aload_n 0, 1) := by decide +kernel
theorem dL_told_9 : decode cL_told 9 = .ok (.iload_n 1, 1) := by decide +kernel
theorem dL_told_10 : decode cL_told 10 = .ok (.invokevirtual 33, 3) := by decide +kernel
theorem dL_told_13 : decode cL_told 13 = .ok (.iload_n 3, 1) := by decide +kernel
theorem dL_told_14 : decode cL_told 14 = .ok (.if_icmp .ne 15, 3) := by decide +kernel
theorem dL_told_17 : decode cL_told 17 = .ok (.aload_n 0, 1) := by decide +kernel
theorem dL_told_18 : decode cL_told 18 = .ok (.iconst 2, 1) := by decide +kernel
theorem dL_told_19 : decode cL_told 19 = .ok (.invokevirtual 24, 3) := by decide +kernel
theorem dL_told_22 : decode cL_told 22 = .ok (.ifCond .ne 7, 3) := by decide +kernel
theorem dL_told_25 : decode cL_told 25 = .ok (.iconst 1, 1) := by decide +kernel
theorem dL_told_26 : decode cL_told 26 = .ok (.goto 4, 3) := by decide +kernel
theorem dL_told_29 : decode cL_told 29 = .ok (.iconst 0, 1) := by decide +kernel
theorem dL_told_30 : decode cL_told 30 = .ok (.ireturn, 1) := by decide +kernel
set_option maxRecDepth 100000 in
set_option maxHeartbeats 8000000 in
theorem ggL_made_L_cell : GoodIn wsL_made wsL_cell := goodIn_r _ [7, 8] rfl (by decide +kernel)
set_option maxRecDepth 20000 in
theorem gL_made_L_cell : GoodIn wsL_made (va_wsS RL 36 yL_cell wsL_cell) := goodIn_app (goodIn_of _ (by decide +kernel)) ggL_made_L_cell
set_option maxRecDepth 100000 in
set_option maxHeartbeats 8000000 in
theorem ggL_made_J0_length_8abf5 : GoodIn wsL_made wsJ0_length_8abf5 := goodIn_r _ [13, 14, 15, 16, 17, 12, 18, 19, 20, 263, 264, 265, 266] rfl (by decide +kernel)
set_option maxRecDepth 20000 in
theorem gL_made_J0_length_8abf5 : GoodIn wsL_made (wsV RL 8 RJ0 yJ0_length_8abf5 wsJ0_length_8abf5) := goodIn_app (goodIn_of _ (by decide +kernel)) ggL_made_J0_length_8abf5
set_option maxRecDepth 100000 in
set_option maxHeartbeats 8000000 in
theorem ggL_made_J4_init_da8c8 : GoodIn wsL_made wsJ4_init_da8c8 := goodIn_r _ [23, 24, 25, 26, 27, 28, 29, 30, 31, 32, 33, 34, 35, 36, 37, 38, 39, 40, 41, 42, 259, 260, 261, 262] rfl (by decide +kernel)
set_option maxRecDepth 20000 in
theorem gL_made_J4_init_da8c8 : GoodIn wsL_made (wsJ4_init_da8c8) := ggL_made_J4_init_da8c8
set_option maxRecDepth 100000 in
set_option maxHeartbeats 8000000 in
theorem ggL_made_J4_append_15ec4 : GoodIn wsL_made wsJ4_append_15ec4 := goodIn_r _ [46, 47, 48, 49, 50, 26, 51, 52, 53, 54, 55, 56, 57, 33, 58, 59, 60, 61, 62, 34, 63, 64, 65, 66, 67, 68, 69, 70, 71, 72, 73, 74, 75, 76, 77, 78, 79, 80, 81, 82, 83, 84, 85, 86, 87, 88, 89, 90, 32, 91, 92, 93, 94, 95, 96, 97, 98, 99, 100, 101, 102, 31, 103, 104, 37, 105, 106, 107, 108, 109, 110, 111, 112, 113, 114, 12, 115, 116, 117, 118, 119, 120, 121, 122, 123, 124, 125, 126, 10, 11, 13, 14, 15, 16, 17, 18, 19, 20, 127, 128, 129, 130, 131, 132, 133, 134, 135, 136, 137, 138, 139, 140, 141, 142, 35, 36, 38, 39, 40, 41, 42, 143, 144, 145, 146, 147, 148, 149, 150, 151, 152, 153, 154, 155, 156, 157, 158, 159, 160, 161, 162, 163, 164, 259, 260, 261, 262, 263, 264, 265, 266] rfl (by decide +kernel)
set_option maxRecDepth 20000 in
theorem gL_made_J4_append_15ec4 : GoodIn wsL_made (wsV RL 45 RJ4 yJ4_append_15ec4 wsJ4_append_15ec4) := goodIn_app (goodIn_of _ (by decide +kernel)) ggL_made_J4_append_15ec4
set_option maxRecDepth 100000 in
set_option maxHeartbeats 8000000 in
theorem ggL_made_J0_charAt_5068e : GoodIn wsL_made wsJ0_charAt_5068e := goodIn_r _ [168, 14, 169, 170, 171, 12, 172, 19, 20, 173, 174, 145, 175, 176, 177, 178, 116, 179, 180, 119, 181, 182, 183, 37, 184, 185, 186, 187, 110, 111, 112, 188, 189, 190, 191, 106, 124, 125, 263, 264, 265, 266] rfl (by decide +kernel)
set_option maxRecDepth 20000 in
theorem gL_made_J0_charAt_5068e : GoodIn wsL_made (wsV RL 14 RJ0 yJ0_charAt_5068e wsJ0_charAt_5068e) := goodIn_app (goodIn_of _ (by decide +kernel)) ggL_made_J0_charAt_5068e
set_option maxRecDepth 100000 in
set_option maxHeartbeats 8000000 in
theorem ggL_made_J4_append_cf468 : GoodIn wsL_made wsJ4_append_cf468 := goodIn_r _ [195, 196, 197, 49, 198, 26, 199, 52, 33, 58, 59, 60, 61, 62, 34, 63, 64, 65, 66, 67, 68, 69, 70, 71, 72, 73, 74, 75, 76, 77, 78, 79, 80, 81, 82, 83, 84, 85, 86, 87, 88, 89, 90, 32, 91, 92, 93, 94, 95, 96, 97, 98, 99, 100, 101, 102, 31, 200, 201, 145, 202, 138, 139, 140, 141, 142, 35, 36, 37, 38, 39, 40, 41, 42, 143, 144, 146, 147, 148, 149, 150, 151, 152, 110, 111, 112, 153, 154, 12, 155, 116, 156, 157, 119, 158, 121, 122, 123, 106, 124, 125, 203, 204, 205, 185, 186, 187, 188, 177, 178, 179, 180, 181, 259, 260, 261, 262] rfl (by decide +kernel)
set_option maxRecDepth 20000 in
theorem gL_made_J4_append_cf468 : GoodIn wsL_made (wsV RL 49 RJ4 yJ4_append_cf468 wsJ4_append_cf468) := goodIn_app (goodIn_of _ (by decide +kernel)) ggL_made_J4_append_cf468
set_option maxRecDepth 100000 in
set_option maxHeartbeats 8000000 in
theorem ggL_made_J4_toString_0e30d : GoodIn wsL_made wsJ4_toString_0e30d := goodIn_r _ [209, 210, 211, 12, 212, 213, 214, 215, 216, 217, 218, 29, 30, 20, 14, 19, 219, 220, 221, 222, 223, 26, 224, 33, 225, 226, 227, 228, 229, 3, 230, 231, 49, 232, 233, 52, 234, 99, 100, 101, 102, 31, 34, 235, 236, 83, 237, 85, 86, 87, 88, 89, 90, 238, 239, 240, 32, 91, 92, 75, 93, 94, 95, 96, 97, 241, 242, 243, 244, 245, 37, 246, 247, 248, 249, 150, 151, 152, 110, 111, 112, 153, 154, 155, 116, 156, 157, 119, 158, 189, 190, 191, 106, 124, 125, 39, 40, 41, 42, 250, 251, 252, 253, 263, 264, 265, 266, 259, 260, 261, 262] rfl (by decide +kernel)
set_option maxRecDepth 20000 in
theorem gL_made_J4_toString_0e30d : GoodIn wsL_made (wsV RL 52 RJ4 yJ4_toString_0e30d wsJ4_toString_0e30d) := goodIn_app (goodIn_of _ (by decide +kernel)) ggL_made_J4_toString_0e30d
set_option maxRecDepth 100000 in
set_option maxHeartbeats 8000000 in
theorem ggL_made_L_said : GoodIn wsL_made wsL_said := goodIn_r _ [258, 1, 2, 3, 21, 22, 23, 24, 25, 26, 27, 28, 29, 30, 31, 32, 33, 34, 35, 36, 37, 38, 39, 40, 41, 42, 43, 44, 45, 46, 47, 48, 49, 50, 51, 52, 53, 54, 55, 56, 57, 58, 59, 60, 61, 62, 63, 64, 65, 66, 67, 68, 69, 70, 71, 72, 73, 74, 75, 76, 77, 78, 79, 80, 81, 82, 83, 84, 85, 86, 87, 88, 89, 90, 91, 92, 93, 94, 95, 96, 97, 98, 99, 100, 101, 102, 103, 104, 105, 106, 107, 108, 109, 110, 111, 112, 113, 114, 12, 115, 116, 117, 118, 119, 120, 121, 122, 123, 124, 125, 126, 10, 11, 13, 14, 15, 16, 17, 18, 19, 20, 127, 128, 129, 130, 131, 132, 133, 134, 135, 136, 137, 138, 139, 140, 141, 142, 143, 144, 145, 146, 147, 148, 149, 150, 151, 152, 153, 154, 155, 156, 157, 158, 159, 160, 161, 162, 163, 164, 256, 257, 6, 206, 207, 208, 209, 210, 211, 212, 213, 214, 215, 216, 217, 218, 219, 220, 221, 222, 223, 224, 225, 226, 227, 228, 229, 230, 231, 232, 233, 234, 235, 236, 237, 238, 239, 240, 241, 242, 243, 244, 245, 246, 247, 248, 249, 189, 190, 191, 250, 251, 252, 253, 0, 4, 5, 7, 8, 9, 165, 166, 167, 168, 169, 170, 171, 172, 173, 174, 175, 176, 177, 178, 179, 180, 181, 182, 183, 184, 185, 186, 187, 188, 192, 193, 194, 195, 196, 197, 198, 199, 200, 201, 202, 203, 204, 205, 254, 255, 259, 260, 261, 262, 263, 264, 265, 266] rfl (by decide +kernel)
set_option maxRecDepth 20000 in
theorem gL_made_L_said : GoodIn wsL_made (va_wsS RL 60 yL_said wsL_said) := goodIn_app (goodIn_of _ (by decide +kernel)) ggL_made_L_said
set_option maxRecDepth 100000 in
set_option maxHeartbeats 8000000 in
theorem ggL_made_L_made : GoodIn wsL_made wsL_made := goodIn_r _ [0, 1, 2, 3, 4, 5, 6, 7, 8, 9, 10, 11, 12, 13, 14, 15, 16, 17, 18, 19, 20, 21, 22, 23, 24, 25, 26, 27, 28, 29, 30, 31, 32, 33, 34, 35, 36, 37, 38, 39, 40, 41, 42, 43, 44, 45, 46, 47, 48, 49, 50, 51, 52, 53, 54, 55, 56, 57, 58, 59, 60, 61, 62, 63, 64, 65, 66, 67, 68, 69, 70, 71, 72, 73, 74, 75, 76, 77, 78, 79, 80, 81, 82, 83, 84, 85, 86, 87, 88, 89, 90, 91, 92, 93, 94, 95, 96, 97, 98, 99, 100, 101, 102, 103, 104, 105, 106, 107, 108, 109, 110, 111, 112, 113, 114, 115, 116, 117, 118, 119, 120, 121, 122, 123, 124, 125, 126, 127, 128, 129, 130, 131, 132, 133, 134, 135, 136, 137, 138, 139, 140, 141, 142, 143, 144, 145, 146, 147, 148, 149, 150, 151, 152, 153, 154, 155, 156, 157, 158, 159, 160, 161, 162, 163, 164, 165, 166, 167, 168, 169, 170, 171, 172, 173, 174, 175, 176, 177, 178, 179, 180, 181, 182, 183, 184, 185, 186, 187, 188, 189, 190, 191, 192, 193, 194, 195, 196, 197, 198, 199, 200, 201, 202, 203, 204, 205, 206, 207, 208, 209, 210, 211, 212, 213, 214, 215, 216, 217, 218, 219, 220, 221, 222, 223, 224, 225, 226, 227, 228, 229, 230, 231, 232, 233, 234, 235, 236, 237, 238, 239, 240, 241, 242, 243, 244, 245, 246, 247, 248, 249, 250, 251, 252, 253, 254, 255, 256, 257, 258, 259, 260, 261, 262, 263, 264, 265, 266] rfl (by decide +kernel)
set_option maxRecDepth 20000 in
theorem gL_made_L_made : GoodIn wsL_made (va_wsS RL 66 yL_made wsL_made) := goodIn_app (goodIn_of _ (by decide +kernel)) ggL_made_L_made
theorem dL_made_0 : decode cL_made 0 = .ok (.aload_n 0, 1) := by decide +kernel
theorem dL_made_1 : decode cL_made 1 = .ok (.aload_n 1, 1) := by decide +kernel
theorem dL_made_2 : decode cL_made 2 = .ok (.iconst 0, 1) := by decide +kernel
theorem dL_made_3 : decode cL_made 3 = .ok (.dup2, 1) := by decide +kernel
theorem dL_made_4 : decode cL_made 4 = .ok (.iaload, 1) := by decide +kernel
theorem dL_made_5 : decode cL_made 5 = .ok (.dup_x2, 1) := by decide +kernel
theorem dL_made_6 : decode cL_made 6 = .ok (.iconst 1, 1) := by decide +kernel
theorem dL_made_7 : decode cL_made 7 = .ok (.iadd, 1) := by decide +kernel
theorem dL_made_8 : decode cL_made 8 = .ok (.iastore, 1) := by decide +kernel
theorem dL_made_9 : decode cL_made 9 = .ok (.invokestatic 36, 3) := by decide +kernel
theorem dL_made_12 : decode cL_made 12 = .ok (.istore 5, 2) := by decide +kernel
theorem dL_made_14 : decode cL_made 14 = .ok (.iload_n 2, 1) := by decide +kernel
theorem dL_made_15 : decode cL_made 15 = .ok (.ifCond .ne 55, 3) := by decide +kernel
theorem dL_made_18 : decode cL_made 18 = .ok (.aload_n 3, 1) := by decide +kernel
theorem dL_made_19 : decode cL_made 19 = .ok (.invokevirtual 8, 3) := by decide +kernel
theorem dL_made_22 : decode cL_made 22 = .ok (.ifCond .le 45, 3) := by decide +kernel
theorem dL_made_25 : decode cL_made 25 = .ok (.iload 5, 2) := by decide +kernel
theorem dL_made_27 : decode cL_made 27 = .ok (.iconst 1, 1) := by decide +kernel
theorem dL_made_28 : decode cL_made 28 = .ok (.iand, 1) := by decide +kernel
theorem dL_made_29 : decode cL_made 29 = .ok (.iconst 1, 1) := by decide +kernel
theorem dL_made_30 : decode cL_made 30 = .ok (.if_icmp .ne 37, 3) := by decide +kernel
theorem dL_made_33 : decode cL_made 33 = .ok (.new 40, 3) := by decide +kernel
theorem dL_made_36 : decode cL_made 36 = .ok (.dup, 1) := by decide +kernel
theorem dL_made_37 : decode cL_made 37 = .ok (.invokespecial 42, 3) := by decide +kernel
theorem dL_made_40 : decode cL_made 40 = .ok (.ldc 43, 2) := by decide +kernel
theorem dL_made_42 : decode cL_made 42 = .ok (.invokevirtual 45, 3) := by decide +kernel
theorem dL_made_45 : decode cL_made 45 = .ok (.aload_n 3, 1) := by decide +kernel
theorem dL_made_46 : decode cL_made 46 = .ok (.iload 5, 2) := by decide +kernel
theorem dL_made_48 : decode cL_made 48 = .ok (.iconst 1, 1) := by decide +kernel
theorem dL_made_49 : decode cL_made 49 = .ok (.ishr, 1) := by decide +kernel
theorem dL_made_50 : decode cL_made 50 = .ok (.aload_n 3, 1) := by decide +kernel
theorem dL_made_51 : decode cL_made 51 = .ok (.invokevirtual 8, 3) := by decide +kernel
theorem dL_made_54 : decode cL_made 54 = .ok (.irem, 1) := by decide +kernel
theorem dL_made_55 : decode cL_made 55 = .ok (.invokevirtual 14, 3) := by decide +kernel
theorem dL_made_58 : decode cL_made 58 = .ok (.invokevirtual 49, 3) := by decide +kernel
theorem dL_made_61 : decode cL_made 61 = .ok (.invokevirtual 52, 3) := by decide +kernel
theorem dL_made_64 : decode cL_made 64 = .ok (.goto 5, 3) := by decide +kernel
theorem dL_made_67 : decode cL_made 67 = .ok (.ldc 56, 2) := by decide +kernel
theorem dL_made_69 : decode cL_made 69 = .ok (.areturn, 1) := by decide +kernel
theorem dL_made_70 : decode cL_made 70 = .ok (.iload 5, 2) := by decide +kernel
theorem dL_made_72 : decode cL_made 72 = .ok (.bipush 9, 2) := by decide +kernel
theorem dL_made_74 : decode cL_made 74 = .ok (.irem, 1) := by decide +kernel
theorem dL_made_75 : decode cL_made 75 = .ok (.tableswitch 386 0 7 #[45, 48, 48, 106, 106, 156, 220, 284], 45) := by decide +kernel
theorem dL_made_120 : decode cL_made 120 = .ok (.ldc 56, 2) := by decide +kernel
theorem dL_made_122 : decode cL_made 122 = .ok (.areturn, 1) := by decide +kernel
theorem dL_made_123 : decode cL_made 123 = .ok (.new 40, 3) := by decide +kernel
theorem dL_made_126 : decode cL_made 126 = .ok (.dup, 1) := by decide +kernel
theorem dL_made_127 : decode cL_made 127 = .ok (.invokespecial 42, 3) := by decide +kernel
theorem dL_made_130 : decode cL_made 130 = .ok (.ldc 58, 2) := by decide +kernel
theorem dL_made_132 : decode cL_made 132 = .ok (.invokevirtual 45, 3) := by decide +kernel
theorem dL_made_135 : decode cL_made 135 = .ok (.aload_n 0, 1) := by decide +kernel
theorem dL_made_136 : decode cL_made 136 = .ok (.aload_n 1, 1) := by decide +kernel
theorem dL_made_137 : decode cL_made 137 = .ok (.iload_n 2, 1) := by decide +kernel
theorem dL_made_138 : decode cL_made 138 = .ok (.iload 4, 2) := by decide +kernel
theorem dL_made_140 : decode cL_made 140 = .ok (.ifCond .ne 7, 3) := by decide +kernel
theorem dL_made_143 : decode cL_made 143 = .ok (.iconst 1, 1) := by decide +kernel
theorem dL_made_144 : decode cL_made 144 = .ok (.goto 4, 3) := by decide +kernel
theorem dL_made_147 : decode cL_made 147 = .ok (.iconst 0, 1) := by decide +kernel
theorem dL_made_148 : decode cL_made 148 = .ok (.iload 5, 2) := by decide +kernel
theorem dL_made_150 : decode cL_made 150 = .ok (.iconst 4, 1) := by decide +kernel
theorem dL_made_151 : decode cL_made 151 = .ok (.ishr, 1) := by decide +kernel
theorem dL_made_152 : decode cL_made 152 = .ok (.invokestatic 60, 3) := by decide +kernel
theorem dL_made_155 : decode cL_made 155 = .ok (.invokevirtual 45, 3) := by decide +kernel
theorem dL_made_158 : decode cL_made 158 = .ok (.ldc 64, 2) := by decide +kernel
theorem dL_made_160 : decode cL_made 160 = .ok (.invokevirtual 45, 3) := by decide +kernel
theorem dL_made_163 : decode cL_made 163 = .ok (.aload_n 0, 1) := by decide +kernel
theorem dL_made_164 : decode cL_made 164 = .ok (.aload_n 1, 1) := by decide +kernel
theorem dL_made_165 : decode cL_made 165 = .ok (.iload_n 2, 1) := by decide +kernel
theorem dL_made_166 : decode cL_made 166 = .ok (.iconst 1, 1) := by decide +kernel
theorem dL_made_167 : decode cL_made 167 = .ok (.isub, 1) := by decide +kernel
theorem dL_made_168 : decode cL_made 168 = .ok (.aload_n 3, 1) := by decide +kernel
theorem dL_made_169 : decode cL_made 169 = .ok (.iload 4, 2) := by decide +kernel
theorem dL_made_171 : decode cL_made 171 = .ok (.invokestatic 66, 3) := by decide +kernel
theorem dL_made_174 : decode cL_made 174 = .ok (.invokevirtual 45, 3) := by decide +kernel
theorem dL_made_177 : decode cL_made 177 = .ok (.invokevirtual 52, 3) := by decide +kernel
theorem dL_made_180 : decode cL_made 180 = .ok (.areturn, 1) := by decide +kernel
theorem dL_made_181 : decode cL_made 181 = .ok (.new 40, 3) := by decide +kernel
theorem dL_made_184 : decode cL_made 184 = .ok (.dup, 1) := by decide +kernel
theorem dL_made_185 : decode cL_made 185 = .ok (.invokespecial 42, 3) := by decide +kernel
theorem dL_made_188 : decode cL_made 188 = .ok (.ldc 70, 2) := by decide +kernel
theorem dL_made_190 : decode cL_made 190 = .ok (.invokevirtual 45, 3) := by decide +kernel
theorem dL_made_193 : decode cL_made 193 = .ok (.aload_n 0, 1) := by decide +kernel
theorem dL_made_194 : decode cL_made 194 = .ok (.aload_n 1, 1) := by decide +kernel
theorem dL_made_195 : decode cL_made 195 = .ok (.iload_n 2, 1) := by decide +kernel
theorem dL_made_196 : decode cL_made 196 = .ok (.iload 4, 2) := by decide +kernel
theorem dL_made_198 : decode cL_made 198 = .ok (.iload 5, 2) := by decide +kernel
theorem dL_made_200 : decode cL_made 200 = .ok (.iconst 4, 1) := by decide +kernel
theorem dL_made_201 : decode cL_made 201 = .ok (.ishr, 1) := by decide +kernel
theorem dL_made_202 : decode cL_made 202 = .ok (.invokestatic 60, 3) := by decide +kernel
theorem dL_made_205 : decode cL_made 205 = .ok (.invokevirtual 45, 3) := by decide +kernel
theorem dL_made_208 : decode cL_made 208 = .ok (.ldc 64, 2) := by decide +kernel
theorem dL_made_210 : decode cL_made 210 = .ok (.invokevirtual 45, 3) := by decide +kernel
theorem dL_made_213 : decode cL_made 213 = .ok (.aload_n 0, 1) := by decide +kernel
theorem dL_made_214 : decode cL_made 214 = .ok (.aload_n 1, 1) := by decide +kernel
theorem dL_made_215 : decode cL_made 215 = .ok (.iload_n 2, 1) := by decide +kernel
theorem dL_made_216 : decode cL_made 216 = .ok (.iconst 1, 1) := by decide +kernel
theorem dL_made_217 : decode cL_made 217 = .ok (.isub, 1) := by decide +kernel
theorem dL_made_218 : decode cL_made 218 = .ok (.aload_n 3, 1) := by decide +kernel
theorem dL_made_219 : decode cL_made 219 = .ok (.iload 4, 2) := by decide +kernel
theorem dL_made_221 : decode cL_made 221 = .ok (.invokestatic 66, 3) := by decide +kernel
theorem dL_made_224 : decode cL_made 224 = .ok (.invokevirtual 45, 3) := by decide +kernel
theorem dL_made_227 : decode cL_made 227 = .ok (.invokevirtual 52, 3) := by decide +kernel
theorem dL_made_230 : decode cL_made 230 = .ok (.areturn, 1) := by decide +kernel
theorem dL_made_231 : decode cL_made 231 = .ok (.new 40, 3) := by decide +kernel
theorem dL_made_234 : decode cL_made 234 = .ok (.dup, 1) := by decide +kernel
theorem dL_made_235 : decode cL_made 235 = .ok (.invokespecial 42, 3) := by decide +kernel
theorem dL_made_238 : decode cL_made 238 = .ok (.ldc 72, 2) := by decide +kernel
theorem dL_made_240 : decode cL_made 240 = .ok (.invokevirtual 45, 3) := by decide +kernel
theorem dL_made_243 : decode cL_made 243 = .ok (.aload_n 0, 1) := by decide +kernel
theorem dL_made_244 : decode cL_made 244 = .ok (.aload_n 1, 1) := by decide +kernel
theorem dL_made_245 : decode cL_made 245 = .ok (.iload_n 2, 1) := by decide +kernel
theorem dL_made_246 : decode cL_made 246 = .ok (.iconst 1, 1) := by decide +kernel
theorem dL_made_247 : decode cL_made 247 = .ok (.isub, 1) := by decide +kernel
theorem dL_made_248 : decode cL_made 248 = .ok (.aload_n 3, 1) := by decide +kernel
theorem dL_made_249 : decode cL_made 249 = .ok (.iload 4, 2) := by decide +kernel
theorem dL_made_251 : decode cL_made 251 = .ok (.invokestatic 66, 3) := by decide +kernel
theorem dL_made_254 : decode cL_made 254 = .ok (.invokevirtual 45, 3) := by decide +kernel
theorem dL_made_257 : decode cL_made 257 = .ok (.ldc 74, 2) := by decide +kernel
theorem dL_made_259 : decode cL_made 259 = .ok (.invokevirtual 45, 3) := by decide +kernel
theorem dL_made_262 : decode cL_made 262 = .ok (.aload_n 0, 1) := by decide +kernel
theorem dL_made_263 : decode cL_made 263 = .ok (.aload_n 1, 1) := by decide +kernel
theorem dL_made_264 : decode cL_made 264 = .ok (.iload_n 2, 1) := by decide +kernel
theorem dL_made_265 : decode cL_made 265 = .ok (.iconst 1, 1) := by decide +kernel
theorem dL_made_266 : decode cL_made 266 = .ok (.isub, 1) := by decide +kernel
theorem dL_made_267 : decode cL_made 267 = .ok (.aload_n 3, 1) := by decide +kernel
theorem dL_made_268 : decode cL_made 268 = .ok (.iload 4, 2) := by decide +kernel
theorem dL_made_270 : decode cL_made 270 = .ok (.invokestatic 66, 3) := by decide +kernel
theorem dL_made_273 : decode cL_made 273 = .ok (.invokevirtual 45, 3) := by decide +kernel
theorem dL_made_276 : decode cL_made 276 = .ok (.iload 4, 2) := by decide +kernel
theorem dL_made_278 : decode cL_made 278 = .ok (.ifCond .eq 8, 3) := by decide +kernel
theorem dL_made_281 : decode cL_made 281 = .ok (.ldc 76, 2) := by decide +kernel
theorem dL_made_283 : decode cL_made 283 = .ok (.goto 5, 3) := by decide +kernel
theorem dL_made_286 : decode cL_made 286 = .ok (.ldc 78, 2) := by decide +kernel
theorem dL_made_288 : decode cL_made 288 = .ok (.invokevirtual 45, 3) := by decide +kernel
theorem dL_made_291 : decode cL_made 291 = .ok (.invokevirtual 52, 3) := by decide +kernel
theorem dL_made_294 : decode cL_made 294 = .ok (.areturn, 1) := by decide +kernel
theorem dL_made_295 : decode cL_made 295 = .ok (.new 40, 3) := by decide +kernel
theorem dL_made_298 : decode cL_made 298 = .ok (.dup, 1) := by decide +kernel
theorem dL_made_299 : decode cL_made 299 = .ok (.invokespecial 42, 3) := by decide +kernel
theorem dL_made_302 : decode cL_made 302 = .ok (.ldc 80, 2) := by decide +kernel
theorem dL_made_304 : decode cL_made 304 = .ok (.invokevirtual 45, 3) := by decide +kernel
theorem dL_made_307 : decode cL_made 307 = .ok (.aload_n 0, 1) := by decide +kernel
theorem dL_made_308 : decode cL_made 308 = .ok (.aload_n 1, 1) := by decide +kernel
theorem dL_made_309 : decode cL_made 309 = .ok (.iload_n 2, 1) := by decide +kernel
theorem dL_made_310 : decode cL_made 310 = .ok (.iconst 1, 1) := by decide +kernel
theorem dL_made_311 : decode cL_made 311 = .ok (.isub, 1) := by decide +kernel
theorem dL_made_312 : decode cL_made 312 = .ok (.aload_n 3, 1) := by decide +kernel
theorem dL_made_313 : decode cL_made 313 = .ok (.iload 4, 2) := by decide +kernel
theorem dL_made_315 : decode cL_made 315 = .ok (.invokestatic 66, 3) := by decide +kernel
theorem dL_made_318 : decode cL_made 318 = .ok (.invokevirtual 45, 3) := by decide +kernel
theorem dL_made_321 : decode cL_made 321 = .ok (.ldc 74, 2) := by decide +kernel
theorem dL_made_323 : decode cL_made 323 = .ok (.invokevirtual 45, 3) := by decide +kernel
theorem dL_made_326 : decode cL_made 326 = .ok (.aload_n 0, 1) := by decide +kernel
theorem dL_made_327 : decode cL_made 327 = .ok (.aload_n 1, 1) := by decide +kernel
theorem dL_made_328 : decode cL_made 328 = .ok (.iload_n 2, 1) := by decide +kernel
theorem dL_made_329 : decode cL_made 329 = .ok (.iconst 1, 1) := by decide +kernel
theorem dL_made_330 : decode cL_made 330 = .ok (.isub, 1) := by decide +kernel
theorem dL_made_331 : decode cL_made 331 = .ok (.aload_n 3, 1) := by decide +kernel
theorem dL_made_332 : decode cL_made 332 = .ok (.iload 4, 2) := by decide +kernel
theorem dL_made_334 : decode cL_made 334 = .ok (.invokestatic 66, 3) := by decide +kernel
theorem dL_made_337 : decode cL_made 337 = .ok (.invokevirtual 45, 3) := by decide +kernel
theorem dL_made_340 : decode cL_made 340 = .ok (.iload 4, 2) := by decide +kernel
theorem dL_made_342 : decode cL_made 342 = .ok (.ifCond .eq 8, 3) := by decide +kernel
theorem dL_made_345 : decode cL_made 345 = .ok (.ldc 78, 2) := by decide +kernel
theorem dL_made_347 : decode cL_made 347 = .ok (.goto 5, 3) := by decide +kernel
theorem dL_made_350 : decode cL_made 350 = .ok (.ldc 76, 2) := by decide +kernel
theorem dL_made_352 : decode cL_made 352 = .ok (.invokevirtual 45, 3) := by decide +kernel
theorem dL_made_355 : decode cL_made 355 = .ok (.invokevirtual 52, 3) := by decide +kernel
theorem dL_made_358 : decode cL_made 358 = .ok (.areturn, 1) := by decide +kernel
theorem dL_made_359 : decode cL_made 359 = .ok (.new 40, 3) := by decide +kernel
theorem dL_made_362 : decode cL_made 362 = .ok (.dup, 1) := by decide +kernel
theorem dL_made_363 : decode cL_made 363 = .ok (.invokespecial 42, 3) := by decide +kernel
theorem dL_made_366 : decode cL_made 366 = .ok (.ldc 43, 2) := by decide +kernel
theorem dL_made_368 : decode cL_made 368 = .ok (.invokevirtual 45, 3) := by decide +kernel
theorem dL_made_371 : decode cL_made 371 = .ok (.bipush 119, 2) := by decide +kernel
theorem dL_made_373 : decode cL_made 373 = .ok (.aload_n 3, 1) := by decide +kernel
theorem dL_made_374 : decode cL_made 374 = .ok (.invokevirtual 8, 3) := by decide +kernel
theorem dL_made_377 : decode cL_made 377 = .ok (.iconst 4, 1) := by decide +kernel
theorem dL_made_378 : decode cL_made 378 = .ok (.irem, 1) := by decide +kernel
theorem dL_made_379 : decode cL_made 379 = .ok (.iadd, 1) := by decide +kernel
theorem dL_made_380 : decode cL_made 380 = .ok (.i2c, 1) := by decide +kernel
theorem dL_made_381 : decode cL_made 381 = .ok (.invokevirtual 49, 3) := by decide +kernel
theorem dL_made_384 : decode cL_made 384 = .ok (.invokevirtual 52, 3) := by decide +kernel
theorem dL_made_387 : decode cL_made 387 = .ok (.astore 6, 2) := by decide +kernel
theorem dL_made_389 : decode cL_made 389 = .ok (.new 40, 3) := by decide +kernel
theorem dL_made_392 : decode cL_made 392 = .ok (.dup, 1) := by decide +kernel
theorem dL_made_393 : decode cL_made 393 = .ok (.invokespecial 42, 3) := by decide +kernel
theorem dL_made_396 : decode cL_made 396 = .ok (.ldc 82, 2) := by decide +kernel
theorem dL_made_398 : decode cL_made 398 = .ok (.invokevirtual 45, 3) := by decide +kernel
theorem dL_made_401 : decode cL_made 401 = .ok (.aload 6, 2) := by decide +kernel
theorem dL_made_403 : decode cL_made 403 = .ok (.invokevirtual 45, 3) := by decide +kernel
theorem dL_made_406 : decode cL_made 406 = .ok (.iload 5, 2) := by decide +kernel
theorem dL_made_408 : decode cL_made 408 = .ok (.iconst 4, 1) := by decide +kernel
theorem dL_made_409 : decode cL_made 409 = .ok (.ishr, 1) := by decide +kernel
theorem dL_made_410 : decode cL_made 410 = .ok (.iconst 1, 1) := by decide +kernel
theorem dL_made_411 : decode cL_made 411 = .ok (.iand, 1) := by decide +kernel
theorem dL_made_412 : decode cL_made 412 = .ok (.ifCond .ne 8, 3) := by decide +kernel
theorem dL_made_415 : decode cL_made 415 = .ok (.ldc 84, 2) := by decide +kernel
theorem dL_made_417 : decode cL_made 417 = .ok (.goto 5, 3) := by decide +kernel
theorem dL_made_420 : decode cL_made 420 = .ok (.ldc 86, 2) := by decide +kernel
theorem dL_made_422 : decode cL_made 422 = .ok (.invokevirtual 45, 3) := by decide +kernel
theorem dL_made_425 : decode cL_made 425 = .ok (.aload_n 0, 1) := by decide +kernel
theorem dL_made_426 : decode cL_made 426 = .ok (.aload_n 1, 1) := by decide +kernel
theorem dL_made_427 : decode cL_made 427 = .ok (.iload_n 2, 1) := by decide +kernel
theorem dL_made_428 : decode cL_made 428 = .ok (.iconst 1, 1) := by decide +kernel
theorem dL_made_429 : decode cL_made 429 = .ok (.isub, 1) := by decide +kernel
theorem dL_made_430 : decode cL_made 430 = .ok (.new 40, 3) := by decide +kernel
theorem dL_made_433 : decode cL_made 433 = .ok (.dup, 1) := by decide +kernel
theorem dL_made_434 : decode cL_made 434 = .ok (.invokespecial 42, 3) := by decide +kernel
theorem dL_made_437 : decode cL_made 437 = .ok (.aload_n 3, 1) := by decide +kernel
theorem dL_made_438 : decode cL_made 438 = .ok (.invokevirtual 45, 3) := by decide +kernel
theorem dL_made_441 : decode cL_made 441 = .ok (.aload 6, 2) := by decide +kernel
theorem dL_made_443 : decode cL_made 443 = .ok (.invokevirtual 45, 3) := by decide +kernel
theorem dL_made_446 : decode cL_made 446 = .ok (.invokevirtual 52, 3) := by decide +kernel
theorem dL_made_449 : decode cL_made 449 = .ok (.iload 4, 2) := by decide +kernel
theorem dL_made_451 : decode cL_made 451 = .ok (.invokestatic 66, 3) := by decide +kernel
theorem dL_made_454 : decode cL_made 454 = .ok (.invokevirtual 45, 3) := by decide +kernel
theorem dL_made_457 : decode cL_made 457 = .ok (.invokevirtual 52, 3) := by decide +kernel
theorem dL_made_460 : decode cL_made 460 = .ok (.areturn, 1) := by decide +kernel
theorem dL_made_461 : decode cL_made 461 = .ok (.aload_n 3, 1) := by decide +kernel
theorem dL_made_462 : decode cL_made 462 = .ok (.invokevirtual 8, 3) := by decide +kernel
theorem dL_made_465 : decode cL_made 465 = .ok (.ifCond .le 37, 3) := by decide +kernel
theorem dL_made_468 : decode cL_made 468 = .ok (.new 40, 3) := by decide +kernel
theorem dL_made_471 : decode cL_made 471 = .ok (.dup, 1) := by decide +kernel
theorem dL_made_472 : decode cL_made 472 = .ok (.invokespecial 42, 3) := by decide +kernel
theorem dL_made_475 : decode cL_made 475 = .ok (.ldc 43, 2) := by decide +kernel
theorem dL_made_477 : decode cL_made 477 = .ok (.invokevirtual 45, 3) := by decide +kernel
theorem dL_made_480 : decode cL_made 480 = .ok (.aload_n 3, 1) := by decide +kernel
theorem dL_made_481 : decode cL_made 481 = .ok (.iload 5, 2) := by decide +kernel
theorem dL_made_483 : decode cL_made 483 = .ok (.iconst 4, 1) := by decide +kernel
theorem dL_made_484 : decode cL_made 484 = .ok (.ishr, 1) := by decide +kernel
theorem dL_made_485 : decode cL_made 485 = .ok (.aload_n 3, 1) := by decide +kernel
theorem dL_made_486 : decode cL_made 486 = .ok (.invokevirtual 8, 3) := by decide +kernel
theorem dL_made_489 : decode cL_made 489 = .ok (.irem, 1) := by decide +kernel
theorem dL_made_490 : decode cL_made 490 = .ok (.invokevirtual 14, 3) := by decide +kernel
theorem dL_made_493 : decode cL_made 493 = .ok (.invokevirtual 49, 3) := by decide +kernel
theorem dL_made_496 : decode cL_made 496 = .ok (.invokevirtual 52, 3) := by decide +kernel
theorem dL_made_499 : decode cL_made 499 = .ok (.goto 5, 3) := by decide +kernel
theorem dL_made_502 : decode cL_made 502 = .ok (.ldc 88, 2) := by decide +kernel
theorem dL_made_504 : decode cL_made 504 = .ok (.areturn, 1) := by decide +kernel
set_option maxRecDepth 100000 in
set_option maxHeartbeats 8000000 in
theorem ggL_said_J4_init_da8c8 : GoodIn wsL_said wsJ4_init_da8c8 := goodIn_r _ [6, 7, 8, 9, 10, 11, 12, 13, 14, 15, 16, 17, 18, 19, 20, 21, 22, 23, 24, 25, 259, 260, 261, 262] rfl (by decide +kernel)
set_option maxRecDepth 20000 in
theorem gL_said_J4_init_da8c8 : GoodIn wsL_said (wsJ4_init_da8c8) := ggL_said_J4_init_da8c8
set_option maxRecDepth 100000 in
set_option maxHeartbeats 8000000 in
theorem ggL_said_J4_append_15ec4 : GoodIn wsL_said wsJ4_append_15ec4 := goodIn_r _ [29, 30, 31, 32, 33, 9, 34, 35, 36, 37, 38, 39, 40, 16, 41, 42, 43, 44, 45, 17, 46, 47, 48, 49, 50, 51, 52, 53, 54, 55, 56, 57, 58, 59, 60, 61, 62, 63, 64, 65, 66, 67, 68, 69, 70, 71, 72, 73, 15, 74, 75, 76, 77, 78, 79, 80, 81, 82, 83, 84, 85, 14, 86, 87, 20, 88, 89, 90, 91, 92, 93, 94, 95, 96, 97, 98, 99, 100, 101, 102, 103, 104, 105, 106, 107, 108, 109, 110, 111, 112, 113, 114, 115, 116, 117, 118, 119, 120, 121, 122, 123, 124, 125, 126, 127, 128, 129, 130, 131, 132, 133, 134, 135, 136, 18, 19, 21, 22, 23, 24, 25, 137, 138, 139, 140, 141, 142, 143, 144, 145, 146, 147, 148, 149, 150, 151, 152, 153, 154, 155, 156, 157, 158, 259, 260, 261, 262, 263, 264, 265, 266] rfl (by decide +kernel)
set_option maxRecDepth 20000 in
theorem gL_said_J4_append_15ec4 : GoodIn wsL_said (wsV RL 45 RJ4 yJ4_append_15ec4 wsJ4_append_15ec4) := goodIn_app (goodIn_of _ (by decide +kernel)) ggL_said_J4_append_15ec4
set_option maxRecDepth 100000 in
set_option maxHeartbeats 8000000 in
theorem ggL_said_L_made : GoodIn wsL_said wsL_made := goodIn_r _ [213, 1, 2, 3, 214, 215, 161, 216, 217, 218, 111, 112, 98, 113, 114, 115, 116, 117, 118, 119, 120, 4, 5, 6, 7, 8, 9, 10, 11, 12, 13, 14, 15, 16, 17, 18, 19, 20, 21, 22, 23, 24, 25, 26, 27, 28, 29, 30, 31, 32, 33, 34, 35, 36, 37, 38, 39, 40, 41, 42, 43, 44, 45, 46, 47, 48, 49, 50, 51, 52, 53, 54, 55, 56, 57, 58, 59, 60, 61, 62, 63, 64, 65, 66, 67, 68, 69, 70, 71, 72, 73, 74, 75, 76, 77, 78, 79, 80, 81, 82, 83, 84, 85, 86, 87, 88, 89, 90, 91, 92, 93, 94, 95, 96, 97, 99, 100, 101, 102, 103, 104, 105, 106, 107, 108, 109, 110, 121, 122, 123, 124, 125, 126, 127, 128, 129, 130, 131, 132, 133, 134, 135, 136, 137, 138, 139, 140, 141, 142, 143, 144, 145, 146, 147, 148, 149, 150, 151, 152, 153, 154, 155, 156, 157, 158, 219, 220, 221, 222, 223, 224, 225, 226, 227, 228, 229, 230, 231, 232, 233, 234, 235, 236, 237, 238, 239, 240, 241, 242, 206, 207, 208, 243, 244, 245, 246, 247, 248, 249, 250, 251, 252, 253, 254, 255, 256, 162, 163, 164, 165, 166, 167, 168, 169, 170, 171, 172, 173, 174, 175, 176, 177, 178, 179, 180, 181, 182, 183, 184, 185, 186, 187, 188, 189, 190, 191, 192, 193, 194, 195, 196, 197, 198, 199, 200, 201, 202, 203, 204, 205, 209, 210, 211, 212, 257, 258, 159, 160, 0, 259, 260, 261, 262, 263, 264, 265, 266] rfl (by decide +kernel)
set_option maxRecDepth 20000 in
theorem gL_said_L_made : GoodIn wsL_said (va_wsS RL 66 yL_made wsL_made) := goodIn_app (goodIn_of _ (by decide +kernel)) ggL_said_L_made
set_option maxRecDepth 100000 in
set_option maxHeartbeats 8000000 in
theorem ggL_said_J4_toString_0e30d : GoodIn wsL_said wsJ4_toString_0e30d := goodIn_r _ [165, 166, 167, 98, 168, 169, 170, 171, 172, 173, 174, 12, 13, 120, 114, 119, 175, 176, 177, 178, 179, 9, 180, 16, 181, 182, 183, 184, 185, 3, 186, 187, 32, 188, 189, 35, 190, 82, 83, 84, 85, 14, 17, 191, 192, 66, 193, 68, 69, 70, 71, 72, 73, 194, 195, 196, 15, 74, 75, 58, 76, 77, 78, 79, 80, 197, 198, 199, 200, 201, 20, 202, 203, 204, 205, 144, 145, 146, 93, 94, 95, 147, 148, 149, 100, 150, 151, 103, 152, 206, 207, 208, 89, 108, 109, 22, 23, 24, 25, 209, 210, 211, 212, 263, 264, 265, 266, 259, 260, 261, 262] rfl (by decide +kernel)
set_option maxRecDepth 20000 in
theorem gL_said_J4_toString_0e30d : GoodIn wsL_said (wsV RL 52 RJ4 yJ4_toString_0e30d wsJ4_toString_0e30d) := goodIn_app (goodIn_of _ (by decide +kernel)) ggL_said_J4_toString_0e30d
theorem dL_said_0 : decode cL_said 0 = .ok (.iload 4, 2) := by decide +kernel
theorem dL_said_2 : decode cL_said 2 = .ok (.iconst 3, 1) := by decide +kernel
theorem dL_said_3 : decode cL_said 3 = .ok (.iand, 1) := by decide +kernel
theorem dL_said_4 : decode cL_said 4 = .ok (.ifCond .ne 8, 3) := by decide +kernel
theorem dL_said_7 : decode cL_said 7 = .ok (.ldc 90, 2) := by decide +kernel
theorem dL_said_9 : decode cL_said 9 = .ok (.goto 55, 3) := by decide +kernel
theorem dL_said_12 : decode cL_said 12 = .ok (.iload 4, 2) := by decide +kernel
theorem dL_said_14 : decode cL_said 14 = .ok (.iconst 3, 1) := by decide +kernel
theorem dL_said_15 : decode cL_said 15 = .ok (.iand, 1) := by decide +kernel
theorem dL_said_16 : decode cL_said 16 = .ok (.iconst 3, 1) := by decide +kernel
theorem dL_said_17 : decode cL_said 17 = .ok (.if_icmp .lt 8, 3) := by decide +kernel
theorem dL_said_20 : decode cL_said 20 = .ok (.iload_n 2, 1) := by decide +kernel
theorem dL_said_21 : decode cL_said 21 = .ok (.iconst 2, 1) := by decide +kernel
theorem dL_said_22 : decode cL_said 22 = .ok (.if_icmp .ge 8, 3) := by decide +kernel
theorem dL_said_25 : decode cL_said 25 = .ok (.ldc 92, 2) := by decide +kernel
theorem dL_said_27 : decode cL_said 27 = .ok (.goto 37, 3) := by decide +kernel
theorem dL_said_30 : decode cL_said 30 = .ok (.new 40, 3) := by decide +kernel
theorem dL_said_33 : decode cL_said 33 = .ok (.dup, 1) := by decide +kernel
theorem dL_said_34 : decode cL_said 34 = .ok (.invokespecial 42, 3) := by decide +kernel
theorem dL_said_37 : decode cL_said 37 = .ok (.ldc 94, 2) := by decide +kernel
theorem dL_said_39 : decode cL_said 39 = .ok (.invokevirtual 45, 3) := by decide +kernel
theorem dL_said_42 : decode cL_said 42 = .ok (.aload_n 0, 1) := by decide +kernel
theorem dL_said_43 : decode cL_said 43 = .ok (.aload_n 1, 1) := by decide +kernel
theorem dL_said_44 : decode cL_said 44 = .ok (.iload_n 2, 1) := by decide +kernel
theorem dL_said_45 : decode cL_said 45 = .ok (.iconst 2, 1) := by decide +kernel
theorem dL_said_46 : decode cL_said 46 = .ok (.isub, 1) := by decide +kernel
theorem dL_said_47 : decode cL_said 47 = .ok (.ldc 43, 2) := by decide +kernel
theorem dL_said_49 : decode cL_said 49 = .ok (.iload_n 3, 1) := by decide +kernel
theorem dL_said_50 : decode cL_said 50 = .ok (.invokestatic 66, 3) := by decide +kernel
theorem dL_said_53 : decode cL_said 53 = .ok (.invokevirtual 45, 3) := by decide +kernel
theorem dL_said_56 : decode cL_said 56 = .ok (.ldc 96, 2) := by decide +kernel
theorem dL_said_58 : decode cL_said 58 = .ok (.invokevirtual 45, 3) := by decide +kernel
theorem dL_said_61 : decode cL_said 61 = .ok (.invokevirtual 52, 3) := by decide +kernel
theorem dL_said_64 : decode cL_said 64 = .ok (.areturn, 1) := by decide +kernel
set_option maxRecDepth 100000 in
set_option maxHeartbeats 8000000 in
theorem ggL_made__L_made : GoodIn wsL_made_ wsL_made := goodIn_r _ [5, 6, 7, 8, 9, 10, 4, 11, 12, 13, 14, 15, 16, 17, 18, 19, 20, 21, 22, 23, 24, 25, 26, 27, 28, 29, 30, 31, 32, 33, 34, 35, 36, 37, 38, 39, 40, 41, 42, 43, 44, 45, 46, 47, 48, 49, 50, 51, 52, 53, 54, 55, 56, 57, 58, 59, 60, 61, 62, 63, 64, 65, 66, 67, 68, 69, 70, 71, 72, 73, 74, 75, 76, 77, 78, 79, 80, 81, 82, 83, 84, 85, 86, 87, 88, 89, 90, 91, 92, 93, 94, 95, 96, 97, 98, 99, 100, 101, 102, 103, 104, 105, 106, 107, 108, 109, 110, 111, 112, 113, 114, 115, 116, 117, 118, 119, 120, 121, 122, 123, 124, 125, 126, 127, 128, 129, 130, 131, 132, 133, 134, 135, 136, 137, 138, 139, 140, 141, 142, 143, 144, 145, 146, 147, 148, 149, 150, 151, 152, 153, 154, 155, 156, 157, 158, 159, 160, 161, 162, 163, 164, 165, 166, 167, 168, 169, 170, 171, 172, 173, 174, 175, 176, 177, 178, 179, 180, 181, 182, 183, 184, 185, 186, 187, 188, 189, 190, 191, 192, 193, 194, 195, 196, 197, 198, 199, 200, 201, 202, 203, 204, 205, 206, 207, 208, 209, 210, 211, 212, 213, 214, 215, 216, 217, 218, 219, 220, 221, 222, 223, 224, 225, 226, 227, 228, 229, 230, 231, 232, 233, 234, 235, 236, 237, 238, 239, 240, 241, 242, 243, 244, 245, 246, 247, 248, 249, 250, 251, 252, 253, 254, 255, 256, 257, 258, 259, 2, 3, 260, 261, 262, 263, 264, 265, 266, 267, 268] rfl (by decide +kernel)
set_option maxRecDepth 20000 in
theorem gL_made__L_made : GoodIn wsL_made_ (va_wsS RL 66 yL_made wsL_made) := goodIn_app (goodIn_of _ (by decide +kernel)) ggL_made__L_made
theorem dL_made__0 : decode cL_made_ 0 = .ok (.iconst 1, 1) := by decide +kernel
theorem dL_made__1 : decode cL_made_ 1 = .ok (.newarray .int, 2) := by decide +kernel
theorem dL_made__3 : decode cL_made_ 3 = .ok (.dup, 1) := by decide +kernel
theorem dL_made__4 : decode cL_made_ 4 = .ok (.iconst 0, 1) := by decide +kernel
theorem dL_made__5 : decode cL_made_ 5 = .ok (.iload_n 1, 1) := by decide +kernel
theorem dL_made__6 : decode cL_made_ 6 = .ok (.iastore, 1) := by decide +kernel
theorem dL_made__7 : decode cL_made_ 7 = .ok (.astore 4, 2) := by decide +kernel
theorem dL_made__9 : decode cL_made_ 9 = .ok (.aload_n 0, 1) := by decide +kernel
theorem dL_made__10 : decode cL_made_ 10 = .ok (.aload 4, 2) := by decide +kernel
theorem dL_made__12 : decode cL_made_ 12 = .ok (.iload_n 3, 1) := by decide +kernel
theorem dL_made__13 : decode cL_made_ 13 = .ok (.ldc 43, 2) := by decide +kernel
theorem dL_made__15 : decode cL_made_ 15 = .ok (.iload_n 2, 1) := by decide +kernel
theorem dL_made__16 : decode cL_made_ 16 = .ok (.invokestatic 66, 3) := by decide +kernel
theorem dL_made__19 : decode cL_made_ 19 = .ok (.areturn, 1) := by decide +kernel
set_option maxRecDepth 100000 in
set_option maxHeartbeats 8000000 in
theorem ggL_nodes_J0_length_8abf5 : GoodIn wsL_nodes wsJ0_length_8abf5 := goodIn_r _ [5, 6, 7, 8, 9, 4, 10, 11, 12, 50, 51, 52, 53] rfl (by decide +kernel)
set_option maxRecDepth 20000 in
theorem gL_nodes_J0_length_8abf5 : GoodIn wsL_nodes (wsV RL 8 RJ0 yJ0_length_8abf5 wsJ0_length_8abf5) := goodIn_app (goodIn_of _ (by decide +kernel)) ggL_nodes_J0_length_8abf5
set_option maxRecDepth 100000 in
set_option maxHeartbeats 8000000 in
theorem ggL_nodes_J0_charAt_5068e : GoodIn wsL_nodes wsJ0_charAt_5068e := goodIn_r _ [16, 6, 17, 18, 19, 4, 20, 11, 12, 21, 22, 23, 24, 25, 26, 27, 28, 29, 30, 31, 32, 33, 34, 35, 36, 37, 38, 39, 40, 41, 42, 43, 44, 45, 46, 47, 48, 49, 50, 51, 52, 53] rfl (by decide +kernel)
set_option maxRecDepth 20000 in
theorem gL_nodes_J0_charAt_5068e : GoodIn wsL_nodes (wsV RL 14 RJ0 yJ0_charAt_5068e wsJ0_charAt_5068e) := goodIn_app (goodIn_of _ (by decide +kernel)) ggL_nodes_J0_charAt_5068e
theorem dL_nodes_0 : decode cL_nodes 0 = .ok (.iconst 0, 1) := by decide +kernel
theorem dL_nodes_1 : decode cL_nodes 1 = .ok (.istore_n 1, 1) := by decide +kernel
theorem dL_nodes_2 : decode cL_nodes 2 = .ok (.iconst 0, 1) := by decide +kernel
theorem dL_nodes_3 : decode cL_nodes 3 = .ok (.istore_n 2, 1) := by decide +kernel
theorem dL_nodes_4 : decode cL_nodes 4 = .ok (.iload_n 2, 1) := by decide +kernel
theorem dL_nodes_5 : decode cL_nodes 5 = .ok (.aload_n 0, 1) := by decide +kernel
theorem dL_nodes_6 : decode cL_nodes 6 = .ok (.invokevirtual 8, 3) := by decide +kernel
theorem dL_nodes_9 : decode cL_nodes 9 = .ok (.if_icmp .ge 78, 3) := by decide +kernel
theorem dL_nodes_12 : decode cL_nodes 12 = .ok (.aload_n 0, 1) := by decide +kernel
theorem dL_nodes_13 : decode cL_nodes 13 = .ok (.iload_n 2, 1) := by decide +kernel
theorem dL_nodes_14 : decode cL_nodes 14 = .ok (.invokevirtual 14, 3) := by decide +kernel
theorem dL_nodes_17 : decode cL_nodes 17 = .ok (.istore_n 3, 1) := by decide +kernel
theorem dL_nodes_18 : decode cL_nodes 18 = .ok (.iload_n 3, 1) := by decide +kernel
theorem dL_nodes_19 : decode cL_nodes 19 = .ok (.bipush 48, 2) := by decide +kernel
theorem dL_nodes_21 : decode cL_nodes 21 = .ok (.if_icmp .eq 57, 3) := by decide +kernel
theorem dL_nodes_24 : decode cL_nodes 24 = .ok (.iload_n 3, 1) := by decide +kernel
theorem dL_nodes_25 : decode cL_nodes 25 = .ok (.bipush 33, 2) := by decide +kernel
theorem dL_nodes_27 : decode cL_nodes 27 = .ok (.if_icmp .eq 51, 3) := by decide +kernel
theorem dL_nodes_30 : decode cL_nodes 30 = .ok (.iload_n 3, 1) := by decide +kernel
theorem dL_nodes_31 : decode cL_nodes 31 = .ok (.bipush 63, 2) := by decide +kernel
theorem dL_nodes_33 : decode cL_nodes 33 = .ok (.if_icmp .eq 45, 3) := by decide +kernel
theorem dL_nodes_36 : decode cL_nodes 36 = .ok (.iload_n 3, 1) := by decide +kernel
theorem dL_nodes_37 : decode cL_nodes 37 = .ok (.bipush 43, 2) := by decide +kernel
theorem dL_nodes_39 : decode cL_nodes 39 = .ok (.if_icmp .eq 39, 3) := by decide +kernel
theorem dL_nodes_42 : decode cL_nodes 42 = .ok (.iload_n 3, 1) := by decide +kernel
theorem dL_nodes_43 : decode cL_nodes 43 = .ok (.bipush 38, 2) := by decide +kernel
theorem dL_nodes_45 : decode cL_nodes 45 = .ok (.if_icmp .eq 33, 3) := by decide +kernel
theorem dL_nodes_48 : decode cL_nodes 48 = .ok (.iload_n 3, 1) := by decide +kernel
theorem dL_nodes_49 : decode cL_nodes 49 = .ok (.bipush 42, 2) := by decide +kernel
theorem dL_nodes_51 : decode cL_nodes 51 = .ok (.if_icmp .eq 27, 3) := by decide +kernel
theorem dL_nodes_54 : decode cL_nodes 54 = .ok (.iload_n 3, 1) := by decide +kernel
theorem dL_nodes_55 : decode cL_nodes 55 = .ok (.bipush 119, 2) := by decide +kernel
theorem dL_nodes_57 : decode cL_nodes 57 = .ok (.if_icmp .lt 24, 3) := by decide +kernel
theorem dL_nodes_60 : decode cL_nodes 60 = .ok (.iload_n 3, 1) := by decide +kernel
theorem dL_nodes_61 : decode cL_nodes 61 = .ok (.bipush 122, 2) := by decide +kernel
theorem dL_nodes_63 : decode cL_nodes 63 = .ok (.if_icmp .gt 18, 3) := by decide +kernel
theorem dL_nodes_66 : decode cL_nodes 66 = .ok (.aload_n 0, 1) := by decide +kernel
theorem dL_nodes_67 : decode cL_nodes 67 = .ok (.iload_n 2, 1) := by decide +kernel
theorem dL_nodes_68 : decode cL_nodes 68 = .ok (.iconst 1, 1) := by decide +kernel
theorem dL_nodes_69 : decode cL_nodes 69 = .ok (.isub, 1) := by decide +kernel
theorem dL_nodes_70 : decode cL_nodes 70 = .ok (.invokevirtual 14, 3) := by decide +kernel
theorem dL_nodes_73 : decode cL_nodes 73 = .ok (.bipush 42, 2) := by decide +kernel
theorem dL_nodes_75 : decode cL_nodes 75 = .ok (.if_icmp .eq 6, 3) := by decide +kernel
theorem dL_nodes_78 : decode cL_nodes 78 = .ok (.iinc 1 1, 3) := by decide +kernel
theorem dL_nodes_81 : decode cL_nodes 81 = .ok (.iinc 2 1, 3) := by decide +kernel
theorem dL_nodes_84 : decode cL_nodes 84 = .ok (.goto (-80), 3) := by decide +kernel
theorem dL_nodes_87 : decode cL_nodes 87 = .ok (.iload_n 1, 1) := by decide +kernel
theorem dL_nodes_88 : decode cL_nodes 88 = .ok (.ireturn, 1) := by decide +kernel
set_option maxRecDepth 100000 in
set_option maxHeartbeats 8000000 in
theorem ggL_talks_L_cell : GoodIn wsL_talks wsL_cell := goodIn_r _ [4, 5] rfl (by decide +kernel)
set_option maxRecDepth 20000 in
theorem gL_talks_L_cell : GoodIn wsL_talks (va_wsS RL 36 yL_cell wsL_cell) := goodIn_app (goodIn_of _ (by decide +kernel)) ggL_talks_L_cell
set_option maxRecDepth 100000 in
set_option maxHeartbeats 8000000 in
theorem ggL_talks_X11_look : GoodIn wsL_talks wsX11_look := goodIn_r _ [10, 11, 12, 13, 14, 15, 16, 17, 18, 19, 9, 20, 21, 22, 23, 24, 25, 26, 27, 28, 29, 30, 31, 32, 33, 34, 35, 36, 37, 38, 39, 40, 41, 42, 43, 269, 270, 271, 272, 273, 274, 275, 276, 277, 278, 279, 280, 281, 282, 283, 284, 285, 286, 287, 288, 289, 290, 291, 292, 293, 294, 295, 296, 297, 298, 299, 300, 301, 302, 303, 304, 305, 306, 307, 308, 309] rfl (by decide +kernel)
set_option maxRecDepth 20000 in
theorem gL_talks_X11_look : GoodIn wsL_talks (wsV RL 98 RX11 yX11_look wsX11_look) := goodIn_app (goodIn_of _ (by decide +kernel)) ggL_talks_X11_look
set_option maxRecDepth 100000 in
set_option maxHeartbeats 8000000 in
theorem ggL_talks_X11_end : GoodIn wsL_talks wsX11_end := goodIn_r _ [47, 48, 49, 50, 9, 51, 17, 18, 19, 20, 11, 21, 52, 53, 54, 55, 56, 57, 58, 59, 60, 61, 62, 63, 12, 13, 16, 64, 65, 66, 22, 23, 24, 25, 26, 27, 28, 29, 30, 31, 32, 33, 34, 67, 68, 69, 70, 71, 72, 73, 74, 75, 76, 77, 78, 79, 80, 81, 82, 83, 84, 85, 86, 87, 36, 37, 38, 39, 40, 41, 42, 43, 88, 89, 90, 91, 92, 93, 94, 95, 96, 97, 98, 99, 100, 101, 102, 103, 104, 105, 106, 107, 108, 109, 110, 111, 112, 113, 114, 115, 116, 117, 118, 119, 120, 121, 122, 123, 124, 125, 126, 127, 128, 129, 130, 131, 132, 133, 134, 135, 136, 137, 138, 139, 140, 141, 142, 143, 144, 145, 146, 147, 148, 149, 150, 151, 152, 153, 154, 155, 156, 157, 158, 159, 160, 161, 162, 163, 164, 165, 166, 167, 168, 169, 170, 171, 172, 173, 174, 175, 176, 177, 178, 179, 180, 181, 182, 14, 183, 184, 185, 186, 187, 188, 189, 190, 191, 192, 193, 194, 195, 196, 197, 198, 199, 200, 201, 202, 203, 204, 205, 206, 207, 208, 209, 210, 211, 212, 213, 214, 215, 216, 217, 218, 219, 220, 221, 222, 223, 224, 225, 226, 227, 228, 229, 230, 231, 232, 233, 234, 235, 236, 237, 238, 239, 269, 270, 271, 272, 273, 274, 275, 276, 277, 278, 279, 280, 281, 282, 283, 284, 285, 286, 287, 288, 289, 290, 291, 292, 293, 294, 295, 296, 297, 298, 299, 300, 301, 302, 303, 304, 305, 306, 307, 308, 309, 310, 311, 312, 313, 314, 315, 316, 317, 318, 319, 320, 321, 322, 323, 324, 325, 326] rfl (by decide +kernel)
set_option maxRecDepth 20000 in
theorem gL_talks_X11_end : GoodIn wsL_talks (wsV RL 102 RX11 yX11_end wsX11_end) := goodIn_app (goodIn_of _ (by decide +kernel)) ggL_talks_X11_end
set_option maxRecDepth 100000 in
set_option maxHeartbeats 8000000 in
theorem ggL_talks_X11_say : GoodIn wsL_talks wsX11_say := goodIn_r _ [243, 48, 49, 50, 9, 51, 17, 18, 19, 20, 11, 21, 52, 53, 54, 55, 56, 57, 58, 59, 60, 61, 62, 63, 12, 13, 16, 64, 65, 66, 22, 23, 24, 25, 26, 27, 28, 29, 30, 31, 32, 33, 34, 67, 68, 69, 70, 71, 72, 73, 74, 75, 76, 77, 78, 79, 80, 81, 82, 83, 84, 85, 86, 87, 36, 37, 38, 39, 40, 41, 42, 43, 88, 89, 90, 91, 92, 93, 94, 95, 96, 97, 98, 99, 100, 101, 102, 103, 104, 105, 106, 107, 108, 109, 110, 111, 112, 113, 114, 115, 116, 117, 118, 119, 120, 121, 122, 123, 124, 125, 126, 127, 128, 129, 130, 131, 132, 133, 134, 135, 136, 137, 138, 139, 140, 141, 142, 143, 144, 145, 146, 147, 148, 149, 150, 151, 152, 153, 154, 155, 156, 157, 158, 159, 160, 161, 162, 163, 164, 165, 166, 167, 168, 169, 170, 171, 172, 173, 174, 175, 176, 177, 178, 179, 180, 181, 182, 14, 183, 184, 185, 186, 187, 188, 189, 190, 191, 192, 193, 194, 195, 196, 197, 198, 199, 200, 201, 202, 203, 204, 205, 206, 207, 208, 209, 210, 211, 212, 213, 214, 215, 216, 217, 218, 219, 220, 221, 222, 223, 224, 225, 226, 227, 228, 229, 230, 231, 232, 233, 234, 235, 236, 237, 238, 239, 269, 270, 271, 272, 273, 274, 275, 276, 277, 278, 279, 280, 281, 282, 283, 284, 285, 286, 287, 288, 289, 290, 291, 292, 293, 294, 295, 296, 297, 298, 299, 300, 301, 302, 303, 304, 305, 306, 307, 308, 309, 310, 311, 312, 313, 314, 315, 316, 317, 318, 319, 320, 321, 322, 323, 324, 325, 326] rfl (by decide +kernel)
set_option maxRecDepth 20000 in
theorem gL_talks_X11_say : GoodIn wsL_talks (wsV RL 105 RX11 yX11_say wsX11_say) := goodIn_app (goodIn_of _ (by decide +kernel)) ggL_talks_X11_say
