set_option maxRecDepth 100000 in
set_option maxHeartbeats 8000000 in
theorem ggL_talks_X11_hear : GoodIn wsL_talks wsX11_hear := goodIn_r _ [247, 48, 49, 50, 9, 51, 17, 18, 19, 20, 11, 21, 52, 53, 54, 55, 56, 57, 58, 59, 60, 61, 62, 63, 12, 13, 16, 64, 65, 66, 22, 23, 24, 25, 26, 27, 28, 29, 30, 31, 32, 33, 34, 67, 68, 69, 70, 71, 72, 73, 74, 75, 76, 77, 78, 79, 80, 81, 82, 83, 84, 85, 86, 87, 36, 37, 38, 39, 40, 41, 42, 43, 88, 89, 90, 91, 92, 93, 94, 95, 96, 97, 98, 99, 100, 101, 102, 103, 104, 105, 106, 107, 108, 109, 110, 111, 112, 113, 114, 115, 116, 117, 118, 119, 120, 121, 122, 123, 124, 125, 126, 127, 128, 129, 130, 131, 132, 133, 134, 135, 136, 137, 138, 139, 140, 141, 142, 143, 144, 145, 146, 147, 148, 149, 150, 151, 152, 153, 154, 155, 156, 157, 158, 159, 160, 161, 162, 163, 164, 165, 166, 167, 168, 169, 170, 171, 172, 173, 174, 175, 176, 177, 178, 179, 180, 181, 182, 14, 183, 184, 185, 186, 187, 188, 189, 190, 191, 192, 193, 194, 195, 196, 197, 198, 199, 200, 201, 202, 203, 204, 205, 206, 207, 208, 209, 210, 211, 212, 213, 214, 215, 216, 217, 218, 219, 220, 221, 222, 223, 224, 225, 226, 227, 228, 229, 230, 231, 232, 233, 234, 235, 236, 237, 238, 239, 269, 270, 271, 272, 273, 274, 275, 276, 277, 278, 279, 280, 281, 282, 283, 284, 285, 286, 287, 288, 289, 290, 291, 292, 293, 294, 295, 296, 297, 298, 299, 300, 301, 302, 303, 304, 305, 306, 307, 308, 309, 310, 311, 312, 313, 314, 315, 316, 317, 318, 319, 320, 321, 322, 323, 324, 325, 326] rfl (by decide +kernel)
set_option maxRecDepth 20000 in
theorem gL_talks_X11_hear : GoodIn wsL_talks (wsV RL 109 RX11 yX11_hear wsX11_hear) := goodIn_app (goodIn_of _ (by decide +kernel)) ggL_talks_X11_hear
set_option maxRecDepth 100000 in
set_option maxHeartbeats 8000000 in
theorem ggL_talks_X11_offered : GoodIn wsL_talks wsX11_offered := goodIn_r _ [251, 48, 49, 50, 9, 51, 17, 18, 19, 20, 11, 21, 52, 53, 54, 55, 56, 57, 58, 59, 60, 61, 62, 63, 12, 13, 16, 64, 65, 66, 22, 23, 24, 25, 26, 27, 28, 29, 30, 31, 32, 33, 34, 67, 68, 69, 70, 71, 72, 73, 74, 75, 76, 77, 78, 79, 80, 81, 82, 83, 84, 85, 86, 87, 36, 37, 38, 39, 40, 41, 42, 43, 88, 89, 90, 91, 92, 93, 94, 95, 96, 97, 98, 99, 100, 101, 102, 103, 104, 105, 106, 107, 108, 109, 110, 111, 112, 113, 114, 115, 116, 117, 118, 119, 120, 121, 122, 123, 124, 125, 126, 127, 128, 129, 130, 131, 132, 133, 134, 135, 136, 137, 138, 139, 140, 141, 142, 143, 144, 145, 146, 147, 148, 149, 150, 151, 152, 153, 154, 155, 156, 157, 158, 159, 160, 161, 162, 163, 164, 165, 166, 167, 168, 169, 170, 171, 172, 173, 174, 175, 176, 177, 178, 179, 180, 181, 182, 14, 183, 184, 185, 186, 187, 188, 189, 190, 191, 192, 193, 194, 195, 196, 197, 198, 199, 200, 201, 202, 203, 204, 205, 206, 207, 208, 209, 210, 211, 212, 213, 214, 215, 216, 217, 218, 219, 220, 221, 222, 223, 224, 225, 226, 227, 228, 229, 230, 231, 232, 233, 234, 235, 236, 237, 238, 239, 269, 270, 271, 272, 273, 274, 275, 276, 277, 278, 279, 280, 281, 282, 283, 284, 285, 286, 287, 288, 289, 290, 291, 292, 293, 294, 295, 296, 297, 298, 299, 300, 301, 302, 303, 304, 305, 306, 307, 308, 309, 310, 311, 312, 313, 314, 315, 316, 317, 318, 319, 320, 321, 322, 323, 324, 325, 326] rfl (by decide +kernel)
set_option maxRecDepth 20000 in
theorem gL_talks_X11_offered : GoodIn wsL_talks (wsV RL 112 RX11 yX11_offered wsX11_offered) := goodIn_app (goodIn_of _ (by decide +kernel)) ggL_talks_X11_offered
set_option maxRecDepth 100000 in
set_option maxHeartbeats 8000000 in
theorem ggL_talks_X11_choose : GoodIn wsL_talks wsX11_choose := goodIn_r _ [255, 48, 49, 50, 9, 51, 17, 18, 19, 20, 11, 21, 52, 53, 54, 55, 56, 57, 58, 59, 60, 61, 62, 63, 12, 13, 16, 64, 65, 66, 22, 23, 24, 25, 26, 27, 28, 29, 30, 31, 32, 33, 34, 67, 68, 69, 70, 71, 72, 73, 74, 75, 76, 77, 78, 79, 80, 81, 82, 83, 84, 85, 86, 87, 36, 37, 38, 39, 40, 41, 42, 43, 88, 89, 90, 91, 92, 93, 94, 95, 96, 97, 98, 99, 100, 101, 102, 103, 104, 105, 106, 107, 108, 109, 110, 111, 112, 113, 114, 115, 116, 117, 118, 119, 120, 121, 122, 123, 124, 125, 126, 127, 128, 129, 130, 131, 132, 133, 134, 135, 136, 137, 138, 139, 140, 141, 142, 143, 144, 145, 146, 147, 148, 149, 150, 151, 152, 153, 154, 155, 156, 157, 158, 159, 160, 161, 162, 163, 164, 165, 166, 167, 168, 169, 170, 171, 172, 173, 174, 175, 176, 177, 178, 179, 180, 181, 182, 14, 183, 184, 185, 186, 187, 188, 189, 190, 191, 192, 193, 194, 195, 196, 197, 198, 199, 200, 201, 202, 203, 204, 205, 206, 207, 208, 209, 210, 211, 212, 213, 214, 215, 216, 217, 218, 219, 220, 221, 222, 223, 224, 225, 226, 227, 228, 229, 230, 231, 232, 233, 234, 235, 236, 237, 238, 239, 269, 270, 271, 272, 273, 274, 275, 276, 277, 278, 279, 280, 281, 282, 283, 284, 285, 286, 287, 288, 289, 290, 291, 292, 293, 294, 295, 296, 297, 298, 299, 300, 301, 302, 303, 304, 305, 306, 307, 308, 309, 310, 311, 312, 313, 314, 315, 316, 317, 318, 319, 320, 321, 322, 323, 324, 325, 326] rfl (by decide +kernel)
set_option maxRecDepth 20000 in
theorem gL_talks_X11_choose : GoodIn wsL_talks (wsV RL 115 RX11 yX11_choose wsX11_choose) := goodIn_app (goodIn_of _ (by decide +kernel)) ggL_talks_X11_choose
set_option maxRecDepth 100000 in
set_option maxHeartbeats 8000000 in
theorem ggL_talks_X11_blame : GoodIn wsL_talks wsX11_blame := goodIn_r _ [259, 11, 188, 260, 261, 262, 263, 264, 265, 266, 267, 194, 268, 200, 205, 269, 270, 271, 272, 273, 274, 275, 276, 277, 278, 279, 280, 281, 282, 283, 284, 285, 286, 287, 288, 289, 290, 291, 292, 321, 322, 323, 324, 325, 326] rfl (by decide +kernel)
set_option maxRecDepth 20000 in
theorem gL_talks_X11_blame : GoodIn wsL_talks (wsV RL 118 RX11 yX11_blame wsX11_blame) := goodIn_app (goodIn_of _ (by decide +kernel)) ggL_talks_X11_blame
theorem dL_talks_0 : decode cL_talks 0 = .ok (.iconst 0, 1) := by decide +kernel
theorem dL_talks_1 : decode cL_talks 1 = .ok (.istore 5, 2) := by decide +kernel
theorem dL_talks_3 : decode cL_talks 3 = .ok (.iload 5, 2) := by decide +kernel
theorem dL_talks_5 : decode cL_talks 5 = .ok (.iload 4, 2) := by decide +kernel
theorem dL_talks_7 : decode cL_talks 7 = .ok (.if_icmp .ge 264, 3) := by decide +kernel
theorem dL_talks_10 : decode cL_talks 10 = .ok (.aload_n 2, 1) := by decide +kernel
theorem dL_talks_11 : decode cL_talks 11 = .ok (.iload_n 3, 1) := by decide +kernel
theorem dL_talks_12 : decode cL_talks 12 = .ok (.iload 5, 2) := by decide +kernel
theorem dL_talks_14 : decode cL_talks 14 = .ok (.iadd, 1) := by decide +kernel
theorem dL_talks_15 : decode cL_talks 15 = .ok (.invokestatic 36, 3) := by decide +kernel
theorem dL_talks_18 : decode cL_talks 18 = .ok (.istore 6, 2) := by decide +kernel
theorem dL_talks_20 : decode cL_talks 20 = .ok (.iconst 2, 1) := by decide +kernel
theorem dL_talks_21 : decode cL_talks 21 = .ok (.iload_n 1, 1) := by decide +kernel
theorem dL_talks_22 : decode cL_talks 22 = .ok (.imul, 1) := by decide +kernel
theorem dL_talks_23 : decode cL_talks 23 = .ok (.iload 6, 2) := by decide +kernel
theorem dL_talks_25 : decode cL_talks 25 = .ok (.iconst 1, 1) := by decide +kernel
theorem dL_talks_26 : decode cL_talks 26 = .ok (.iand, 1) := by decide +kernel
theorem dL_talks_27 : decode cL_talks 27 = .ok (.iadd, 1) := by decide +kernel
theorem dL_talks_28 : decode cL_talks 28 = .ok (.istore 7, 2) := by decide +kernel
theorem dL_talks_30 : decode cL_talks 30 = .ok (.aload_n 0, 1) := by decide +kernel
theorem dL_talks_31 : decode cL_talks 31 = .ok (.iload 7, 2) := by decide +kernel
theorem dL_talks_33 : decode cL_talks 33 = .ok (.iconst 0, 1) := by decide +kernel
theorem dL_talks_34 : decode cL_talks 34 = .ok (.invokevirtual 98, 3) := by decide +kernel
theorem dL_talks_37 : decode cL_talks 37 = .ok (.istore 8, 2) := by decide +kernel
theorem dL_talks_39 : decode cL_talks 39 = .ok (.aload_n 0, 1) := by decide +kernel
theorem dL_talks_40 : decode cL_talks 40 = .ok (.iload 7, 2) := by decide +kernel
theorem dL_talks_42 : decode cL_talks 42 = .ok (.iconst 2, 1) := by decide +kernel
theorem dL_talks_43 : decode cL_talks 43 = .ok (.invokevirtual 98, 3) := by decide +kernel
theorem dL_talks_46 : decode cL_talks 46 = .ok (.istore 9, 2) := by decide +kernel
theorem dL_talks_48 : decode cL_talks 48 = .ok (.aload_n 0, 1) := by decide +kernel
theorem dL_talks_49 : decode cL_talks 49 = .ok (.iload 7, 2) := by decide +kernel
theorem dL_talks_51 : decode cL_talks 51 = .ok (.iconst 1, 1) := by decide +kernel
theorem dL_talks_52 : decode cL_talks 52 = .ok (.invokevirtual 98, 3) := by decide +kernel
theorem dL_talks_55 : decode cL_talks 55 = .ok (.istore 10, 2) := by decide +kernel
theorem dL_talks_57 : decode cL_talks 57 = .ok (.aload_n 0, 1) := by decide +kernel
theorem dL_talks_58 : decode cL_talks 58 = .ok (.iload 7, 2) := by decide +kernel
theorem dL_talks_60 : decode cL_talks 60 = .ok (.iconst 5, 1) := by decide +kernel
theorem dL_talks_61 : decode cL_talks 61 = .ok (.invokevirtual 98, 3) := by decide +kernel
theorem dL_talks_64 : decode cL_talks 64 = .ok (.iconst 1, 1) := by decide +kernel
theorem dL_talks_65 : decode cL_talks 65 = .ok (.if_icmp .ne 6, 3) := by decide +kernel
theorem dL_talks_68 : decode cL_talks 68 = .ok (.goto 197, 3) := by decide +kernel
theorem dL_talks_71 : decode cL_talks 71 = .ok (.iconst 0, 1) := by decide +kernel
theorem dL_talks_72 : decode cL_talks 72 = .ok (.istore 11, 2) := by decide +kernel
theorem dL_talks_74 : decode cL_talks 74 = .ok (.iload 10, 2) := by decide +kernel
theorem dL_talks_76 : decode cL_talks 76 = .ok (.ifCond .ne 13, 3) := by decide +kernel
theorem dL_talks_79 : decode cL_talks 79 = .ok (.aload_n 0, 1) := by decide +kernel
theorem dL_talks_80 : decode cL_talks 80 = .ok (.iload 8, 2) := by decide +kernel
theorem dL_talks_82 : decode cL_talks 82 = .ok (.iload 7, 2) := by decide +kernel
theorem dL_talks_84 : decode cL_talks 84 = .ok (.invokevirtual 102, 3) := by decide +kernel
theorem dL_talks_87 : decode cL_talks 87 = .ok (.istore 11, 2) := by decide +kernel
theorem dL_talks_89 : decode cL_talks 89 = .ok (.iload 10, 2) := by decide +kernel
theorem dL_talks_91 : decode cL_talks 91 = .ok (.iconst 1, 1) := by decide +kernel
theorem dL_talks_92 : decode cL_talks 92 = .ok (.if_icmp .ne 19, 3) := by decide +kernel
theorem dL_talks_95 : decode cL_talks 95 = .ok (.aload_n 0, 1) := by decide +kernel
theorem dL_talks_96 : decode cL_talks 96 = .ok (.iload 8, 2) := by decide +kernel
theorem dL_talks_98 : decode cL_talks 98 = .ok (.iload 7, 2) := by decide +kernel
theorem dL_talks_100 : decode cL_talks 100 = .ok (.iload 6, 2) := by decide +kernel
theorem dL_talks_102 : decode cL_talks 102 = .ok (.iconst 1, 1) := by decide +kernel
theorem dL_talks_103 : decode cL_talks 103 = .ok (.ishr, 1) := by decide +kernel
theorem dL_talks_104 : decode cL_talks 104 = .ok (.iconst 1, 1) := by decide +kernel
theorem dL_talks_105 : decode cL_talks 105 = .ok (.iand, 1) := by decide +kernel
theorem dL_talks_106 : decode cL_talks 106 = .ok (.invokevirtual 105, 3) := by decide +kernel
theorem dL_talks_109 : decode cL_talks 109 = .ok (.istore 11, 2) := by decide +kernel
theorem dL_talks_111 : decode cL_talks 111 = .ok (.iload 10, 2) := by decide +kernel
theorem dL_talks_113 : decode cL_talks 113 = .ok (.iconst 2, 1) := by decide +kernel
theorem dL_talks_114 : decode cL_talks 114 = .ok (.if_icmp .ne 13, 3) := by decide +kernel
theorem dL_talks_117 : decode cL_talks 117 = .ok (.aload_n 0, 1) := by decide +kernel
theorem dL_talks_118 : decode cL_talks 118 = .ok (.iload 8, 2) := by decide +kernel
theorem dL_talks_120 : decode cL_talks 120 = .ok (.iload 7, 2) := by decide +kernel
theorem dL_talks_122 : decode cL_talks 122 = .ok (.invokevirtual 109, 3) := by decide +kernel
theorem dL_talks_125 : decode cL_talks 125 = .ok (.istore 11, 2) := by decide +kernel
theorem dL_talks_127 : decode cL_talks 127 = .ok (.iload 10, 2) := by decide +kernel
theorem dL_talks_129 : decode cL_talks 129 = .ok (.iconst 4, 1) := by decide +kernel
theorem dL_talks_130 : decode cL_talks 130 = .ok (.if_icmp .ne 13, 3) := by decide +kernel
theorem dL_talks_133 : decode cL_talks 133 = .ok (.aload_n 0, 1) := by decide +kernel
theorem dL_talks_134 : decode cL_talks 134 = .ok (.iload 8, 2) := by decide +kernel
theorem dL_talks_136 : decode cL_talks 136 = .ok (.iload 7, 2) := by decide +kernel
theorem dL_talks_138 : decode cL_talks 138 = .ok (.invokevirtual 112, 3) := by decide +kernel
theorem dL_talks_141 : decode cL_talks 141 = .ok (.istore 11, 2) := by decide +kernel
theorem dL_talks_143 : decode cL_talks 143 = .ok (.iload 10, 2) := by decide +kernel
theorem dL_talks_145 : decode cL_talks 145 = .ok (.iconst 3, 1) := by decide +kernel
theorem dL_talks_146 : decode cL_talks 146 = .ok (.if_icmp .ne 49, 3) := by decide +kernel
theorem dL_talks_149 : decode cL_talks 149 = .ok (.iload 6, 2) := by decide +kernel
theorem dL_talks_151 : decode cL_talks 151 = .ok (.iconst 2, 1) := by decide +kernel
theorem dL_talks_152 : decode cL_talks 152 = .ok (.ishr, 1) := by decide +kernel
theorem dL_talks_153 : decode cL_talks 153 = .ok (.bipush 26, 2) := by decide +kernel
theorem dL_talks_155 : decode cL_talks 155 = .ok (.irem, 1) := by decide +kernel
theorem dL_talks_156 : decode cL_talks 156 = .ok (.istore 12, 2) := by decide +kernel
theorem dL_talks_158 : decode cL_talks 158 = .ok (.iload 9, 2) := by decide +kernel
theorem dL_talks_160 : decode cL_talks 160 = .ok (.iload 12, 2) := by decide +kernel
theorem dL_talks_162 : decode cL_talks 162 = .ok (.ishr, 1) := by decide +kernel
theorem dL_talks_163 : decode cL_talks 163 = .ok (.iconst 1, 1) := by decide +kernel
theorem dL_talks_164 : decode cL_talks 164 = .ok (.iand, 1) := by decide +kernel
theorem dL_talks_165 : decode cL_talks 165 = .ok (.ifCond .ne 15, 3) := by decide +kernel
theorem dL_talks_168 : decode cL_talks 168 = .ok (.iload 12, 2) := by decide +kernel
theorem dL_talks_170 : decode cL_talks 170 = .ok (.iconst 1, 1) := by decide +kernel
theorem dL_talks_171 : decode cL_talks 171 = .ok (.iadd, 1) := by decide +kernel
theorem dL_talks_172 : decode cL_talks 172 = .ok (.bipush 26, 2) := by decide +kernel
theorem dL_talks_174 : decode cL_talks 174 = .ok (.irem, 1) := by decide +kernel
theorem dL_talks_175 : decode cL_talks 175 = .ok (.istore 12, 2) := by decide +kernel
theorem dL_talks_177 : decode cL_talks 177 = .ok (.goto (-19), 3) := by decide +kernel
theorem dL_talks_180 : decode cL_talks 180 = .ok (.aload_n 0, 1) := by decide +kernel
theorem dL_talks_181 : decode cL_talks 181 = .ok (.iload 8, 2) := by decide +kernel
theorem dL_talks_183 : decode cL_talks 183 = .ok (.iload 7, 2) := by decide +kernel
theorem dL_talks_185 : decode cL_talks 185 = .ok (.iload 12, 2) := by decide +kernel
theorem dL_talks_187 : decode cL_talks 187 = .ok (.bipush 97, 2) := by decide +kernel
theorem dL_talks_189 : decode cL_talks 189 = .ok (.iadd, 1) := by decide +kernel
theorem dL_talks_190 : decode cL_talks 190 = .ok (.invokevirtual 115, 3) := by decide +kernel
theorem dL_talks_193 : decode cL_talks 193 = .ok (.istore 11, 2) := by decide +kernel
theorem dL_talks_195 : decode cL_talks 195 = .ok (.iload 11, 2) := by decide +kernel
theorem dL_talks_197 : decode cL_talks 197 = .ok (.bipush (-6), 2) := by decide +kernel
theorem dL_talks_199 : decode cL_talks 199 = .ok (.if_icmp .ne 14, 3) := by decide +kernel
theorem dL_talks_202 : decode cL_talks 202 = .ok (.aload_n 0, 1) := by decide +kernel
theorem dL_talks_203 : decode cL_talks 203 = .ok (.iconst 2, 1) := by decide +kernel
theorem dL_talks_204 : decode cL_talks 204 = .ok (.invokevirtual 118, 3) := by decide +kernel
theorem dL_talks_207 : decode cL_talks 207 = .ok (.iconst 3, 1) := by decide +kernel
theorem dL_talks_208 : decode cL_talks 208 = .ok (.if_icmp .eq 5, 3) := by decide +kernel
theorem dL_talks_211 : decode cL_talks 211 = .ok (.iconst 0, 1) := by decide +kernel
theorem dL_talks_212 : decode cL_talks 212 = .ok (.ireturn, 1) := by decide +kernel
theorem dL_talks_213 : decode cL_talks 213 = .ok (.iload 11, 2) := by decide +kernel
theorem dL_talks_215 : decode cL_talks 215 = .ok (.bipush (-6), 2) := by decide +kernel
theorem dL_talks_217 : decode cL_talks 217 = .ok (.if_icmp .ne 23, 3) := by decide +kernel
theorem dL_talks_220 : decode cL_talks 220 = .ok (.aload_n 0, 1) := by decide +kernel
theorem dL_talks_221 : decode cL_talks 221 = .ok (.iconst 5, 1) := by decide +kernel
theorem dL_talks_222 : decode cL_talks 222 = .ok (.invokevirtual 118, 3) := by decide +kernel
theorem dL_talks_225 : decode cL_talks 225 = .ok (.aload_n 0, 1) := by decide +kernel
theorem dL_talks_226 : decode cL_talks 226 = .ok (.bipush 6, 2) := by decide +kernel
theorem dL_talks_228 : decode cL_talks 228 = .ok (.invokevirtual 118, 3) := by decide +kernel
theorem dL_talks_231 : decode cL_talks 231 = .ok (.if_icmp .ne 7, 3) := by decide +kernel
theorem dL_talks_234 : decode cL_talks 234 = .ok (.iconst 1, 1) := by decide +kernel
theorem dL_talks_235 : decode cL_talks 235 = .ok (.goto 4, 3) := by decide +kernel
theorem dL_talks_238 : decode cL_talks 238 = .ok (.iconst 0, 1) := by decide +kernel
theorem dL_talks_239 : decode cL_talks 239 = .ok (.ireturn, 1) := by decide +kernel
theorem dL_talks_240 : decode cL_talks 240 = .ok (.iload 11, 2) := by decide +kernel
theorem dL_talks_242 : decode cL_talks 242 = .ok (.bipush (-4), 2) := by decide +kernel
theorem dL_talks_244 : decode cL_talks 244 = .ok (.if_icmp .eq 8, 3) := by decide +kernel
theorem dL_talks_247 : decode cL_talks 247 = .ok (.iload 11, 2) := by decide +kernel
theorem dL_talks_249 : decode cL_talks 249 = .ok (.ifCond .lt 14, 3) := by decide +kernel
theorem dL_talks_252 : decode cL_talks 252 = .ok (.aload_n 0, 1) := by decide +kernel
theorem dL_talks_253 : decode cL_talks 253 = .ok (.iload 7, 2) := by decide +kernel
theorem dL_talks_255 : decode cL_talks 255 = .ok (.iconst 3, 1) := by decide +kernel
theorem dL_talks_256 : decode cL_talks 256 = .ok (.invokevirtual 98, 3) := by decide +kernel
theorem dL_talks_259 : decode cL_talks 259 = .ok (.iconst 4, 1) := by decide +kernel
theorem dL_talks_260 : decode cL_talks 260 = .ok (.if_icmp .le 5, 3) := by decide +kernel
theorem dL_talks_263 : decode cL_talks 263 = .ok (.iconst 0, 1) := by decide +kernel
theorem dL_talks_264 : decode cL_talks 264 = .ok (.ireturn, 1) := by decide +kernel
theorem dL_talks_265 : decode cL_talks 265 = .ok (.iinc 5 1, 3) := by decide +kernel
theorem dL_talks_268 : decode cL_talks 268 = .ok (.goto (-265), 3) := by decide +kernel
theorem dL_talks_271 : decode cL_talks 271 = .ok (.iconst 1, 1) := by decide +kernel
theorem dL_talks_272 : decode cL_talks 272 = .ok (.ireturn, 1) := by decide +kernel
set_option maxRecDepth 100000 in
set_option maxHeartbeats 8000000 in
theorem ggL_law_X11_init : GoodIn wsL_law wsX11_init := goodIn_r _ [9, 10, 11, 12, 13, 14, 15, 16, 17, 18, 19, 20, 21, 22, 23, 24, 25, 26, 27, 28, 29, 30, 31, 32, 33, 34, 35, 36, 37, 38, 39, 40, 41, 42, 43, 44, 45, 46, 47, 48, 49, 50, 51, 52, 53, 54, 55, 56, 57, 58, 59, 60, 61, 62, 63, 64, 65, 66, 67, 68, 69, 70, 71, 72, 73, 74, 75, 76, 77, 78, 79, 80, 81, 82, 83, 84, 85, 86, 87, 88, 89, 90, 91, 92, 93, 94, 95, 96, 97, 98, 99, 100, 101, 102, 103, 104, 105, 106, 107, 108, 109, 110, 111, 112, 113, 114, 115, 116, 117, 118, 119, 120, 121, 122, 123, 124, 125, 126, 127, 128, 129, 130, 131, 132, 133, 134, 135, 136, 137, 138, 139, 937, 938, 939, 940, 941, 942, 943, 944, 945, 946, 947, 948, 949, 954, 955, 956, 957, 958, 959, 960, 961, 962, 963, 964, 965, 966, 967, 968, 969, 970, 971, 972, 973, 974, 975, 976, 977, 978, 979, 980, 981, 982, 983, 984, 985, 986, 987, 988, 989, 990, 991, 992, 993, 994, 995, 996, 997, 998, 999, 1000, 1001, 1002, 1003, 1004, 1005, 1006, 1007, 1008, 1009, 1010, 1011, 1012, 1013, 1014, 1015, 1016, 1017, 1018, 1019, 1020, 1021, 1022, 1023, 1024, 1025, 1026, 1027, 1028, 1029] rfl (by decide +kernel)
set_option maxRecDepth 20000 in
theorem gL_law_X11_init : GoodIn wsL_law (wsX11_init) := ggL_law_X11_init
set_option maxRecDepth 100000 in
set_option maxHeartbeats 8000000 in
theorem ggL_law_L_made_ : GoodIn wsL_law wsL_made_ := goodIn_r _ [143, 15, 144, 145, 142, 146, 4, 5, 6, 147, 148, 149, 150, 151, 152, 153, 154, 155, 156, 157, 158, 159, 160, 161, 162, 163, 164, 165, 166, 167, 168, 169, 170, 11, 12, 171, 109, 172, 173, 174, 175, 176, 177, 178, 179, 180, 181, 182, 183, 184, 185, 186, 187, 188, 189, 190, 191, 192, 193, 194, 195, 196, 197, 198, 199, 200, 201, 202, 203, 204, 205, 206, 207, 208, 209, 210, 211, 212, 213, 214, 215, 216, 217, 218, 219, 220, 221, 222, 223, 224, 225, 226, 227, 228, 229, 230, 231, 232, 233, 234, 235, 236, 237, 238, 239, 240, 241, 242, 243, 244, 245, 246, 247, 248, 249, 250, 251, 252, 253, 254, 255, 256, 257, 258, 259, 260, 261, 262, 263, 264, 265, 266, 267, 268, 269, 270, 271, 272, 273, 274, 275, 276, 277, 278, 279, 280, 281, 282, 283, 284, 285, 286, 287, 288, 289, 290, 291, 292, 293, 294, 295, 296, 297, 298, 299, 300, 301, 302, 303, 304, 305, 306, 307, 308, 309, 310, 311, 312, 313, 314, 315, 316, 317, 318, 319, 320, 321, 322, 323, 324, 325, 326, 327, 328, 329, 330, 331, 332, 333, 334, 335, 336, 337, 338, 339, 340, 341, 342, 343, 344, 345, 346, 347, 348, 349, 350, 351, 352, 353, 354, 355, 356, 357, 358, 359, 360, 361, 362, 363, 364, 365, 366, 367, 368, 369, 370, 371, 372, 373, 374, 375, 376, 377, 378, 379, 380, 381, 382, 383, 384, 385, 386, 387, 388, 389, 390, 391, 392, 393, 394, 395, 950, 951, 952, 953, 1030, 1031, 1032, 1033] rfl (by decide +kernel)
set_option maxRecDepth 20000 in
theorem gL_law_L_made_ : GoodIn wsL_law (va_wsS RL 122 yL_made_ wsL_made_) := goodIn_app (goodIn_of _ (by decide +kernel)) ggL_law_L_made_
set_option maxRecDepth 100000 in
set_option maxHeartbeats 8000000 in
theorem ggL_law_L_cell : GoodIn wsL_law wsL_cell := goodIn_r _ [149, 150] rfl (by decide +kernel)
set_option maxRecDepth 20000 in
theorem gL_law_L_cell : GoodIn wsL_law (va_wsS RL 36 yL_cell wsL_cell) := goodIn_app (goodIn_of _ (by decide +kernel)) ggL_law_L_cell
set_option maxRecDepth 100000 in
set_option maxHeartbeats 8000000 in
theorem ggL_law_J4_init_da8c8 : GoodIn wsL_law wsJ4_init_da8c8 := goodIn_r _ [165, 166, 167, 168, 169, 170, 11, 12, 171, 109, 172, 173, 174, 175, 176, 177, 178, 179, 180, 181, 950, 951, 952, 953] rfl (by decide +kernel)
set_option maxRecDepth 20000 in
theorem gL_law_J4_init_da8c8 : GoodIn wsL_law (wsJ4_init_da8c8) := ggL_law_J4_init_da8c8
set_option maxRecDepth 100000 in
set_option maxHeartbeats 8000000 in
theorem ggL_law_J4_append_15ec4 : GoodIn wsL_law wsJ4_append_15ec4 := goodIn_r _ [185, 186, 187, 188, 189, 168, 190, 191, 192, 193, 194, 195, 196, 172, 197, 198, 199, 200, 201, 173, 202, 203, 204, 205, 206, 207, 208, 209, 210, 211, 212, 213, 214, 215, 216, 217, 218, 219, 220, 221, 222, 223, 224, 225, 226, 227, 228, 229, 109, 230, 231, 232, 233, 234, 235, 236, 237, 238, 239, 240, 241, 171, 242, 243, 176, 244, 245, 246, 247, 248, 249, 250, 251, 252, 253, 154, 254, 255, 256, 257, 258, 259, 260, 261, 262, 263, 264, 265, 152, 153, 155, 156, 157, 158, 159, 160, 161, 162, 266, 267, 268, 269, 270, 271, 272, 273, 274, 275, 276, 277, 278, 279, 280, 281, 174, 175, 177, 178, 179, 180, 181, 282, 283, 284, 285, 286, 287, 288, 289, 290, 291, 292, 293, 294, 295, 296, 297, 298, 299, 300, 301, 302, 303, 950, 951, 952, 953, 1030, 1031, 1032, 1033] rfl (by decide +kernel)
set_option maxRecDepth 20000 in
theorem gL_law_J4_append_15ec4 : GoodIn wsL_law (wsV RL 45 RJ4 yJ4_append_15ec4 wsJ4_append_15ec4) := goodIn_app (goodIn_of _ (by decide +kernel)) ggL_law_J4_append_15ec4
set_option maxRecDepth 100000 in
set_option maxHeartbeats 8000000 in
theorem ggL_law_J4_toString_0e30d : GoodIn wsL_law wsJ4_toString_0e30d := goodIn_r _ [348, 349, 350, 154, 351, 352, 353, 354, 355, 356, 357, 11, 12, 162, 156, 161, 358, 359, 360, 361, 362, 168, 363, 172, 364, 365, 366, 367, 368, 6, 369, 370, 188, 371, 372, 191, 373, 238, 239, 240, 241, 171, 173, 374, 375, 222, 376, 224, 225, 226, 227, 228, 229, 377, 378, 379, 109, 230, 231, 214, 232, 233, 234, 235, 236, 380, 381, 382, 383, 384, 176, 385, 386, 387, 388, 289, 290, 291, 249, 250, 251, 292, 293, 294, 255, 295, 296, 258, 297, 328, 329, 330, 245, 263, 264, 178, 179, 180, 181, 389, 390, 391, 392, 1030, 1031, 1032, 1033, 950, 951, 952, 953] rfl (by decide +kernel)
set_option maxRecDepth 20000 in
theorem gL_law_J4_toString_0e30d : GoodIn wsL_law (wsV RL 52 RJ4 yJ4_toString_0e30d wsJ4_toString_0e30d) := goodIn_app (goodIn_of _ (by decide +kernel)) ggL_law_J4_toString_0e30d
set_option maxRecDepth 100000 in
set_option maxHeartbeats 8000000 in
theorem ggL_law_L_nodes : GoodIn wsL_law wsL_nodes := goodIn_r _ [398, 151, 152, 153, 154, 155, 156, 157, 158, 159, 160, 161, 162, 304, 305, 306, 307, 308, 309, 310, 311, 312, 313, 284, 314, 315, 316, 317, 255, 318, 319, 258, 320, 321, 322, 176, 323, 324, 325, 326, 249, 250, 251, 327, 328, 329, 330, 245, 263, 264, 1030, 1031, 1032, 1033] rfl (by decide +kernel)
set_option maxRecDepth 20000 in
theorem gL_law_L_nodes : GoodIn wsL_law (va_wsS RL 127 yL_nodes wsL_nodes) := goodIn_app (goodIn_of _ (by decide +kernel)) ggL_law_L_nodes
set_option maxRecDepth 100000 in
set_option maxHeartbeats 8000000 in
theorem ggL_law_L_told : GoodIn wsL_law wsL_told := goodIn_r _ [401, 402, 403, 142, 404, 151, 152, 153, 154, 155, 156, 157, 158, 159, 160, 161, 162, 304, 305, 306, 307, 308, 309, 310, 311, 312, 313, 284, 314, 315, 316, 317, 255, 318, 319, 258, 320, 321, 322, 176, 323, 324, 325, 326, 249, 250, 251, 327, 328, 329, 330, 245, 263, 264, 405, 406, 407, 2, 408, 409, 16, 410, 411, 412, 413, 45, 414, 415, 416, 417, 418, 419, 14, 420, 421, 422, 44, 423, 424, 121, 425, 426, 427, 428, 429, 430, 431, 432, 433, 434, 435, 436, 437, 438, 439, 20, 13, 51, 52, 440, 441, 442, 443, 444, 19, 445, 55, 446, 231, 214, 232, 447, 448, 53, 449, 450, 451, 452, 453, 454, 455, 456, 457, 458, 459, 460, 461, 462, 463, 464, 54, 465, 466, 467, 468, 469, 470, 471, 472, 473, 474, 475, 476, 477, 478, 479, 480, 481, 482, 60, 483, 484, 485, 486, 62, 487, 488, 489, 490, 491, 492, 493, 494, 495, 496, 497, 498, 499, 500, 501, 502, 503, 504, 505, 506, 507, 508, 509, 63, 510, 511, 512, 513, 514, 515, 516, 517, 518, 519, 520, 521, 522, 523, 524, 525, 526, 527, 528, 529, 530, 66, 531, 532, 533, 59, 11, 12, 534, 61, 64, 65, 67, 535, 536, 222, 537, 538, 539, 226, 227, 540, 541, 15, 230, 233, 234, 235, 236, 1030, 1031, 1032, 1033, 937, 938, 939, 940, 941, 942, 943, 944, 945, 946, 947, 948, 949, 991, 992, 993, 994, 995, 996, 997, 998, 999, 1000, 1001, 1022, 1023, 1024, 1025, 1026, 1027, 1028, 1029, 1002, 1003, 1004, 1005, 1006, 1007, 1008, 1009, 1010, 954, 955, 956, 957, 958] rfl (by decide +kernel)
set_option maxRecDepth 20000 in
theorem gL_law_L_told : GoodIn wsL_law (va_wsS RL 131 yL_told wsL_told) := goodIn_app (goodIn_of _ (by decide +kernel)) ggL_law_L_told
set_option maxRecDepth 100000 in
set_option maxHeartbeats 8000000 in
theorem ggL_law_X11_dual : GoodIn wsL_law wsX11_dual := goodIn_r _ [545, 14, 441, 546, 547, 548, 2, 549, 550, 551, 552, 52, 553, 554, 51, 60, 64, 555, 532, 533, 59, 11, 12, 534, 61, 62, 63, 65, 66, 67, 535, 536, 222, 537, 538, 539, 226, 227, 540, 541, 15, 230, 231, 214, 232, 233, 234, 235, 236, 556, 557, 558, 937, 938, 939, 940, 941, 942, 943, 944, 945, 946, 947, 948, 949, 1002, 1003, 1004, 1005, 1006, 1007, 1008, 1009, 1010] rfl (by decide +kernel)
set_option maxRecDepth 20000 in
theorem gL_law_X11_dual : GoodIn wsL_law (wsV RL 135 RX11 yX11_dual wsX11_dual) := goodIn_app (goodIn_of _ (by decide +kernel)) ggL_law_X11_dual
set_option maxRecDepth 100000 in
set_option maxHeartbeats 8000000 in
theorem ggL_law_X11_fits : GoodIn wsL_law wsX11_fits := goodIn_r _ [562, 32, 546, 547, 548, 2, 549, 14, 563, 564, 565, 52, 566, 67, 567, 568, 569, 31, 570, 90, 571, 91, 572, 573, 222, 574, 575, 576, 577, 578, 579, 580, 581, 582, 583, 480, 481, 482, 60, 584, 585, 586, 587, 61, 588, 589, 590, 591, 65, 592, 593, 594, 595, 66, 596, 507, 508, 509, 63, 597, 598, 599, 937, 938, 939, 940, 941, 942, 943, 944, 945, 946, 947, 948, 949, 1002, 1003, 1004, 1005, 1006, 1007, 1008, 1009, 1010, 965, 966, 967] rfl (by decide +kernel)
set_option maxRecDepth 20000 in
theorem gL_law_X11_fits : GoodIn wsL_law (wsV RL 138 RX11 yX11_fits wsX11_fits) := goodIn_app (goodIn_of _ (by decide +kernel)) ggL_law_X11_fits
set_option maxRecDepth 100000 in
set_option maxHeartbeats 8000000 in
theorem ggL_law_X11_witness : GoodIn wsL_law wsX11_witness := goodIn_r _ [603, 36, 604, 546, 547, 548, 2, 549, 14, 563, 564, 565, 52, 566, 67, 605, 606, 607, 35, 608, 97, 609, 610, 98, 101, 611, 573, 222, 574, 612, 613, 614, 615, 99, 100, 616, 617, 618, 619, 480, 481, 482, 60, 620, 585, 586, 587, 61, 621, 507, 508, 509, 63, 622, 598, 31, 599, 623, 589, 590, 591, 65, 624, 568, 569, 570, 90, 571, 91, 572, 575, 576, 577, 578, 579, 580, 581, 582, 583, 584, 588, 592, 593, 594, 595, 66, 596, 597, 625, 626, 627, 628, 96, 629, 630, 631, 632, 633, 634, 635, 636, 637, 638, 639, 640, 641, 515, 516, 517, 518, 519, 520, 937, 938, 939, 940, 941, 942, 943, 944, 945, 946, 947, 948, 949, 968, 969, 970, 971, 972, 973, 974, 975, 1002, 1003, 1004, 1005, 1006, 1007, 1008, 1009, 1010, 965, 966, 967] rfl (by decide +kernel)
set_option maxRecDepth 20000 in
theorem gL_law_X11_witness : GoodIn wsL_law (wsV RL 141 RX11 yX11_witness wsX11_witness) := goodIn_app (goodIn_of _ (by decide +kernel)) ggL_law_X11_witness
set_option maxRecDepth 100000 in
set_option maxHeartbeats 8000000 in
theorem ggL_law_X11_meet : GoodIn wsL_law wsX11_meet := goodIn_r _ [645, 40, 646, 647, 648, 649, 650, 546, 547, 548, 2, 549, 14, 651, 652, 653, 39, 654, 112, 655, 656, 657, 106, 107, 658, 659, 660, 661, 108, 110, 113, 114, 662, 663, 664, 665, 666, 667, 222, 668, 669, 670, 671, 672, 564, 565, 52, 566, 67, 673, 674, 675, 676, 677, 678, 679, 680, 681, 682, 683, 684, 685, 686, 687, 688, 689, 690, 213, 214, 215, 691, 692, 693, 694, 695, 696, 697, 115, 698, 480, 481, 482, 60, 699, 507, 508, 509, 63, 700, 585, 586, 587, 61, 701, 589, 590, 591, 65, 702, 568, 569, 31, 570, 90, 571, 91, 572, 573, 574, 575, 576, 577, 578, 579, 580, 581, 582, 583, 584, 588, 592, 593, 594, 595, 66, 596, 597, 598, 599, 703, 704, 705, 706, 707, 635, 636, 637, 638, 639, 640, 641, 515, 516, 517, 518, 519, 520, 708, 709, 710, 711, 712, 713, 714, 715, 716, 717, 718, 719, 720, 937, 938, 939, 940, 941, 942, 943, 944, 945, 946, 947, 948, 949, 976, 977, 978, 979, 980, 981, 982, 983, 984, 985, 986, 987, 988, 989, 990, 1002, 1003, 1004, 1005, 1006, 1007, 1008, 1009, 1010, 965, 966, 967] rfl (by decide +kernel)
set_option maxRecDepth 20000 in
theorem gL_law_X11_meet : GoodIn wsL_law (wsV RL 144 RX11 yX11_meet wsX11_meet) := goodIn_app (goodIn_of _ (by decide +kernel)) ggL_law_X11_meet
set_option maxRecDepth 100000 in
set_option maxHeartbeats 8000000 in
theorem ggL_law_X11_bound : GoodIn wsL_law wsX11_bound := goodIn_r _ [724, 41, 546, 547, 548, 2, 549, 14, 725, 726, 727, 52, 728, 534, 729, 231, 214, 232, 730, 213, 215, 731, 667, 222, 668, 732, 733, 734, 735, 64, 638, 480, 481, 482, 60, 736, 737, 738, 739, 640, 507, 508, 509, 63, 641, 515, 516, 517, 518, 519, 520, 639, 593, 594, 595, 66, 67, 937, 938, 939, 940, 941, 942, 943, 944, 945, 946, 947, 948, 949, 1002, 1003, 1004, 1005, 1006, 1007, 1008, 1009, 1010] rfl (by decide +kernel)
set_option maxRecDepth 20000 in
theorem gL_law_X11_bound : GoodIn wsL_law (wsV RL 148 RX11 yX11_bound wsX11_bound) := goodIn_app (goodIn_of _ (by decide +kernel)) ggL_law_X11_bound
set_option maxRecDepth 100000 in
set_option maxHeartbeats 8000000 in
theorem ggL_law_X11_ask : GoodIn wsL_law wsX11_ask := goodIn_r _ [743, 441, 546, 547, 548, 2, 549, 14, 744, 745, 746, 52, 747, 534, 732, 733, 734, 735, 64, 638, 480, 481, 482, 60, 748, 749, 750, 751, 41, 752, 753, 754, 755, 756, 32, 567, 568, 569, 31, 570, 90, 571, 91, 572, 573, 222, 574, 575, 576, 577, 578, 579, 580, 581, 582, 583, 584, 585, 586, 587, 61, 588, 589, 590, 591, 65, 67, 592, 593, 594, 595, 66, 596, 507, 508, 509, 63, 597, 598, 599, 757, 758, 759, 760, 563, 564, 565, 566, 761, 762, 1002, 1003, 1004, 1005, 1006, 1007, 1008, 1009, 1010, 937, 938, 939, 940, 941, 942, 943, 944, 945, 946, 947, 948, 949, 965, 966, 967] rfl (by decide +kernel)
set_option maxRecDepth 20000 in
theorem gL_law_X11_ask : GoodIn wsL_law (wsV RL 151 RX11 yX11_ask wsX11_ask) := goodIn_app (goodIn_of _ (by decide +kernel)) ggL_law_X11_ask
set_option maxRecDepth 100000 in
set_option maxHeartbeats 8000000 in
theorem ggL_law_X11_size : GoodIn wsL_law wsX11_size := goodIn_r _ [766, 45, 415, 937, 938, 939, 940, 941, 942, 943, 944, 945, 946, 947, 948, 949, 991, 992, 993, 994, 995, 996, 997, 998, 999, 1000, 1001] rfl (by decide +kernel)
set_option maxRecDepth 20000 in
theorem gL_law_X11_size : GoodIn wsL_law (wsV RL 154 RX11 yX11_size wsX11_size) := goodIn_app (goodIn_of _ (by decide +kernel)) ggL_law_X11_size
set_option maxRecDepth 100000 in
set_option maxHeartbeats 8000000 in
theorem ggL_law_X11_open : GoodIn wsL_law wsX11_open := goodIn_r _ [770, 45, 414, 771, 546, 547, 548, 2, 549, 14, 772, 773, 774, 775, 776, 777, 778, 130, 779, 138, 780, 781, 782, 783, 784, 785, 786, 564, 565, 52, 566, 67, 550, 551, 552, 553, 554, 51, 60, 64, 555, 532, 533, 59, 11, 12, 534, 61, 62, 63, 65, 66, 535, 536, 222, 537, 538, 539, 226, 227, 540, 541, 15, 230, 231, 214, 232, 233, 234, 235, 236, 556, 557, 558, 937, 938, 939, 940, 941, 942, 943, 944, 945, 946, 947, 948, 949, 991, 992, 993, 994, 995, 996, 997, 998, 999, 1000, 1001, 1022, 1023, 1024, 1025, 1026, 1027, 1028, 1029, 1002, 1003, 1004, 1005, 1006, 1007, 1008, 1009, 1010] rfl (by decide +kernel)
set_option maxRecDepth 20000 in
theorem gL_law_X11_open : GoodIn wsL_law (wsV RL 157 RX11 yX11_open wsX11_open) := goodIn_app (goodIn_of _ (by decide +kernel)) ggL_law_X11_open
set_option maxRecDepth 100000 in
set_option maxHeartbeats 8000000 in
theorem ggL_law_L_talks : GoodIn wsL_law wsL_talks := goodIn_r _ [789, 147, 148, 142, 149, 150, 790, 791, 792, 2, 793, 45, 771, 794, 795, 796, 797, 798, 799, 800, 801, 414, 802, 803, 804, 130, 805, 780, 781, 806, 480, 481, 52, 482, 60, 807, 808, 809, 810, 811, 507, 508, 509, 63, 812, 813, 814, 815, 772, 773, 774, 775, 816, 817, 818, 819, 820, 821, 822, 823, 824, 825, 826, 827, 828, 36, 829, 830, 831, 832, 833, 834, 835, 836, 837, 585, 586, 587, 61, 838, 839, 840, 841, 842, 843, 844, 845, 846, 847, 848, 849, 850, 851, 589, 590, 591, 65, 67, 605, 606, 607, 35, 608, 97, 609, 610, 98, 101, 611, 573, 222, 574, 612, 613, 614, 615, 99, 100, 616, 617, 618, 619, 620, 621, 622, 598, 31, 599, 623, 624, 568, 569, 570, 90, 571, 91, 572, 575, 576, 577, 578, 579, 580, 581, 582, 583, 584, 588, 592, 593, 594, 595, 66, 596, 597, 625, 626, 627, 628, 96, 629, 630, 631, 632, 633, 634, 635, 636, 637, 638, 639, 640, 641, 515, 516, 517, 518, 519, 520, 852, 853, 854, 855, 415, 856, 857, 858, 859, 860, 861, 862, 863, 864, 865, 126, 866, 867, 868, 869, 870, 871, 872, 873, 874, 875, 134, 876, 877, 878, 879, 880, 881, 882, 883, 884, 885, 886, 887, 888, 784, 139, 889, 890, 891, 892, 785, 893, 213, 214, 215, 894, 895, 896, 897, 898, 899, 900, 901, 902, 903, 904, 905, 906, 907, 908, 909, 910, 911, 912, 913, 914, 915, 916, 917, 918, 919, 920, 921, 922, 923, 924, 925, 926, 927, 928, 929, 930, 931, 932, 937, 938, 939, 940, 941, 942, 943, 944, 945, 946, 947, 948, 949, 991, 992, 993, 994, 995, 996, 997, 998, 999, 1000, 1001, 1022, 1023, 1024, 1025, 1026, 1027, 1028, 1029, 1002, 1003, 1004, 1005, 1006, 1007, 1008, 1009, 1010, 968, 969, 970, 971, 972, 973, 974, 975, 965, 966, 967, 1016, 1017, 1018, 1019, 1020, 1021] rfl (by decide +kernel)
set_option maxRecDepth 20000 in
theorem gL_law_L_talks : GoodIn wsL_law (va_wsS RL 160 yL_talks wsL_talks) := goodIn_app (goodIn_of _ (by decide +kernel)) ggL_law_L_talks
set_option maxRecDepth 100000 in
set_option maxHeartbeats 8000000 in
theorem ggL_law_X11_count : GoodIn wsL_law wsX11_count := goodIn_r _ [413, 45, 414, 409, 415, 416, 417, 418, 2, 419, 14, 420, 421, 422, 44, 423, 424, 121, 425, 426, 427, 428, 429, 430, 431, 432, 433, 434, 435, 937, 938, 939, 940, 941, 942, 943, 944, 945, 946, 947, 948, 949, 991, 992, 993, 994, 995, 996, 997, 998, 999, 1000, 1001, 1022, 1023, 1024, 1025, 1026, 1027, 1028, 1029] rfl (by decide +kernel)
set_option maxRecDepth 20000 in
theorem gL_law_X11_count : GoodIn wsL_law (wsV RL 24 RX11 yX11_count wsX11_count) := goodIn_app (goodIn_of _ (by decide +kernel)) ggL_law_X11_count
set_option maxRecDepth 100000 in
set_option maxHeartbeats 8000000 in
theorem ggL_law_X11_led : GoodIn wsL_law wsX11_led := goodIn_r _ [936, 45, 820, 823, 821, 822, 898, 884, 937, 938, 939, 940, 941, 942, 943, 944, 945, 946, 947, 948, 949, 991, 992, 993, 994, 995, 996, 997, 998, 999, 1000, 1001] rfl (by decide +kernel)
set_option maxRecDepth 20000 in
theorem gL_law_X11_led : GoodIn wsL_law (wsV RL 164 RX11 yX11_led wsX11_led) := goodIn_app (goodIn_of _ (by decide +kernel)) ggL_law_X11_led
theorem dL_law_0 : decode cL_law 0 = .ok (.new 19, 3) := by decide +kernel
theorem dL_law_3 : decode cL_law 3 = .ok (.dup, 1) := by decide +kernel
theorem dL_law_4 : decode cL_law 4 = .ok (.invokespecial 121, 3) := by decide +kernel
theorem dL_law_7 : decode cL_law 7 = .ok (.astore_n 1, 1) := by decide +kernel
theorem dL_law_8 : decode cL_law 8 = .ok (.aload_n 0, 1) := by decide +kernel
theorem dL_law_9 : decode cL_law 9 = .ok (.iconst 0, 1) := by decide +kernel
theorem dL_law_10 : decode cL_law 10 = .ok (.iconst 0, 1) := by decide +kernel
theorem dL_law_11 : decode cL_law 11 = .ok (.iconst 3, 1) := by decide +kernel
theorem dL_law_12 : decode cL_law 12 = .ok (.invokestatic 122, 3) := by decide +kernel
theorem dL_law_15 : decode cL_law 15 = .ok (.astore_n 2, 1) := by decide +kernel
theorem dL_law_16 : decode cL_law 16 = .ok (.aload_n 0, 1) := by decide +kernel
theorem dL_law_17 : decode cL_law 17 = .ok (.iconst 0, 1) := by decide +kernel
theorem dL_law_18 : decode cL_law 18 = .ok (.iconst 1, 1) := by decide +kernel
theorem dL_law_19 : decode cL_law 19 = .ok (.iconst 3, 1) := by decide +kernel
theorem dL_law_20 : decode cL_law 20 = .ok (.invokestatic 122, 3) := by decide +kernel
theorem dL_law_23 : decode cL_law 23 = .ok (.astore_n 3, 1) := by decide +kernel
theorem dL_law_24 : decode cL_law 24 = .ok (.aload_n 0, 1) := by decide +kernel
theorem dL_law_25 : decode cL_law 25 = .ok (.bipush 24, 2) := by decide +kernel
theorem dL_law_27 : decode cL_law 27 = .ok (.aload_n 0, 1) := by decide +kernel
theorem dL_law_28 : decode cL_law 28 = .ok (.bipush 23, 2) := by decide +kernel
theorem dL_law_30 : decode cL_law 30 = .ok (.invokestatic 36, 3) := by decide +kernel
theorem dL_law_33 : decode cL_law 33 = .ok (.iconst 1, 1) := by decide +kernel
theorem dL_law_34 : decode cL_law 34 = .ok (.iand, 1) := by decide +kernel
theorem dL_law_35 : decode cL_law 35 = .ok (.iconst 1, 1) := by decide +kernel
theorem dL_law_36 : decode cL_law 36 = .ok (.if_icmp .ne 7, 3) := by decide +kernel
theorem dL_law_39 : decode cL_law 39 = .ok (.iconst 1, 1) := by decide +kernel
theorem dL_law_40 : decode cL_law 40 = .ok (.goto 4, 3) := by decide +kernel
theorem dL_law_43 : decode cL_law 43 = .ok (.iconst 0, 1) := by decide +kernel
theorem dL_law_44 : decode cL_law 44 = .ok (.iconst 2, 1) := by decide +kernel
theorem dL_law_45 : decode cL_law 45 = .ok (.invokestatic 122, 3) := by decide +kernel
theorem dL_law_48 : decode cL_law 48 = .ok (.astore 4, 2) := by decide +kernel
theorem dL_law_50 : decode cL_law 50 = .ok (.iconst 5, 1) := by decide +kernel
theorem dL_law_51 : decode cL_law 51 = .ok (.anewarray 9, 3) := by decide +kernel
theorem dL_law_54 : decode cL_law 54 = .ok (.dup, 1) := by decide +kernel
theorem dL_law_55 : decode cL_law 55 = .ok (.iconst 0, 1) := by decide +kernel
theorem dL_law_56 : decode cL_law 56 = .ok (.aload_n 2, 1) := by decide +kernel
theorem dL_law_57 : decode cL_law 57 = .ok (.aastore, 1) := by decide +kernel
theorem dL_law_58 : decode cL_law 58 = .ok (.dup, 1) := by decide +kernel
theorem dL_law_59 : decode cL_law 59 = .ok (.iconst 1, 1) := by decide +kernel
theorem dL_law_60 : decode cL_law 60 = .ok (.aload_n 3, 1) := by decide +kernel
theorem dL_law_61 : decode cL_law 61 = .ok (.aastore, 1) := by decide +kernel
theorem dL_law_62 : decode cL_law 62 = .ok (.dup, 1) := by decide +kernel
theorem dL_law_63 : decode cL_law 63 = .ok (.iconst 2, 1) := by decide +kernel
theorem dL_law_64 : decode cL_law 64 = .ok (.aload 4, 2) := by decide +kernel
theorem dL_law_66 : decode cL_law 66 = .ok (.aastore, 1) := by decide +kernel
theorem dL_law_67 : decode cL_law 67 = .ok (.dup, 1) := by decide +kernel
theorem dL_law_68 : decode cL_law 68 = .ok (.iconst 3, 1) := by decide +kernel
theorem dL_law_69 : decode cL_law 69 = .ok (.new 40, 3) := by decide +kernel
theorem dL_law_72 : decode cL_law 72 = .ok (.dup, 1) := by decide +kernel
theorem dL_law_73 : decode cL_law 73 = .ok (.invokespecial 42, 3) := by decide +kernel
theorem dL_law_76 : decode cL_law 76 = .ok (.ldc 125, 2) := by decide +kernel
theorem dL_law_78 : decode cL_law 78 = .ok (.invokevirtual 45, 3) := by decide +kernel
theorem dL_law_81 : decode cL_law 81 = .ok (.aload_n 2, 1) := by decide +kernel
theorem dL_law_82 : decode cL_law 82 = .ok (.invokevirtual 45, 3) := by decide +kernel
theorem dL_law_85 : decode cL_law 85 = .ok (.invokevirtual 52, 3) := by decide +kernel
theorem dL_law_88 : decode cL_law 88 = .ok (.aastore, 1) := by decide +kernel
theorem dL_law_89 : decode cL_law 89 = .ok (.dup, 1) := by decide +kernel
theorem dL_law_90 : decode cL_law 90 = .ok (.iconst 4, 1) := by decide +kernel
theorem dL_law_91 : decode cL_law 91 = .ok (.new 40, 3) := by decide +kernel
theorem dL_law_94 : decode cL_law 94 = .ok (.dup, 1) := by decide +kernel
theorem dL_law_95 : decode cL_law 95 = .ok (.invokespecial 42, 3) := by decide +kernel
theorem dL_law_98 : decode cL_law 98 = .ok (.ldc 125, 2) := by decide +kernel
theorem dL_law_100 : decode cL_law 100 = .ok (.invokevirtual 45, 3) := by decide +kernel
theorem dL_law_103 : decode cL_law 103 = .ok (.aload_n 3, 1) := by decide +kernel
theorem dL_law_104 : decode cL_law 104 = .ok (.invokevirtual 45, 3) := by decide +kernel
theorem dL_law_107 : decode cL_law 107 = .ok (.invokevirtual 52, 3) := by decide +kernel
theorem dL_law_110 : decode cL_law 110 = .ok (.aastore, 1) := by decide +kernel
theorem dL_law_111 : decode cL_law 111 = .ok (.astore 5, 2) := by decide +kernel
theorem dL_law_113 : decode cL_law 113 = .ok (.iconst 0, 1) := by decide +kernel
theorem dL_law_114 : decode cL_law 114 = .ok (.istore 6, 2) := by decide +kernel
theorem dL_law_116 : decode cL_law 116 = .ok (.iload 6, 2) := by decide +kernel
theorem dL_law_118 : decode cL_law 118 = .ok (.iconst 5, 1) := by decide +kernel
theorem dL_law_119 : decode cL_law 119 = .ok (.if_icmp .ge 55, 3) := by decide +kernel
theorem dL_law_122 : decode cL_law 122 = .ok (.aload_n 1, 1) := by decide +kernel
theorem dL_law_123 : decode cL_law 123 = .ok (.iload 6, 2) := by decide +kernel
theorem dL_law_125 : decode cL_law 125 = .ok (.aload 5, 2) := by decide +kernel
theorem dL_law_127 : decode cL_law 127 = .ok (.iload 6, 2) := by decide +kernel
theorem dL_law_129 : decode cL_law 129 = .ok (.aaload, 1) := by decide +kernel
theorem dL_law_130 : decode cL_law 130 = .ok (.aload 5, 2) := by decide +kernel
theorem dL_law_132 : decode cL_law 132 = .ok (.iload 6, 2) := by decide +kernel
theorem dL_law_134 : decode cL_law 134 = .ok (.aaload, 1) := by decide +kernel
theorem dL_law_135 : decode cL_law 135 = .ok (.invokestatic 127, 3) := by decide +kernel
theorem dL_law_138 : decode cL_law 138 = .ok (.invokestatic 131, 3) := by decide +kernel
theorem dL_law_141 : decode cL_law 141 = .ok (.ifCond .eq 25, 3) := by decide +kernel
theorem dL_law_144 : decode cL_law 144 = .ok (.aload_n 1, 1) := by decide +kernel
theorem dL_law_145 : decode cL_law 145 = .ok (.iload 6, 2) := by decide +kernel
theorem dL_law_147 : decode cL_law 147 = .ok (.bipush 8, 2) := by decide +kernel
theorem dL_law_149 : decode cL_law 149 = .ok (.iload 6, 2) := by decide +kernel
theorem dL_law_151 : decode cL_law 151 = .ok (.iadd, 1) := by decide +kernel
theorem dL_law_152 : decode cL_law 152 = .ok (.invokevirtual 135, 3) := by decide +kernel
theorem dL_law_155 : decode cL_law 155 = .ok (.aload 5, 2) := by decide +kernel
theorem dL_law_157 : decode cL_law 157 = .ok (.iload 6, 2) := by decide +kernel
theorem dL_law_159 : decode cL_law 159 = .ok (.aaload, 1) := by decide +kernel
theorem dL_law_160 : decode cL_law 160 = .ok (.invokestatic 127, 3) := by decide +kernel
theorem dL_law_163 : decode cL_law 163 = .ok (.if_icmp .eq 5, 3) := by decide +kernel
theorem dL_law_166 : decode cL_law 166 = .ok (.iconst 0, 1) := by decide +kernel
theorem dL_law_167 : decode cL_law 167 = .ok (.ireturn, 1) := by decide +kernel
theorem dL_law_168 : decode cL_law 168 = .ok (.iinc 6 1, 3) := by decide +kernel
theorem dL_law_171 : decode cL_law 171 = .ok (.goto (-55), 3) := by decide +kernel
theorem dL_law_174 : decode cL_law 174 = .ok (.iconst 0, 1) := by decide +kernel
theorem dL_law_175 : decode cL_law 175 = .ok (.istore 6, 2) := by decide +kernel
theorem dL_law_177 : decode cL_law 177 = .ok (.iload 6, 2) := by decide +kernel
theorem dL_law_179 : decode cL_law 179 = .ok (.iconst 5, 1) := by decide +kernel
theorem dL_law_180 : decode cL_law 180 = .ok (.if_icmp .ge 194, 3) := by decide +kernel
theorem dL_law_183 : decode cL_law 183 = .ok (.iconst 0, 1) := by decide +kernel
theorem dL_law_184 : decode cL_law 184 = .ok (.istore 7, 2) := by decide +kernel
theorem dL_law_186 : decode cL_law 186 = .ok (.iload 7, 2) := by decide +kernel
theorem dL_law_188 : decode cL_law 188 = .ok (.iconst 5, 1) := by decide +kernel
theorem dL_law_189 : decode cL_law 189 = .ok (.if_icmp .ge 179, 3) := by decide +kernel
theorem dL_law_192 : decode cL_law 192 = .ok (.aload_n 1, 1) := by decide +kernel
theorem dL_law_193 : decode cL_law 193 = .ok (.iload 6, 2) := by decide +kernel
theorem dL_law_195 : decode cL_law 195 = .ok (.iload 7, 2) := by decide +kernel
theorem dL_law_197 : decode cL_law 197 = .ok (.invokevirtual 138, 3) := by decide +kernel
theorem dL_law_200 : decode cL_law 200 = .ok (.iconst 1, 1) := by decide +kernel
theorem dL_law_201 : decode cL_law 201 = .ok (.if_icmp .ne 7, 3) := by decide +kernel
theorem dL_law_204 : decode cL_law 204 = .ok (.iconst 1, 1) := by decide +kernel
theorem dL_law_205 : decode cL_law 205 = .ok (.goto 4, 3) := by decide +kernel
theorem dL_law_208 : decode cL_law 208 = .ok (.iconst 0, 1) := by decide +kernel
theorem dL_law_209 : decode cL_law 209 = .ok (.istore 8, 2) := by decide +kernel
theorem dL_law_211 : decode cL_law 211 = .ok (.iload 8, 2) := by decide +kernel
theorem dL_law_213 : decode cL_law 213 = .ok (.aload_n 1, 1) := by decide +kernel
theorem dL_law_214 : decode cL_law 214 = .ok (.bipush 8, 2) := by decide +kernel
theorem dL_law_216 : decode cL_law 216 = .ok (.iload 7, 2) := by decide +kernel
theorem dL_law_218 : decode cL_law 218 = .ok (.iadd, 1) := by decide +kernel
theorem dL_law_219 : decode cL_law 219 = .ok (.bipush 8, 2) := by decide +kernel
theorem dL_law_221 : decode cL_law 221 = .ok (.iload 6, 2) := by decide +kernel
theorem dL_law_223 : decode cL_law 223 = .ok (.iadd, 1) := by decide +kernel
theorem dL_law_224 : decode cL_law 224 = .ok (.invokevirtual 138, 3) := by decide +kernel
theorem dL_law_227 : decode cL_law 227 = .ok (.iconst 1, 1) := by decide +kernel
theorem dL_law_228 : decode cL_law 228 = .ok (.if_icmp .ne 7, 3) := by decide +kernel
theorem dL_law_231 : decode cL_law 231 = .ok (.iconst 1, 1) := by decide +kernel
theorem dL_law_232 : decode cL_law 232 = .ok (.goto 4, 3) := by decide +kernel
theorem dL_law_235 : decode cL_law 235 = .ok (.iconst 0, 1) := by decide +kernel
theorem dL_law_236 : decode cL_law 236 = .ok (.if_icmp .ne 27, 3) := by decide +kernel
theorem dL_law_239 : decode cL_law 239 = .ok (.iload 8, 2) := by decide +kernel
theorem dL_law_241 : decode cL_law 241 = .ok (.aload_n 1, 1) := by decide +kernel
theorem dL_law_242 : decode cL_law 242 = .ok (.iload 6, 2) := by decide +kernel
theorem dL_law_244 : decode cL_law 244 = .ok (.iload 7, 2) := by decide +kernel
theorem dL_law_246 : decode cL_law 246 = .ok (.iconst (-1), 1) := by decide +kernel
theorem dL_law_247 : decode cL_law 247 = .ok (.invokevirtual 141, 3) := by decide +kernel
theorem dL_law_250 : decode cL_law 250 = .ok (.bipush (-2), 2) := by decide +kernel
theorem dL_law_252 : decode cL_law 252 = .ok (.if_icmp .ne 7, 3) := by decide +kernel
theorem dL_law_255 : decode cL_law 255 = .ok (.iconst 1, 1) := by decide +kernel
theorem dL_law_256 : decode cL_law 256 = .ok (.goto 4, 3) := by decide +kernel
theorem dL_law_259 : decode cL_law 259 = .ok (.iconst 0, 1) := by decide +kernel
theorem dL_law_260 : decode cL_law 260 = .ok (.if_icmp .eq 5, 3) := by decide +kernel
theorem dL_law_263 : decode cL_law 263 = .ok (.iconst 0, 1) := by decide +kernel
theorem dL_law_264 : decode cL_law 264 = .ok (.ireturn, 1) := by decide +kernel
theorem dL_law_265 : decode cL_law 265 = .ok (.iconst 1, 1) := by decide +kernel
theorem dL_law_266 : decode cL_law 266 = .ok (.istore 9, 2) := by decide +kernel
theorem dL_law_268 : decode cL_law 268 = .ok (.iload 9, 2) := by decide +kernel
theorem dL_law_270 : decode cL_law 270 = .ok (.iconst 3, 1) := by decide +kernel
theorem dL_law_271 : decode cL_law 271 = .ok (.if_icmp .ge 91, 3) := by decide +kernel
theorem dL_law_274 : decode cL_law 274 = .ok (.iload 8, 2) := by decide +kernel
theorem dL_law_276 : decode cL_law 276 = .ok (.ifCond .eq 86, 3) := by decide +kernel
theorem dL_law_279 : decode cL_law 279 = .ok (.aload_n 1, 1) := by decide +kernel
theorem dL_law_280 : decode cL_law 280 = .ok (.iload 6, 2) := by decide +kernel
theorem dL_law_282 : decode cL_law 282 = .ok (.bipush 8, 2) := by decide +kernel
theorem dL_law_284 : decode cL_law 284 = .ok (.iload 7, 2) := by decide +kernel
theorem dL_law_286 : decode cL_law 286 = .ok (.iadd, 1) := by decide +kernel
theorem dL_law_287 : decode cL_law 287 = .ok (.iload 9, 2) := by decide +kernel
theorem dL_law_289 : decode cL_law 289 = .ok (.iconst 0, 1) := by decide +kernel
theorem dL_law_290 : decode cL_law 290 = .ok (.invokevirtual 144, 3) := by decide +kernel
theorem dL_law_293 : decode cL_law 293 = .ok (.bipush (-3), 2) := by decide +kernel
theorem dL_law_295 : decode cL_law 295 = .ok (.if_icmp .ne 6, 3) := by decide +kernel
theorem dL_law_298 : decode cL_law 298 = .ok (.goto 58, 3) := by decide +kernel
theorem dL_law_301 : decode cL_law 301 = .ok (.aload_n 1, 1) := by decide +kernel
theorem dL_law_302 : decode cL_law 302 = .ok (.iload 6, 2) := by decide +kernel
theorem dL_law_304 : decode cL_law 304 = .ok (.bipush 8, 2) := by decide +kernel
theorem dL_law_306 : decode cL_law 306 = .ok (.iload 7, 2) := by decide +kernel
theorem dL_law_308 : decode cL_law 308 = .ok (.iadd, 1) := by decide +kernel
theorem dL_law_309 : decode cL_law 309 = .ok (.iload 9, 2) := by decide +kernel
theorem dL_law_311 : decode cL_law 311 = .ok (.iconst 1, 1) := by decide +kernel
theorem dL_law_312 : decode cL_law 312 = .ok (.invokevirtual 144, 3) := by decide +kernel
theorem dL_law_315 : decode cL_law 315 = .ok (.ifCond .ne 39, 3) := by decide +kernel
theorem dL_law_318 : decode cL_law 318 = .ok (.aload_n 1, 1) := by decide +kernel
theorem dL_law_319 : decode cL_law 319 = .ok (.iload 6, 2) := by decide +kernel
theorem dL_law_321 : decode cL_law 321 = .ok (.bipush 8, 2) := by decide +kernel
theorem dL_law_323 : decode cL_law 323 = .ok (.iload 7, 2) := by decide +kernel
theorem dL_law_325 : decode cL_law 325 = .ok (.iadd, 1) := by decide +kernel
theorem dL_law_326 : decode cL_law 326 = .ok (.iload 9, 2) := by decide +kernel
theorem dL_law_328 : decode cL_law 328 = .ok (.iconst 2, 1) := by decide +kernel
theorem dL_law_329 : decode cL_law 329 = .ok (.invokevirtual 144, 3) := by decide +kernel
theorem dL_law_332 : decode cL_law 332 = .ok (.ifCond .ne 22, 3) := by decide +kernel
theorem dL_law_335 : decode cL_law 335 = .ok (.aload_n 1, 1) := by decide +kernel
theorem dL_law_336 : decode cL_law 336 = .ok (.iload 6, 2) := by decide +kernel
theorem dL_law_338 : decode cL_law 338 = .ok (.bipush 8, 2) := by decide +kernel
theorem dL_law_340 : decode cL_law 340 = .ok (.iload 7, 2) := by decide +kernel
theorem dL_law_342 : decode cL_law 342 = .ok (.iadd, 1) := by decide +kernel
theorem dL_law_343 : decode cL_law 343 = .ok (.iload 9, 2) := by decide +kernel
theorem dL_law_345 : decode cL_law 345 = .ok (.iconst 3, 1) := by decide +kernel
theorem dL_law_346 : decode cL_law 346 = .ok (.invokevirtual 144, 3) := by decide +kernel
theorem dL_law_349 : decode cL_law 349 = .ok (.bipush (-2), 2) := by decide +kernel
theorem dL_law_351 : decode cL_law 351 = .ok (.if_icmp .eq 5, 3) := by decide +kernel
theorem dL_law_354 : decode cL_law 354 = .ok (.iconst 0, 1) := by decide +kernel
theorem dL_law_355 : decode cL_law 355 = .ok (.ireturn, 1) := by decide +kernel
theorem dL_law_356 : decode cL_law 356 = .ok (.iinc 9 1, 3) := by decide +kernel
theorem dL_law_359 : decode cL_law 359 = .ok (.goto (-91), 3) := by decide +kernel
theorem dL_law_362 : decode cL_law 362 = .ok (.iinc 7 1, 3) := by decide +kernel
theorem dL_law_365 : decode cL_law 365 = .ok (.goto (-179), 3) := by decide +kernel
theorem dL_law_368 : decode cL_law 368 = .ok (.iinc 6 1, 3) := by decide +kernel
theorem dL_law_371 : decode cL_law 371 = .ok (.goto (-194), 3) := by decide +kernel
theorem dL_law_374 : decode cL_law 374 = .ok (.aload_n 1, 1) := by decide +kernel
theorem dL_law_375 : decode cL_law 375 = .ok (.iconst 0, 1) := by decide +kernel
theorem dL_law_376 : decode cL_law 376 = .ok (.iconst 1, 1) := by decide +kernel
theorem dL_law_377 : decode cL_law 377 = .ok (.invokevirtual 138, 3) := by decide +kernel
theorem dL_law_380 : decode cL_law 380 = .ok (.iconst 1, 1) := by decide +kernel
theorem dL_law_381 : decode cL_law 381 = .ok (.if_icmp .ne 44, 3) := by decide +kernel
theorem dL_law_384 : decode cL_law 384 = .ok (.aload_n 1, 1) := by decide +kernel
theorem dL_law_385 : decode cL_law 385 = .ok (.iconst 3, 1) := by decide +kernel
theorem dL_law_386 : decode cL_law 386 = .ok (.iconst 4, 1) := by decide +kernel
theorem dL_law_387 : decode cL_law 387 = .ok (.invokevirtual 138, 3) := by decide +kernel
theorem dL_law_390 : decode cL_law 390 = .ok (.iconst 1, 1) := by decide +kernel
theorem dL_law_391 : decode cL_law 391 = .ok (.if_icmp .ne 34, 3) := by decide +kernel
theorem dL_law_394 : decode cL_law 394 = .ok (.aload_n 1, 1) := by decide +kernel
theorem dL_law_395 : decode cL_law 395 = .ok (.iconst 3, 1) := by decide +kernel
theorem dL_law_396 : decode cL_law 396 = .ok (.iconst 0, 1) := by decide +kernel
theorem dL_law_397 : decode cL_law 397 = .ok (.invokevirtual 138, 3) := by decide +kernel
theorem dL_law_400 : decode cL_law 400 = .ok (.iconst 1, 1) := by decide +kernel
theorem dL_law_401 : decode cL_law 401 = .ok (.if_icmp .ne 26, 3) := by decide +kernel
theorem dL_law_404 : decode cL_law 404 = .ok (.aload_n 1, 1) := by decide +kernel
theorem dL_law_405 : decode cL_law 405 = .ok (.iconst 0, 1) := by decide +kernel
theorem dL_law_406 : decode cL_law 406 = .ok (.iconst 0, 1) := by decide +kernel
theorem dL_law_407 : decode cL_law 407 = .ok (.invokevirtual 148, 3) := by decide +kernel
theorem dL_law_410 : decode cL_law 410 = .ok (.bipush (-2), 2) := by decide +kernel
theorem dL_law_412 : decode cL_law 412 = .ok (.if_icmp .eq 15, 3) := by decide +kernel
theorem dL_law_415 : decode cL_law 415 = .ok (.aload_n 1, 1) := by decide +kernel
theorem dL_law_416 : decode cL_law 416 = .ok (.iconst 0, 1) := by decide +kernel
theorem dL_law_417 : decode cL_law 417 = .ok (.iconst 4, 1) := by decide +kernel
theorem dL_law_418 : decode cL_law 418 = .ok (.invokevirtual 151, 3) := by decide +kernel
theorem dL_law_421 : decode cL_law 421 = .ok (.iconst 1, 1) := by decide +kernel
theorem dL_law_422 : decode cL_law 422 = .ok (.if_icmp .eq 5, 3) := by decide +kernel
theorem dL_law_425 : decode cL_law 425 = .ok (.iconst 0, 1) := by decide +kernel
theorem dL_law_426 : decode cL_law 426 = .ok (.ireturn, 1) := by decide +kernel
theorem dL_law_427 : decode cL_law 427 = .ok (.iconst 0, 1) := by decide +kernel
theorem dL_law_428 : decode cL_law 428 = .ok (.istore 6, 2) := by decide +kernel
theorem dL_law_430 : decode cL_law 430 = .ok (.iload 6, 2) := by decide +kernel
theorem dL_law_432 : decode cL_law 432 = .ok (.iconst 4, 1) := by decide +kernel
theorem dL_law_433 : decode cL_law 433 = .ok (.if_icmp .ge 69, 3) := by decide +kernel
theorem dL_law_436 : decode cL_law 436 = .ok (.aload_n 1, 1) := by decide +kernel
theorem dL_law_437 : decode cL_law 437 = .ok (.iconst 1, 1) := by decide +kernel
theorem dL_law_438 : decode cL_law 438 = .ok (.aload_n 0, 1) := by decide +kernel
theorem dL_law_439 : decode cL_law 439 = .ok (.bipush 30, 2) := by decide +kernel
theorem dL_law_441 : decode cL_law 441 = .ok (.invokestatic 36, 3) := by decide +kernel
theorem dL_law_444 : decode cL_law 444 = .ok (.iconst 4, 1) := by decide +kernel
theorem dL_law_445 : decode cL_law 445 = .ok (.irem, 1) := by decide +kernel
theorem dL_law_446 : decode cL_law 446 = .ok (.iadd, 1) := by decide +kernel
theorem dL_law_447 : decode cL_law 447 = .ok (.invokevirtual 154, 3) := by decide +kernel
theorem dL_law_450 : decode cL_law 450 = .ok (.ifCond .lt 44, 3) := by decide +kernel
theorem dL_law_453 : decode cL_law 453 = .ok (.aload_n 1, 1) := by decide +kernel
theorem dL_law_454 : decode cL_law 454 = .ok (.iload 6, 2) := by decide +kernel
theorem dL_law_456 : decode cL_law 456 = .ok (.iload 6, 2) := by decide +kernel
theorem dL_law_458 : decode cL_law 458 = .ok (.iconst 4, 1) := by decide +kernel
theorem dL_law_459 : decode cL_law 459 = .ok (.irem, 1) := by decide +kernel
