theorem dX11_perform_156 : decode cX11_perform 156 = .ok (.aaload, 1) := by decide +kernel
theorem dX11_perform_157 : decode cX11_perform 157 = .ok (.iload 9, 2) := by decide +kernel
theorem dX11_perform_159 : decode cX11_perform 159 = .ok (.invokevirtual 359, 3) := by decide +kernel
theorem dX11_perform_162 : decode cX11_perform 162 = .ok (.iload_n 3, 1) := by decide +kernel
theorem dX11_perform_163 : decode cX11_perform 163 = .ok (.iconst 5, 1) := by decide +kernel
theorem dX11_perform_164 : decode cX11_perform 164 = .ok (.if_icmp .ne 11, 3) := by decide +kernel
theorem dX11_perform_167 : decode cX11_perform 167 = .ok (.aload_n 0, 1) := by decide +kernel
theorem dX11_perform_168 : decode cX11_perform 168 = .ok (.aload 6, 2) := by decide +kernel
theorem dX11_perform_170 : decode cX11_perform 170 = .ok (.iload 9, 2) := by decide +kernel
theorem dX11_perform_172 : decode cX11_perform 172 = .ok (.invokevirtual 362, 3) := by decide +kernel
theorem dX11_perform_175 : decode cX11_perform 175 = .ok (.iload_n 3, 1) := by decide +kernel
theorem dX11_perform_176 : decode cX11_perform 176 = .ok (.bipush 6, 2) := by decide +kernel
theorem dX11_perform_178 : decode cX11_perform 178 = .ok (.if_icmp .ne 10, 3) := by decide +kernel
theorem dX11_perform_181 : decode cX11_perform 181 = .ok (.aload_n 0, 1) := by decide +kernel
theorem dX11_perform_182 : decode cX11_perform 182 = .ok (.iload_n 1, 1) := by decide +kernel
theorem dX11_perform_183 : decode cX11_perform 183 = .ok (.iload 9, 2) := by decide +kernel
theorem dX11_perform_185 : decode cX11_perform 185 = .ok (.invokevirtual 366, 3) := by decide +kernel
theorem dX11_perform_188 : decode cX11_perform 188 = .ok (.aload 6, 2) := by decide +kernel
theorem dX11_perform_190 : decode cX11_perform 190 = .ok (.aload 6, 2) := by decide +kernel
theorem dX11_perform_192 : decode cX11_perform 192 = .ok (.getfield 311, 3) := by decide +kernel
theorem dX11_perform_195 : decode cX11_perform 195 = .ok (.aload 6, 2) := by decide +kernel
theorem dX11_perform_197 : decode cX11_perform 197 = .ok (.getfield 331, 3) := by decide +kernel
theorem dX11_perform_200 : decode cX11_perform 200 = .ok (.iload 9, 2) := by decide +kernel
theorem dX11_perform_202 : decode cX11_perform 202 = .ok (.bipush 97, 2) := by decide +kernel
theorem dX11_perform_204 : decode cX11_perform 204 = .ok (.isub, 1) := by decide +kernel
theorem dX11_perform_205 : decode cX11_perform 205 = .ok (.invokevirtual 370, 3) := by decide +kernel
theorem dX11_perform_208 : decode cX11_perform 208 = .ok (.putfield 331, 3) := by decide +kernel
theorem dX11_perform_211 : decode cX11_perform 211 = .ok (.iload 8, 2) := by decide +kernel
theorem dX11_perform_213 : decode cX11_perform 213 = .ok (.ifCond .eq 7, 3) := by decide +kernel
theorem dX11_perform_216 : decode cX11_perform 216 = .ok (.iconst 1, 1) := by decide +kernel
theorem dX11_perform_217 : decode cX11_perform 217 = .ok (.goto 5, 3) := by decide +kernel
theorem dX11_perform_220 : decode cX11_perform 220 = .ok (.iload 9, 2) := by decide +kernel
theorem dX11_perform_222 : decode cX11_perform 222 = .ok (.ireturn, 1) := by decide +kernel
set_option maxRecDepth 20000 in
theorem ggX11_handOver_X7_innerOf : GoodIn wsX11_handOver wsX7_innerOf := goodIn_r _ [11, 12, 13, 46, 47, 48, 49, 50, 51, 52, 53, 54] (by decide +kernel) (by decide +kernel)
set_option maxRecDepth 20000 in
theorem gX11_handOver_X7_innerOf : GoodIn wsX11_handOver (wsV RX11 334 RX7 yX7_innerOf wsX7_innerOf) := goodIn_app (goodIn_of _ (by decide +kernel)) ggX11_handOver_X7_innerOf
theorem dX11_handOver_0 : decode cX11_handOver 0 = .ok (.iload_n 2, 1) := by decide +kernel
theorem dX11_handOver_1 : decode cX11_handOver 1 = .ok (.ifCond .lt 22, 3) := by decide +kernel
theorem dX11_handOver_4 : decode cX11_handOver 4 = .ok (.iload_n 2, 1) := by decide +kernel
theorem dX11_handOver_5 : decode cX11_handOver 5 = .ok (.aload_n 0, 1) := by decide +kernel
theorem dX11_handOver_6 : decode cX11_handOver 6 = .ok (.getfield 69, 3) := by decide +kernel
theorem dX11_handOver_9 : decode cX11_handOver 9 = .ok (.getfield 171, 3) := by decide +kernel
theorem dX11_handOver_12 : decode cX11_handOver 12 = .ok (.arraylength, 1) := by decide +kernel
theorem dX11_handOver_13 : decode cX11_handOver 13 = .ok (.if_icmp .ge 10, 3) := by decide +kernel
theorem dX11_handOver_16 : decode cX11_handOver 16 = .ok (.aload_n 1, 1) := by decide +kernel
theorem dX11_handOver_17 : decode cX11_handOver 17 = .ok (.getfield 311, 3) := by decide +kernel
theorem dX11_handOver_20 : decode cX11_handOver 20 = .ok (.ifnonnull 4, 3) := by decide +kernel
theorem dX11_handOver_23 : decode cX11_handOver 23 = .ok (.return_, 1) := by decide +kernel
theorem dX11_handOver_24 : decode cX11_handOver 24 = .ok (.aload_n 0, 1) := by decide +kernel
theorem dX11_handOver_25 : decode cX11_handOver 25 = .ok (.getfield 69, 3) := by decide +kernel
theorem dX11_handOver_28 : decode cX11_handOver 28 = .ok (.getfield 171, 3) := by decide +kernel
theorem dX11_handOver_31 : decode cX11_handOver 31 = .ok (.iload_n 2, 1) := by decide +kernel
theorem dX11_handOver_32 : decode cX11_handOver 32 = .ok (.aaload, 1) := by decide +kernel
theorem dX11_handOver_33 : decode cX11_handOver 33 = .ok (.astore_n 3, 1) := by decide +kernel
theorem dX11_handOver_34 : decode cX11_handOver 34 = .ok (.aload_n 3, 1) := by decide +kernel
theorem dX11_handOver_35 : decode cX11_handOver 35 = .ok (.bipush 9, 2) := by decide +kernel
theorem dX11_handOver_37 : decode cX11_handOver 37 = .ok (.putfield 191, 3) := by decide +kernel
theorem dX11_handOver_40 : decode cX11_handOver 40 = .ok (.aload_n 3, 1) := by decide +kernel
theorem dX11_handOver_41 : decode cX11_handOver 41 = .ok (.aload_n 1, 1) := by decide +kernel
theorem dX11_handOver_42 : decode cX11_handOver 42 = .ok (.getfield 311, 3) := by decide +kernel
theorem dX11_handOver_45 : decode cX11_handOver 45 = .ok (.aload_n 1, 1) := by decide +kernel
theorem dX11_handOver_46 : decode cX11_handOver 46 = .ok (.getfield 331, 3) := by decide +kernel
theorem dX11_handOver_49 : decode cX11_handOver 49 = .ok (.invokevirtual 334, 3) := by decide +kernel
theorem dX11_handOver_52 : decode cX11_handOver 52 = .ok (.putfield 331, 3) := by decide +kernel
theorem dX11_handOver_55 : decode cX11_handOver 55 = .ok (.aload_n 3, 1) := by decide +kernel
theorem dX11_handOver_56 : decode cX11_handOver 56 = .ok (.aload_n 1, 1) := by decide +kernel
theorem dX11_handOver_57 : decode cX11_handOver 57 = .ok (.getfield 311, 3) := by decide +kernel
theorem dX11_handOver_60 : decode cX11_handOver 60 = .ok (.putfield 311, 3) := by decide +kernel
theorem dX11_handOver_63 : decode cX11_handOver 63 = .ok (.aload_n 0, 1) := by decide +kernel
theorem dX11_handOver_64 : decode cX11_handOver 64 = .ok (.getfield 69, 3) := by decide +kernel
theorem dX11_handOver_67 : decode cX11_handOver 67 = .ok (.dup, 1) := by decide +kernel
theorem dX11_handOver_68 : decode cX11_handOver 68 = .ok (.getfield 277, 3) := by decide +kernel
theorem dX11_handOver_71 : decode cX11_handOver 71 = .ok (.iconst 1, 1) := by decide +kernel
theorem dX11_handOver_72 : decode cX11_handOver 72 = .ok (.iadd, 1) := by decide +kernel
theorem dX11_handOver_73 : decode cX11_handOver 73 = .ok (.putfield 277, 3) := by decide +kernel
theorem dX11_handOver_76 : decode cX11_handOver 76 = .ok (.return_, 1) := by decide +kernel
theorem dX11_receive_0 : decode cX11_receive 0 = .ok (.iload_n 2, 1) := by decide +kernel
theorem dX11_receive_1 : decode cX11_receive 1 = .ok (.ifCond .lt 15, 3) := by decide +kernel
theorem dX11_receive_4 : decode cX11_receive 4 = .ok (.iload_n 2, 1) := by decide +kernel
theorem dX11_receive_5 : decode cX11_receive 5 = .ok (.aload_n 0, 1) := by decide +kernel
theorem dX11_receive_6 : decode cX11_receive 6 = .ok (.getfield 69, 3) := by decide +kernel
theorem dX11_receive_9 : decode cX11_receive 9 = .ok (.getfield 171, 3) := by decide +kernel
theorem dX11_receive_12 : decode cX11_receive 12 = .ok (.arraylength, 1) := by decide +kernel
theorem dX11_receive_13 : decode cX11_receive 13 = .ok (.if_icmp .lt 4, 3) := by decide +kernel
theorem dX11_receive_16 : decode cX11_receive 16 = .ok (.return_, 1) := by decide +kernel
theorem dX11_receive_17 : decode cX11_receive 17 = .ok (.aload_n 0, 1) := by decide +kernel
theorem dX11_receive_18 : decode cX11_receive 18 = .ok (.getfield 69, 3) := by decide +kernel
theorem dX11_receive_21 : decode cX11_receive 21 = .ok (.getfield 171, 3) := by decide +kernel
theorem dX11_receive_24 : decode cX11_receive 24 = .ok (.iload_n 2, 1) := by decide +kernel
theorem dX11_receive_25 : decode cX11_receive 25 = .ok (.aaload, 1) := by decide +kernel
theorem dX11_receive_26 : decode cX11_receive 26 = .ok (.iload_n 1, 1) := by decide +kernel
theorem dX11_receive_27 : decode cX11_receive 27 = .ok (.putfield 191, 3) := by decide +kernel
theorem dX11_receive_30 : decode cX11_receive 30 = .ok (.return_, 1) := by decide +kernel

