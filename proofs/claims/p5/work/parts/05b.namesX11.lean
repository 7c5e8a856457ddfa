set_option maxRecDepth 20000 in
theorem ggX11_init_X8_init : GoodIn wsX11_init wsX8_init := goodIn_r _ [56, 57, 2, 3, 58, 59, 52, 60, 61, 62, 63, 64, 156, 157, 158, 159, 160, 161, 162, 163, 164, 165, 166, 167, 168, 169, 170] rfl (by decide +kernel)
set_option maxRecDepth 20000 in
theorem gX11_init_X8_init_n9 : GoodIn wsX11_init (wsX8_init) := ggX11_init_X8_init
set_option maxRecDepth 20000 in
theorem ggX11_init_X9_init : GoodIn wsX11_init wsX9_init := goodIn_r _ [67, 68, 2, 3, 63, 69, 70, 71, 52, 72, 73, 74, 75, 76, 77, 78, 79, 190, 191, 192, 193, 194, 195, 196, 197, 198, 199, 200, 201, 202, 203] rfl (by decide +kernel)
set_option maxRecDepth 20000 in
theorem gX11_init_X9_init : GoodIn wsX11_init (wsX9_init) := ggX11_init_X9_init
set_option maxRecDepth 20000 in
theorem ggX11_init_X10_init : GoodIn wsX11_init wsX10_init := goodIn_r _ [82, 83, 2, 3, 84, 85, 204, 205, 206, 207, 208] rfl (by decide +kernel)
set_option maxRecDepth 20000 in
theorem gX11_init_X10_init : GoodIn wsX11_init (wsX10_init) := ggX11_init_X10_init
set_option maxRecDepth 20000 in
theorem ggX11_init_X2_init : GoodIn wsX11_init wsX2_init := goodIn_r _ [88, 89, 2, 3, 52, 90, 91, 92, 93, 94, 209, 210, 211, 212, 213, 214, 215] rfl (by decide +kernel)
set_option maxRecDepth 20000 in
theorem gX11_init_X2_init : GoodIn wsX11_init (wsX2_init) := ggX11_init_X2_init
set_option maxRecDepth 20000 in
theorem ggX11_init_X3_init : GoodIn wsX11_init wsX3_init := goodIn_r _ [97, 98, 2, 3, 99, 100, 18, 19, 101, 87, 88, 89, 52, 90, 91, 92, 93, 94, 216, 217, 218, 209, 210, 211, 212, 213, 214, 215] rfl (by decide +kernel)
set_option maxRecDepth 20000 in
theorem gX11_init_X3_init : GoodIn wsX11_init (wsX3_init) := ggX11_init_X3_init
set_option maxRecDepth 20000 in
theorem ggX11_init_X1_init : GoodIn wsX11_init wsX1_init := goodIn_r _ [104, 105, 2, 3, 52, 106, 107, 108, 109, 110, 111, 112, 113, 114, 219, 220, 221, 222, 223, 224, 225, 226, 227] rfl (by decide +kernel)
set_option maxRecDepth 20000 in
theorem gX11_init_X1_init : GoodIn wsX11_init (wsX1_init) := ggX11_init_X1_init
set_option maxRecDepth 20000 in
theorem ggX11_init_X0_init : GoodIn wsX11_init wsX0_init := goodIn_r _ [117, 118, 2, 3, 119, 120, 228, 229, 230] rfl (by decide +kernel)
set_option maxRecDepth 20000 in
theorem gX11_init_X0_init : GoodIn wsX11_init (wsX0_init) := ggX11_init_X0_init
set_option maxRecDepth 20000 in
theorem ggX11_init_X6_init : GoodIn wsX11_init wsX6_init := goodIn_r _ [122, 123, 2, 3, 52, 124, 125, 126, 127, 231, 232, 233, 234, 235, 236, 237] rfl (by decide +kernel)
set_option maxRecDepth 20000 in
theorem gX11_init_X6_init_n75 : GoodIn wsX11_init (wsX6_init) := ggX11_init_X6_init
set_option maxRecDepth 20000 in
theorem ggX11_init_X7_init : GoodIn wsX11_init wsX7_init := goodIn_r _ [130, 131, 2, 3, 132, 133, 134, 238, 239, 240] rfl (by decide +kernel)
set_option maxRecDepth 20000 in
theorem gX11_init_X7_init : GoodIn wsX11_init (wsX7_init) := ggX11_init_X7_init
set_option maxRecDepth 20000 in
theorem ggX11_init_X5_init : GoodIn wsX11_init wsX5_init := goodIn_r _ [137, 138, 2, 3, 52, 139, 140, 141, 142, 143, 144, 241, 242, 243, 244, 245, 246, 247, 248] rfl (by decide +kernel)
set_option maxRecDepth 20000 in
theorem gX11_init_X5_init : GoodIn wsX11_init (wsX5_init) := ggX11_init_X5_init
set_option maxRecDepth 20000 in
theorem ggX11_init_X4_init : GoodIn wsX11_init wsX4_init := goodIn_r _ [146, 147, 2, 3, 148, 9, 10, 149, 150, 18, 19, 151, 152, 36, 37, 153, 154, 66, 67, 68, 63, 69, 70, 71, 52, 72, 73, 74, 75, 76, 77, 78, 79, 155, 87, 88, 89, 90, 91, 92, 93, 94, 121, 122, 123, 124, 125, 126, 127, 190, 191, 192, 193, 194, 195, 196, 197, 198, 199, 200, 201, 202, 203, 249, 250, 251, 252, 209, 210, 211, 212, 213, 214, 215, 231, 232, 233, 234, 235, 236, 237] rfl (by decide +kernel)
set_option maxRecDepth 20000 in
theorem gX11_init_X4_init_n107 : GoodIn wsX11_init (wsX4_init) := ggX11_init_X4_init
theorem dX11_init_0 : decode cX11_init 0 = .ok (.aload_n 0, 1) := by decide +kernel
theorem dX11_init_1 : decode cX11_init 1 = .ok (.invokespecial 1, 3) := by decide +kernel
theorem dX11_init_4 : decode cX11_init 4 = .ok (.aload_n 0, 1) := by decide +kernel
theorem dX11_init_5 : decode cX11_init 5 = .ok (.new 7, 3) := by decide +kernel
theorem dX11_init_8 : decode cX11_init 8 = .ok (.dup, 1) := by decide +kernel
theorem dX11_init_9 : decode cX11_init 9 = .ok (.invokespecial 9, 3) := by decide +kernel
theorem dX11_init_12 : decode cX11_init 12 = .ok (.putfield 10, 3) := by decide +kernel
theorem dX11_init_15 : decode cX11_init 15 = .ok (.aload_n 0, 1) := by decide +kernel
theorem dX11_init_16 : decode cX11_init 16 = .ok (.new 16, 3) := by decide +kernel
theorem dX11_init_19 : decode cX11_init 19 = .ok (.dup, 1) := by decide +kernel
theorem dX11_init_20 : decode cX11_init 20 = .ok (.invokespecial 18, 3) := by decide +kernel
theorem dX11_init_23 : decode cX11_init 23 = .ok (.putfield 19, 3) := by decide +kernel
theorem dX11_init_26 : decode cX11_init 26 = .ok (.aload_n 0, 1) := by decide +kernel
theorem dX11_init_27 : decode cX11_init 27 = .ok (.new 16, 3) := by decide +kernel
theorem dX11_init_30 : decode cX11_init 30 = .ok (.dup, 1) := by decide +kernel
theorem dX11_init_31 : decode cX11_init 31 = .ok (.invokespecial 18, 3) := by decide +kernel
theorem dX11_init_34 : decode cX11_init 34 = .ok (.putfield 23, 3) := by decide +kernel
theorem dX11_init_37 : decode cX11_init 37 = .ok (.aload_n 0, 1) := by decide +kernel
theorem dX11_init_38 : decode cX11_init 38 = .ok (.new 26, 3) := by decide +kernel
theorem dX11_init_41 : decode cX11_init 41 = .ok (.dup, 1) := by decide +kernel
theorem dX11_init_42 : decode cX11_init 42 = .ok (.aload_n 0, 1) := by decide +kernel
theorem dX11_init_43 : decode cX11_init 43 = .ok (.getfield 10, 3) := by decide +kernel
theorem dX11_init_46 : decode cX11_init 46 = .ok (.aload_n 0, 1) := by decide +kernel
theorem dX11_init_47 : decode cX11_init 47 = .ok (.getfield 23, 3) := by decide +kernel
theorem dX11_init_50 : decode cX11_init 50 = .ok (.invokespecial 28, 3) := by decide +kernel
theorem dX11_init_53 : decode cX11_init 53 = .ok (.putfield 31, 3) := by decide +kernel
theorem dX11_init_56 : decode cX11_init 56 = .ok (.aload_n 0, 1) := by decide +kernel
theorem dX11_init_57 : decode cX11_init 57 = .ok (.new 35, 3) := by decide +kernel
theorem dX11_init_60 : decode cX11_init 60 = .ok (.dup, 1) := by decide +kernel
theorem dX11_init_61 : decode cX11_init 61 = .ok (.invokespecial 37, 3) := by decide +kernel
theorem dX11_init_64 : decode cX11_init 64 = .ok (.putfield 38, 3) := by decide +kernel
theorem dX11_init_67 : decode cX11_init 67 = .ok (.aload_n 0, 1) := by decide +kernel
theorem dX11_init_68 : decode cX11_init 68 = .ok (.new 35, 3) := by decide +kernel
theorem dX11_init_71 : decode cX11_init 71 = .ok (.dup, 1) := by decide +kernel
theorem dX11_init_72 : decode cX11_init 72 = .ok (.invokespecial 37, 3) := by decide +kernel
theorem dX11_init_75 : decode cX11_init 75 = .ok (.putfield 42, 3) := by decide +kernel
theorem dX11_init_78 : decode cX11_init 78 = .ok (.aload_n 0, 1) := by decide +kernel
theorem dX11_init_79 : decode cX11_init 79 = .ok (.new 35, 3) := by decide +kernel
theorem dX11_init_82 : decode cX11_init 82 = .ok (.dup, 1) := by decide +kernel
theorem dX11_init_83 : decode cX11_init 83 = .ok (.invokespecial 37, 3) := by decide +kernel
theorem dX11_init_86 : decode cX11_init 86 = .ok (.putfield 45, 3) := by decide +kernel
theorem dX11_init_89 : decode cX11_init 89 = .ok (.aload_n 0, 1) := by decide +kernel
theorem dX11_init_90 : decode cX11_init 90 = .ok (.new 48, 3) := by decide +kernel
theorem dX11_init_93 : decode cX11_init 93 = .ok (.dup, 1) := by decide +kernel
theorem dX11_init_94 : decode cX11_init 94 = .ok (.invokespecial 50, 3) := by decide +kernel
theorem dX11_init_97 : decode cX11_init 97 = .ok (.putfield 51, 3) := by decide +kernel
theorem dX11_init_100 : decode cX11_init 100 = .ok (.aload_n 0, 1) := by decide +kernel
theorem dX11_init_101 : decode cX11_init 101 = .ok (.new 55, 3) := by decide +kernel
theorem dX11_init_104 : decode cX11_init 104 = .ok (.dup, 1) := by decide +kernel
theorem dX11_init_105 : decode cX11_init 105 = .ok (.aload_n 0, 1) := by decide +kernel
theorem dX11_init_106 : decode cX11_init 106 = .ok (.getfield 19, 3) := by decide +kernel
theorem dX11_init_109 : decode cX11_init 109 = .ok (.invokespecial 57, 3) := by decide +kernel
theorem dX11_init_112 : decode cX11_init 112 = .ok (.putfield 60, 3) := by decide +kernel
theorem dX11_init_115 : decode cX11_init 115 = .ok (.aload_n 0, 1) := by decide +kernel
theorem dX11_init_116 : decode cX11_init 116 = .ok (.new 64, 3) := by decide +kernel
theorem dX11_init_119 : decode cX11_init 119 = .ok (.dup, 1) := by decide +kernel
theorem dX11_init_120 : decode cX11_init 120 = .ok (.aload_n 0, 1) := by decide +kernel
theorem dX11_init_121 : decode cX11_init 121 = .ok (.getfield 19, 3) := by decide +kernel
theorem dX11_init_124 : decode cX11_init 124 = .ok (.aload_n 0, 1) := by decide +kernel
theorem dX11_init_125 : decode cX11_init 125 = .ok (.getfield 60, 3) := by decide +kernel
theorem dX11_init_128 : decode cX11_init 128 = .ok (.invokespecial 66, 3) := by decide +kernel
theorem dX11_init_131 : decode cX11_init 131 = .ok (.putfield 69, 3) := by decide +kernel
theorem dX11_init_134 : decode cX11_init 134 = .ok (.aload_n 0, 1) := by decide +kernel
theorem dX11_init_135 : decode cX11_init 135 = .ok (.new 73, 3) := by decide +kernel
theorem dX11_init_138 : decode cX11_init 138 = .ok (.dup, 1) := by decide +kernel
theorem dX11_init_139 : decode cX11_init 139 = .ok (.invokespecial 75, 3) := by decide +kernel
theorem dX11_init_142 : decode cX11_init 142 = .ok (.putfield 76, 3) := by decide +kernel
theorem dX11_init_145 : decode cX11_init 145 = .ok (.aload_n 0, 1) := by decide +kernel
theorem dX11_init_146 : decode cX11_init 146 = .ok (.new 73, 3) := by decide +kernel
theorem dX11_init_149 : decode cX11_init 149 = .ok (.dup, 1) := by decide +kernel
theorem dX11_init_150 : decode cX11_init 150 = .ok (.invokespecial 75, 3) := by decide +kernel
theorem dX11_init_153 : decode cX11_init 153 = .ok (.putfield 80, 3) := by decide +kernel
theorem dX11_init_156 : decode cX11_init 156 = .ok (.aload_n 0, 1) := by decide +kernel
theorem dX11_init_157 : decode cX11_init 157 = .ok (.new 83, 3) := by decide +kernel
theorem dX11_init_160 : decode cX11_init 160 = .ok (.dup, 1) := by decide +kernel
theorem dX11_init_161 : decode cX11_init 161 = .ok (.aload_n 0, 1) := by decide +kernel
theorem dX11_init_162 : decode cX11_init 162 = .ok (.getfield 10, 3) := by decide +kernel
theorem dX11_init_165 : decode cX11_init 165 = .ok (.aload_n 0, 1) := by decide +kernel
theorem dX11_init_166 : decode cX11_init 166 = .ok (.getfield 19, 3) := by decide +kernel
theorem dX11_init_169 : decode cX11_init 169 = .ok (.aload_n 0, 1) := by decide +kernel
theorem dX11_init_170 : decode cX11_init 170 = .ok (.getfield 80, 3) := by decide +kernel
theorem dX11_init_173 : decode cX11_init 173 = .ok (.invokespecial 85, 3) := by decide +kernel
theorem dX11_init_176 : decode cX11_init 176 = .ok (.putfield 88, 3) := by decide +kernel
theorem dX11_init_179 : decode cX11_init 179 = .ok (.aload_n 0, 1) := by decide +kernel
theorem dX11_init_180 : decode cX11_init 180 = .ok (.new 92, 3) := by decide +kernel
theorem dX11_init_183 : decode cX11_init 183 = .ok (.dup, 1) := by decide +kernel
theorem dX11_init_184 : decode cX11_init 184 = .ok (.aload_n 0, 1) := by decide +kernel
theorem dX11_init_185 : decode cX11_init 185 = .ok (.getfield 10, 3) := by decide +kernel
theorem dX11_init_188 : decode cX11_init 188 = .ok (.aload_n 0, 1) := by decide +kernel
theorem dX11_init_189 : decode cX11_init 189 = .ok (.getfield 19, 3) := by decide +kernel
theorem dX11_init_192 : decode cX11_init 192 = .ok (.aload_n 0, 1) := by decide +kernel
theorem dX11_init_193 : decode cX11_init 193 = .ok (.getfield 69, 3) := by decide +kernel
theorem dX11_init_196 : decode cX11_init 196 = .ok (.invokespecial 94, 3) := by decide +kernel
theorem dX11_init_199 : decode cX11_init 199 = .ok (.putfield 97, 3) := by decide +kernel
theorem dX11_init_202 : decode cX11_init 202 = .ok (.aload_n 0, 1) := by decide +kernel
theorem dX11_init_203 : decode cX11_init 203 = .ok (.iconst 2, 1) := by decide +kernel
theorem dX11_init_204 : decode cX11_init 204 = .ok (.anewarray 101, 3) := by decide +kernel
theorem dX11_init_207 : decode cX11_init 207 = .ok (.putfield 103, 3) := by decide +kernel
theorem dX11_init_210 : decode cX11_init 210 = .ok (.iconst 0, 1) := by decide +kernel
theorem dX11_init_211 : decode cX11_init 211 = .ok (.istore_n 1, 1) := by decide +kernel
theorem dX11_init_212 : decode cX11_init 212 = .ok (.iload_n 1, 1) := by decide +kernel
theorem dX11_init_213 : decode cX11_init 213 = .ok (.iconst 2, 1) := by decide +kernel
theorem dX11_init_214 : decode cX11_init 214 = .ok (.if_icmp .ge 22, 3) := by decide +kernel
theorem dX11_init_217 : decode cX11_init 217 = .ok (.aload_n 0, 1) := by decide +kernel
theorem dX11_init_218 : decode cX11_init 218 = .ok (.getfield 103, 3) := by decide +kernel
theorem dX11_init_221 : decode cX11_init 221 = .ok (.iload_n 1, 1) := by decide +kernel
theorem dX11_init_222 : decode cX11_init 222 = .ok (.new 101, 3) := by decide +kernel
theorem dX11_init_225 : decode cX11_init 225 = .ok (.dup, 1) := by decide +kernel
theorem dX11_init_226 : decode cX11_init 226 = .ok (.invokespecial 107, 3) := by decide +kernel
theorem dX11_init_229 : decode cX11_init 229 = .ok (.aastore, 1) := by decide +kernel
theorem dX11_init_230 : decode cX11_init 230 = .ok (.iinc 1 1, 3) := by decide +kernel
theorem dX11_init_233 : decode cX11_init 233 = .ok (.goto (-21), 3) := by decide +kernel
theorem dX11_init_236 : decode cX11_init 236 = .ok (.aload_n 0, 1) := by decide +kernel
theorem dX11_init_237 : decode cX11_init 237 = .ok (.iconst 2, 1) := by decide +kernel
theorem dX11_init_238 : decode cX11_init 238 = .ok (.newarray .int, 2) := by decide +kernel
theorem dX11_init_240 : decode cX11_init 240 = .ok (.putfield 108, 3) := by decide +kernel
theorem dX11_init_243 : decode cX11_init 243 = .ok (.aload_n 0, 1) := by decide +kernel
theorem dX11_init_244 : decode cX11_init 244 = .ok (.iconst 4, 1) := by decide +kernel
theorem dX11_init_245 : decode cX11_init 245 = .ok (.newarray .int, 2) := by decide +kernel
theorem dX11_init_247 : decode cX11_init 247 = .ok (.putfield 112, 3) := by decide +kernel
theorem dX11_init_250 : decode cX11_init 250 = .ok (.return_, 1) := by decide +kernel
set_option maxRecDepth 20000 in
theorem ggX11_feed_X8_append : GoodIn wsX11_feed wsX8_append := goodIn_r _ [6, 7, 8, 28, 29, 30, 31, 32, 33, 34, 35, 36, 37, 38, 39, 40, 41, 42] rfl (by decide +kernel)
set_option maxRecDepth 20000 in
theorem gX11_feed_X8_append : GoodIn wsX11_feed (wsV RX11 119 RX8 yX8_append wsX8_append) := goodIn_app (goodIn_of _ (by decide +kernel)) ggX11_feed_X8_append
theorem dX11_feed_0 : decode cX11_feed 0 = .ok (.aload_n 0, 1) := by decide +kernel
theorem dX11_feed_1 : decode cX11_feed 1 = .ok (.getfield 10, 3) := by decide +kernel
theorem dX11_feed_4 : decode cX11_feed 4 = .ok (.getfield 115, 3) := by decide +kernel
theorem dX11_feed_7 : decode cX11_feed 7 = .ok (.bipush 20, 2) := by decide +kernel
theorem dX11_feed_9 : decode cX11_feed 9 = .ok (.iadd, 1) := by decide +kernel
theorem dX11_feed_10 : decode cX11_feed 10 = .ok (.sipush 940, 3) := by decide +kernel
theorem dX11_feed_13 : decode cX11_feed 13 = .ok (.if_icmp .le 5, 3) := by decide +kernel
theorem dX11_feed_16 : decode cX11_feed 16 = .ok (.iconst (-1), 1) := by decide +kernel
theorem dX11_feed_17 : decode cX11_feed 17 = .ok (.ireturn, 1) := by decide +kernel
theorem dX11_feed_18 : decode cX11_feed 18 = .ok (.aload_n 0, 1) := by decide +kernel
theorem dX11_feed_19 : decode cX11_feed 19 = .ok (.getfield 10, 3) := by decide +kernel
theorem dX11_feed_22 : decode cX11_feed 22 = .ok (.iload_n 1, 1) := by decide +kernel
theorem dX11_feed_23 : decode cX11_feed 23 = .ok (.invokevirtual 119, 3) := by decide +kernel
theorem dX11_feed_26 : decode cX11_feed 26 = .ok (.aload_n 0, 1) := by decide +kernel
theorem dX11_feed_27 : decode cX11_feed 27 = .ok (.getfield 10, 3) := by decide +kernel
theorem dX11_feed_30 : decode cX11_feed 30 = .ok (.iload_n 2, 1) := by decide +kernel
theorem dX11_feed_31 : decode cX11_feed 31 = .ok (.invokevirtual 119, 3) := by decide +kernel
theorem dX11_feed_34 : decode cX11_feed 34 = .ok (.aload_n 0, 1) := by decide +kernel
theorem dX11_feed_35 : decode cX11_feed 35 = .ok (.getfield 10, 3) := by decide +kernel
theorem dX11_feed_38 : decode cX11_feed 38 = .ok (.iload_n 3, 1) := by decide +kernel
theorem dX11_feed_39 : decode cX11_feed 39 = .ok (.invokevirtual 119, 3) := by decide +kernel
theorem dX11_feed_42 : decode cX11_feed 42 = .ok (.aload_n 0, 1) := by decide +kernel
theorem dX11_feed_43 : decode cX11_feed 43 = .ok (.getfield 10, 3) := by decide +kernel
theorem dX11_feed_46 : decode cX11_feed 46 = .ok (.iload 4, 2) := by decide +kernel
theorem dX11_feed_48 : decode cX11_feed 48 = .ok (.invokevirtual 119, 3) := by decide +kernel
theorem dX11_feed_51 : decode cX11_feed 51 = .ok (.aload_n 0, 1) := by decide +kernel
theorem dX11_feed_52 : decode cX11_feed 52 = .ok (.getfield 10, 3) := by decide +kernel
theorem dX11_feed_55 : decode cX11_feed 55 = .ok (.iload 5, 2) := by decide +kernel
theorem dX11_feed_57 : decode cX11_feed 57 = .ok (.invokevirtual 119, 3) := by decide +kernel
theorem dX11_feed_60 : decode cX11_feed 60 = .ok (.aload_n 0, 1) := by decide +kernel
theorem dX11_feed_61 : decode cX11_feed 61 = .ok (.getfield 10, 3) := by decide +kernel
theorem dX11_feed_64 : decode cX11_feed 64 = .ok (.getfield 115, 3) := by decide +kernel
theorem dX11_feed_67 : decode cX11_feed 67 = .ok (.ireturn, 1) := by decide +kernel
theorem dX11_end_0 : decode cX11_end 0 = .ok (.iload_n 1, 1) := by decide +kernel
theorem dX11_end_1 : decode cX11_end 1 = .ok (.ifCond .lt 14, 3) := by decide +kernel
theorem dX11_end_4 : decode cX11_end 4 = .ok (.iload_n 1, 1) := by decide +kernel
theorem dX11_end_5 : decode cX11_end 5 = .ok (.aload_n 0, 1) := by decide +kernel
theorem dX11_end_6 : decode cX11_end 6 = .ok (.getfield 10, 3) := by decide +kernel
theorem dX11_end_9 : decode cX11_end 9 = .ok (.getfield 115, 3) := by decide +kernel
theorem dX11_end_12 : decode cX11_end 12 = .ok (.if_icmp .le 5, 3) := by decide +kernel
theorem dX11_end_15 : decode cX11_end 15 = .ok (.iconst 0, 1) := by decide +kernel
theorem dX11_end_16 : decode cX11_end 16 = .ok (.ireturn, 1) := by decide +kernel
theorem dX11_end_17 : decode cX11_end 17 = .ok (.aload_n 0, 1) := by decide +kernel
theorem dX11_end_18 : decode cX11_end 18 = .ok (.getfield 10, 3) := by decide +kernel
theorem dX11_end_21 : decode cX11_end 21 = .ok (.iload_n 1, 1) := by decide +kernel
theorem dX11_end_22 : decode cX11_end 22 = .ok (.putfield 115, 3) := by decide +kernel
theorem dX11_end_25 : decode cX11_end 25 = .ok (.iconst 1, 1) := by decide +kernel
theorem dX11_end_26 : decode cX11_end 26 = .ok (.ireturn, 1) := by decide +kernel
set_option maxRecDepth 20000 in
theorem ggX11_valley_X8_scan : GoodIn wsX11_valley wsX8_scan := goodIn_r _ [12, 13, 14, 15, 16, 17, 18, 19, 20, 21, 22, 23, 24, 11, 25, 26, 27, 28, 29, 30, 31, 32, 33, 34, 35, 36, 37, 38, 39, 40, 41, 42, 43, 44, 45, 46, 47, 48, 49, 50, 51, 52, 53, 54, 55, 56, 57, 58, 59, 60, 61, 62, 63, 64, 65, 66, 67, 68, 69, 70, 71, 72, 73, 74, 75, 76, 77, 78, 79, 80, 81, 82, 83, 84, 85, 86, 87, 88, 89, 90, 91, 92, 93, 94, 95, 96, 97, 98, 99, 100, 101, 102, 103, 104, 105, 106, 107, 108, 109, 110, 111, 112, 113, 114, 115, 116, 117, 118, 119, 120, 121, 322, 323, 324, 325, 326, 327, 328, 329, 330, 331, 332, 333, 334, 335, 336] rfl (by decide +kernel)
set_option maxRecDepth 20000 in
theorem gX11_valley_X8_scan : GoodIn wsX11_valley (wsV RX11 123 RX8 yX8_scan wsX8_scan) := goodIn_app (goodIn_of _ (by decide +kernel)) ggX11_valley_X8_scan
set_option maxRecDepth 20000 in
theorem ggX11_valley_X10_read : GoodIn wsX11_valley wsX10_read := goodIn_r _ [126, 127, 128, 129, 130, 131, 132, 133, 134, 135, 136, 137, 138, 139, 140, 141, 142, 143, 144, 145, 146, 125, 147, 148, 149, 150, 151, 152, 153, 154, 155, 156, 157, 158, 11, 159, 13, 119, 14, 160, 115, 116, 117, 21, 15, 104, 118, 105, 106, 120, 107, 121, 161, 162, 163, 164, 165, 166, 114, 167, 168, 169, 170, 171, 172, 173, 174, 175, 176, 177, 178, 179, 180, 181, 182, 183, 184, 185, 186, 187, 188, 189, 190, 191, 192, 193, 194, 195, 196, 197, 198, 199, 200, 201, 202, 203, 204, 205, 206, 207, 208, 209, 210, 211, 212, 213, 214, 215, 216, 217, 218, 219, 220, 221, 222, 223, 224, 225, 226, 227, 228, 229, 230, 231, 232, 233, 234, 235, 236, 237, 238, 239, 240, 241, 242, 243, 244, 245, 246, 247, 248, 249, 250, 251, 252, 253, 254, 255, 256, 337, 338, 339, 340, 341, 322, 323, 324, 325, 326, 327, 328, 329, 330, 331, 332, 333, 334, 335, 336, 342, 343, 344, 345, 346, 347, 348, 349, 350, 351, 352, 353, 354, 355] rfl (by decide +kernel)
set_option maxRecDepth 20000 in
theorem gX11_valley_X10_read : GoodIn wsX11_valley (wsV RX11 126 RX10 yX10_read wsX10_read) := goodIn_app (goodIn_of _ (by decide +kernel)) ggX11_valley_X10_read
set_option maxRecDepth 20000 in
theorem ggX11_valley_X11_emptyTape : GoodIn wsX11_valley wsX11_emptyTape := goodIn_r _ [261, 1, 262, 303, 304, 305, 306, 307, 308, 309, 310, 311, 312, 313, 314, 315, 316, 317, 318, 319, 320, 321, 322, 323, 324, 325, 326, 327, 328, 329, 330, 331, 332, 333, 334, 335, 336] rfl (by decide +kernel)
set_option maxRecDepth 20000 in
theorem gX11_valley_X11_emptyTape : GoodIn wsX11_valley (wsV RX11 130 RX11 yX11_emptyTape wsX11_emptyTape) := goodIn_app (goodIn_of _ (by decide +kernel)) ggX11_valley_X11_emptyTape
set_option maxRecDepth 20000 in
theorem ggX11_valley_X9_copyFrom : GoodIn wsX11_valley wsX9_copyFrom := goodIn_r _ [266, 137, 138, 139, 140, 141, 142, 143, 187, 267, 268, 269, 270, 188, 251, 271, 252, 272, 242, 273, 274, 135, 275, 276, 18, 19, 20, 342, 343, 344, 345, 346, 347, 348, 349, 350, 351, 352, 353, 354, 355] rfl (by decide +kernel)
set_option maxRecDepth 20000 in
theorem gX11_valley_X9_copyFrom : GoodIn wsX11_valley (wsV RX11 136 RX9 yX9_copyFrom wsX9_copyFrom) := goodIn_app (goodIn_of _ (by decide +kernel)) ggX11_valley_X9_copyFrom
set_option maxRecDepth 20000 in
theorem ggX11_valley_X2_begin : GoodIn wsX11_valley wsX2_begin := goodIn_r _ [281, 282, 283, 284, 285, 286, 287, 288, 356, 357, 358, 359, 360, 361, 362, 342, 343, 344, 345, 346, 347, 348, 349, 350, 351, 352, 353, 354, 355] rfl (by decide +kernel)
set_option maxRecDepth 20000 in
theorem gX11_valley_X2_begin : GoodIn wsX11_valley (wsV RX11 139 RX2 yX2_begin wsX2_begin) := goodIn_app (goodIn_of _ (by decide +kernel)) ggX11_valley_X2_begin
set_option maxRecDepth 20000 in
theorem ggX11_valley_X6_clear : GoodIn wsX11_valley wsX6_clear := goodIn_r _ [293, 294, 295, 296, 363, 364, 365, 366, 367, 368, 369] rfl (by decide +kernel)
set_option maxRecDepth 20000 in
theorem gX11_valley_X6_clear : GoodIn wsX11_valley (wsV RX11 142 RX6 yX6_clear wsX6_clear) := goodIn_app (goodIn_of _ (by decide +kernel)) ggX11_valley_X6_clear
set_option maxRecDepth 20000 in
theorem ggX11_valley_X3_clear : GoodIn wsX11_valley wsX3_clear := goodIn_r _ [301, 302, 370, 371, 372] rfl (by decide +kernel)
set_option maxRecDepth 20000 in
theorem gX11_valley_X3_clear : GoodIn wsX11_valley (wsV RX11 145 RX3 yX3_clear wsX3_clear) := goodIn_app (goodIn_of _ (by decide +kernel)) ggX11_valley_X3_clear
theorem dX11_valley_0 : decode cX11_valley 0 = .ok (.aload_n 0, 1) := by decide +kernel
theorem dX11_valley_1 : decode cX11_valley 1 = .ok (.getfield 10, 3) := by decide +kernel
theorem dX11_valley_4 : decode cX11_valley 4 = .ok (.sipush 900, 3) := by decide +kernel
theorem dX11_valley_7 : decode cX11_valley 7 = .ok (.invokevirtual 123, 3) := by decide +kernel
theorem dX11_valley_10 : decode cX11_valley 10 = .ok (.aload_n 0, 1) := by decide +kernel
theorem dX11_valley_11 : decode cX11_valley 11 = .ok (.getfield 31, 3) := by decide +kernel
theorem dX11_valley_14 : decode cX11_valley 14 = .ok (.invokevirtual 126, 3) := by decide +kernel
theorem dX11_valley_17 : decode cX11_valley 17 = .ok (.istore_n 1, 1) := by decide +kernel
theorem dX11_valley_18 : decode cX11_valley 18 = .ok (.aload_n 0, 1) := by decide +kernel
theorem dX11_valley_19 : decode cX11_valley 19 = .ok (.invokevirtual 130, 3) := by decide +kernel
theorem dX11_valley_22 : decode cX11_valley 22 = .ok (.iload_n 1, 1) := by decide +kernel
theorem dX11_valley_23 : decode cX11_valley 23 = .ok (.ifCond .ne 13, 3) := by decide +kernel
theorem dX11_valley_26 : decode cX11_valley 26 = .ok (.iconst (-1), 1) := by decide +kernel
theorem dX11_valley_27 : decode cX11_valley 27 = .ok (.aload_n 0, 1) := by decide +kernel
theorem dX11_valley_28 : decode cX11_valley 28 = .ok (.getfield 10, 3) := by decide +kernel
theorem dX11_valley_31 : decode cX11_valley 31 = .ok (.getfield 133, 3) := by decide +kernel
theorem dX11_valley_34 : decode cX11_valley 34 = .ok (.isub, 1) := by decide +kernel
theorem dX11_valley_35 : decode cX11_valley 35 = .ok (.ireturn, 1) := by decide +kernel
theorem dX11_valley_36 : decode cX11_valley 36 = .ok (.aload_n 0, 1) := by decide +kernel
theorem dX11_valley_37 : decode cX11_valley 37 = .ok (.getfield 19, 3) := by decide +kernel
theorem dX11_valley_40 : decode cX11_valley 40 = .ok (.aload_n 0, 1) := by decide +kernel
theorem dX11_valley_41 : decode cX11_valley 41 = .ok (.getfield 23, 3) := by decide +kernel
theorem dX11_valley_44 : decode cX11_valley 44 = .ok (.invokevirtual 136, 3) := by decide +kernel
theorem dX11_valley_47 : decode cX11_valley 47 = .ok (.aload_n 0, 1) := by decide +kernel
theorem dX11_valley_48 : decode cX11_valley 48 = .ok (.getfield 38, 3) := by decide +kernel
theorem dX11_valley_51 : decode cX11_valley 51 = .ok (.aload_n 0, 1) := by decide +kernel
theorem dX11_valley_52 : decode cX11_valley 52 = .ok (.getfield 19, 3) := by decide +kernel
theorem dX11_valley_55 : decode cX11_valley 55 = .ok (.invokevirtual 139, 3) := by decide +kernel
theorem dX11_valley_58 : decode cX11_valley 58 = .ok (.aload_n 0, 1) := by decide +kernel
theorem dX11_valley_59 : decode cX11_valley 59 = .ok (.getfield 76, 3) := by decide +kernel
theorem dX11_valley_62 : decode cX11_valley 62 = .ok (.invokevirtual 142, 3) := by decide +kernel
theorem dX11_valley_65 : decode cX11_valley 65 = .ok (.aload_n 0, 1) := by decide +kernel
theorem dX11_valley_66 : decode cX11_valley 66 = .ok (.getfield 51, 3) := by decide +kernel
theorem dX11_valley_69 : decode cX11_valley 69 = .ok (.invokevirtual 145, 3) := by decide +kernel
theorem dX11_valley_72 : decode cX11_valley 72 = .ok (.aload_n 0, 1) := by decide +kernel
theorem dX11_valley_73 : decode cX11_valley 73 = .ok (.getfield 31, 3) := by decide +kernel
theorem dX11_valley_76 : decode cX11_valley 76 = .ok (.getfield 146, 3) := by decide +kernel
theorem dX11_valley_79 : decode cX11_valley 79 = .ok (.ireturn, 1) := by decide +kernel
theorem dX11_fault_0 : decode cX11_fault 0 = .ok (.aload_n 0, 1) := by decide +kernel
theorem dX11_fault_1 : decode cX11_fault 1 = .ok (.getfield 149, 3) := by decide +kernel
theorem dX11_fault_4 : decode cX11_fault 4 = .ok (.ireturn, 1) := by decide +kernel
theorem dX11_emptyTape_0 : decode cX11_emptyTape 0 = .ok (.aload_n 0, 1) := by decide +kernel
theorem dX11_emptyTape_1 : decode cX11_emptyTape 1 = .ok (.getfield 10, 3) := by decide +kernel
theorem dX11_emptyTape_4 : decode cX11_emptyTape 4 = .ok (.iconst 0, 1) := by decide +kernel
theorem dX11_emptyTape_5 : decode cX11_emptyTape 5 = .ok (.putfield 115, 3) := by decide +kernel
theorem dX11_emptyTape_8 : decode cX11_emptyTape 8 = .ok (.aload_n 0, 1) := by decide +kernel
theorem dX11_emptyTape_9 : decode cX11_emptyTape 9 = .ok (.aload_n 0, 1) := by decide +kernel
theorem dX11_emptyTape_10 : decode cX11_emptyTape 10 = .ok (.getfield 10, 3) := by decide +kernel
theorem dX11_emptyTape_13 : decode cX11_emptyTape 13 = .ok (.getfield 152, 3) := by decide +kernel
theorem dX11_emptyTape_16 : decode cX11_emptyTape 16 = .ok (.putfield 149, 3) := by decide +kernel
theorem dX11_emptyTape_19 : decode cX11_emptyTape 19 = .ok (.return_, 1) := by decide +kernel
set_option maxRecDepth 20000 in
theorem ggX11_hill_X9_hasHill : GoodIn wsX11_hill wsX9_hasHill := goodIn_r _ [7, 8, 39, 40, 41, 42, 43, 44, 45, 46, 47, 48, 49, 50, 51, 52] rfl (by decide +kernel)
set_option maxRecDepth 20000 in
theorem gX11_hill_X9_hasHill : GoodIn wsX11_hill (wsV RX11 155 RX9 yX9_hasHill wsX9_hasHill) := goodIn_app (goodIn_of _ (by decide +kernel)) ggX11_hill_X9_hasHill
set_option maxRecDepth 20000 in
theorem ggX11_hill_X9_side : GoodIn wsX11_hill wsX9_side := goodIn_r _ [12, 13, 39, 40, 41, 42, 43, 44, 45, 46, 47, 48, 49, 50, 51, 52] rfl (by decide +kernel)
set_option maxRecDepth 20000 in
theorem gX11_hill_X9_side : GoodIn wsX11_hill (wsV RX11 163 RX9 yX9_side wsX9_side) := goodIn_app (goodIn_of _ (by decide +kernel)) ggX11_hill_X9_side
set_option maxRecDepth 20000 in
theorem ggX11_hill_X2_menOn : GoodIn wsX11_hill wsX2_menOn := goodIn_r _ [18, 19, 53, 54, 55, 56, 57, 58, 59] rfl (by decide +kernel)
set_option maxRecDepth 20000 in
theorem gX11_hill_X2_menOn : GoodIn wsX11_hill (wsV RX11 170 RX2 yX2_menOn wsX2_menOn) := goodIn_app (goodIn_of _ (by decide +kernel)) ggX11_hill_X2_menOn
theorem dX11_hill_0 : decode cX11_hill 0 = .ok (.aload_n 0, 1) := by decide +kernel
theorem dX11_hill_1 : decode cX11_hill 1 = .ok (.getfield 19, 3) := by decide +kernel
theorem dX11_hill_4 : decode cX11_hill 4 = .ok (.iload_n 1, 1) := by decide +kernel
theorem dX11_hill_5 : decode cX11_hill 5 = .ok (.invokevirtual 155, 3) := by decide +kernel
theorem dX11_hill_8 : decode cX11_hill 8 = .ok (.ifCond .ne 5, 3) := by decide +kernel
theorem dX11_hill_11 : decode cX11_hill 11 = .ok (.iconst (-1), 1) := by decide +kernel
theorem dX11_hill_12 : decode cX11_hill 12 = .ok (.ireturn, 1) := by decide +kernel
theorem dX11_hill_13 : decode cX11_hill 13 = .ok (.iload_n 2, 1) := by decide +kernel
theorem dX11_hill_14 : decode cX11_hill 14 = .ok (.tableswitch 105 0 4 #[34, 46, 58, 70, 89], 34) := by decide +kernel
theorem dX11_hill_48 : decode cX11_hill 48 = .ok (.aload_n 0, 1) := by decide +kernel
theorem dX11_hill_49 : decode cX11_hill 49 = .ok (.getfield 19, 3) := by decide +kernel
theorem dX11_hill_52 : decode cX11_hill 52 = .ok (.getfield 159, 3) := by decide +kernel
theorem dX11_hill_55 : decode cX11_hill 55 = .ok (.iload_n 1, 1) := by decide +kernel
theorem dX11_hill_56 : decode cX11_hill 56 = .ok (.aaload, 1) := by decide +kernel
theorem dX11_hill_57 : decode cX11_hill 57 = .ok (.iconst 0, 1) := by decide +kernel
theorem dX11_hill_58 : decode cX11_hill 58 = .ok (.iaload, 1) := by decide +kernel
theorem dX11_hill_59 : decode cX11_hill 59 = .ok (.ireturn, 1) := by decide +kernel
theorem dX11_hill_60 : decode cX11_hill 60 = .ok (.aload_n 0, 1) := by decide +kernel
theorem dX11_hill_61 : decode cX11_hill 61 = .ok (.getfield 19, 3) := by decide +kernel
theorem dX11_hill_64 : decode cX11_hill 64 = .ok (.getfield 159, 3) := by decide +kernel
theorem dX11_hill_67 : decode cX11_hill 67 = .ok (.iload_n 1, 1) := by decide +kernel
theorem dX11_hill_68 : decode cX11_hill 68 = .ok (.aaload, 1) := by decide +kernel
theorem dX11_hill_69 : decode cX11_hill 69 = .ok (.iconst 1, 1) := by decide +kernel
theorem dX11_hill_70 : decode cX11_hill 70 = .ok (.iaload, 1) := by decide +kernel
theorem dX11_hill_71 : decode cX11_hill 71 = .ok (.ireturn, 1) := by decide +kernel
theorem dX11_hill_72 : decode cX11_hill 72 = .ok (.aload_n 0, 1) := by decide +kernel
theorem dX11_hill_73 : decode cX11_hill 73 = .ok (.getfield 19, 3) := by decide +kernel
theorem dX11_hill_76 : decode cX11_hill 76 = .ok (.getfield 159, 3) := by decide +kernel
theorem dX11_hill_79 : decode cX11_hill 79 = .ok (.iload_n 1, 1) := by decide +kernel
theorem dX11_hill_80 : decode cX11_hill 80 = .ok (.aaload, 1) := by decide +kernel
theorem dX11_hill_81 : decode cX11_hill 81 = .ok (.iconst 2, 1) := by decide +kernel
theorem dX11_hill_82 : decode cX11_hill 82 = .ok (.iaload, 1) := by decide +kernel
theorem dX11_hill_83 : decode cX11_hill 83 = .ok (.ireturn, 1) := by decide +kernel
theorem dX11_hill_84 : decode cX11_hill 84 = .ok (.aload_n 0, 1) := by decide +kernel
theorem dX11_hill_85 : decode cX11_hill 85 = .ok (.getfield 19, 3) := by decide +kernel
theorem dX11_hill_88 : decode cX11_hill 88 = .ok (.aload_n 0, 1) := by decide +kernel
theorem dX11_hill_89 : decode cX11_hill 89 = .ok (.getfield 19, 3) := by decide +kernel
theorem dX11_hill_92 : decode cX11_hill 92 = .ok (.getfield 159, 3) := by decide +kernel
theorem dX11_hill_95 : decode cX11_hill 95 = .ok (.iload_n 1, 1) := by decide +kernel
theorem dX11_hill_96 : decode cX11_hill 96 = .ok (.aaload, 1) := by decide +kernel
theorem dX11_hill_97 : decode cX11_hill 97 = .ok (.iconst 0, 1) := by decide +kernel
theorem dX11_hill_98 : decode cX11_hill 98 = .ok (.iaload, 1) := by decide +kernel
theorem dX11_hill_99 : decode cX11_hill 99 = .ok (.invokevirtual 163, 3) := by decide +kernel
theorem dX11_hill_102 : decode cX11_hill 102 = .ok (.ireturn, 1) := by decide +kernel
theorem dX11_hill_103 : decode cX11_hill 103 = .ok (.aload_n 0, 1) := by decide +kernel
theorem dX11_hill_104 : decode cX11_hill 104 = .ok (.getfield 38, 3) := by decide +kernel
theorem dX11_hill_107 : decode cX11_hill 107 = .ok (.iload_n 1, 1) := by decide +kernel
theorem dX11_hill_108 : decode cX11_hill 108 = .ok (.aload_n 0, 1) := by decide +kernel
theorem dX11_hill_109 : decode cX11_hill 109 = .ok (.getfield 19, 3) := by decide +kernel
theorem dX11_hill_112 : decode cX11_hill 112 = .ok (.getfield 167, 3) := by decide +kernel
theorem dX11_hill_115 : decode cX11_hill 115 = .ok (.invokevirtual 170, 3) := by decide +kernel
theorem dX11_hill_118 : decode cX11_hill 118 = .ok (.ireturn, 1) := by decide +kernel
theorem dX11_hill_119 : decode cX11_hill 119 = .ok (.iconst (-1), 1) := by decide +kernel
theorem dX11_hill_120 : decode cX11_hill 120 = .ok (.ireturn, 1) := by decide +kernel
set_option maxRecDepth 20000 in
theorem ggX11_man_X9_hasMan : GoodIn wsX11_man wsX9_hasMan := goodIn_r _ [9, 10, 37, 38, 39, 40, 41, 42, 43, 44, 45, 46, 47, 48, 49, 50] rfl (by decide +kernel)
set_option maxRecDepth 20000 in
theorem gX11_man_X9_hasMan : GoodIn wsX11_man (wsV RX11 174 RX9 yX9_hasMan wsX9_hasMan) := goodIn_app (goodIn_of _ (by decide +kernel)) ggX11_man_X9_hasMan
theorem dX11_man_0 : decode cX11_man 0 = .ok (.aload_n 0, 1) := by decide +kernel
theorem dX11_man_1 : decode cX11_man 1 = .ok (.getfield 19, 3) := by decide +kernel
theorem dX11_man_4 : decode cX11_man 4 = .ok (.iload_n 1, 1) := by decide +kernel
theorem dX11_man_5 : decode cX11_man 5 = .ok (.invokevirtual 174, 3) := by decide +kernel
theorem dX11_man_8 : decode cX11_man 8 = .ok (.ifCond .ne 13, 3) := by decide +kernel
theorem dX11_man_11 : decode cX11_man 11 = .ok (.new 177, 3) := by decide +kernel
theorem dX11_man_14 : decode cX11_man 14 = .ok (.dup, 1) := by decide +kernel
theorem dX11_man_15 : decode cX11_man 15 = .ok (.ldc 179, 2) := by decide +kernel
theorem dX11_man_17 : decode cX11_man 17 = .ok (.invokespecial 181, 3) := by decide +kernel
theorem dX11_man_20 : decode cX11_man 20 = .ok (.athrow, 1) := by decide +kernel
theorem dX11_man_21 : decode cX11_man 21 = .ok (.iload_n 2, 1) := by decide +kernel
theorem dX11_man_22 : decode cX11_man 22 = .ok (.tableswitch 134 0 7 #[46, 56, 68, 78, 90, 102, 112, 122], 46) := by decide +kernel
theorem dX11_man_68 : decode cX11_man 68 = .ok (.aload_n 0, 1) := by decide +kernel
theorem dX11_man_69 : decode cX11_man 69 = .ok (.getfield 38, 3) := by decide +kernel
theorem dX11_man_72 : decode cX11_man 72 = .ok (.getfield 184, 3) := by decide +kernel
theorem dX11_man_75 : decode cX11_man 75 = .ok (.iload_n 1, 1) := by decide +kernel
theorem dX11_man_76 : decode cX11_man 76 = .ok (.iaload, 1) := by decide +kernel
theorem dX11_man_77 : decode cX11_man 77 = .ok (.ireturn, 1) := by decide +kernel
theorem dX11_man_78 : decode cX11_man 78 = .ok (.aload_n 0, 1) := by decide +kernel
theorem dX11_man_79 : decode cX11_man 79 = .ok (.getfield 19, 3) := by decide +kernel
theorem dX11_man_82 : decode cX11_man 82 = .ok (.getfield 186, 3) := by decide +kernel
theorem dX11_man_85 : decode cX11_man 85 = .ok (.iload_n 1, 1) := by decide +kernel
theorem dX11_man_86 : decode cX11_man 86 = .ok (.aaload, 1) := by decide +kernel
theorem dX11_man_87 : decode cX11_man 87 = .ok (.iconst 1, 1) := by decide +kernel
theorem dX11_man_88 : decode cX11_man 88 = .ok (.iaload, 1) := by decide +kernel
theorem dX11_man_89 : decode cX11_man 89 = .ok (.ireturn, 1) := by decide +kernel
theorem dX11_man_90 : decode cX11_man 90 = .ok (.aload_n 0, 1) := by decide +kernel
theorem dX11_man_91 : decode cX11_man 91 = .ok (.getfield 38, 3) := by decide +kernel
theorem dX11_man_94 : decode cX11_man 94 = .ok (.getfield 189, 3) := by decide +kernel
theorem dX11_man_97 : decode cX11_man 97 = .ok (.iload_n 1, 1) := by decide +kernel
theorem dX11_man_98 : decode cX11_man 98 = .ok (.iaload, 1) := by decide +kernel
theorem dX11_man_99 : decode cX11_man 99 = .ok (.ireturn, 1) := by decide +kernel
theorem dX11_man_100 : decode cX11_man 100 = .ok (.aload_n 0, 1) := by decide +kernel
theorem dX11_man_101 : decode cX11_man 101 = .ok (.getfield 19, 3) := by decide +kernel
theorem dX11_man_104 : decode cX11_man 104 = .ok (.getfield 186, 3) := by decide +kernel
theorem dX11_man_107 : decode cX11_man 107 = .ok (.iload_n 1, 1) := by decide +kernel
theorem dX11_man_108 : decode cX11_man 108 = .ok (.aaload, 1) := by decide +kernel
theorem dX11_man_109 : decode cX11_man 109 = .ok (.iconst 3, 1) := by decide +kernel
theorem dX11_man_110 : decode cX11_man 110 = .ok (.iaload, 1) := by decide +kernel
theorem dX11_man_111 : decode cX11_man 111 = .ok (.ireturn, 1) := by decide +kernel
theorem dX11_man_112 : decode cX11_man 112 = .ok (.aload_n 0, 1) := by decide +kernel
theorem dX11_man_113 : decode cX11_man 113 = .ok (.getfield 19, 3) := by decide +kernel
theorem dX11_man_116 : decode cX11_man 116 = .ok (.getfield 186, 3) := by decide +kernel
theorem dX11_man_119 : decode cX11_man 119 = .ok (.iload_n 1, 1) := by decide +kernel
theorem dX11_man_120 : decode cX11_man 120 = .ok (.aaload, 1) := by decide +kernel
theorem dX11_man_121 : decode cX11_man 121 = .ok (.iconst 4, 1) := by decide +kernel
theorem dX11_man_122 : decode cX11_man 122 = .ok (.iaload, 1) := by decide +kernel
theorem dX11_man_123 : decode cX11_man 123 = .ok (.ireturn, 1) := by decide +kernel
theorem dX11_man_124 : decode cX11_man 124 = .ok (.aload_n 0, 1) := by decide +kernel
theorem dX11_man_125 : decode cX11_man 125 = .ok (.getfield 38, 3) := by decide +kernel
theorem dX11_man_128 : decode cX11_man 128 = .ok (.getfield 192, 3) := by decide +kernel
theorem dX11_man_131 : decode cX11_man 131 = .ok (.iload_n 1, 1) := by decide +kernel
theorem dX11_man_132 : decode cX11_man 132 = .ok (.iaload, 1) := by decide +kernel
theorem dX11_man_133 : decode cX11_man 133 = .ok (.ireturn, 1) := by decide +kernel
theorem dX11_man_134 : decode cX11_man 134 = .ok (.aload_n 0, 1) := by decide +kernel
theorem dX11_man_135 : decode cX11_man 135 = .ok (.getfield 38, 3) := by decide +kernel
theorem dX11_man_138 : decode cX11_man 138 = .ok (.getfield 195, 3) := by decide +kernel
theorem dX11_man_141 : decode cX11_man 141 = .ok (.iload_n 1, 1) := by decide +kernel
theorem dX11_man_142 : decode cX11_man 142 = .ok (.iaload, 1) := by decide +kernel
theorem dX11_man_143 : decode cX11_man 143 = .ok (.ireturn, 1) := by decide +kernel
theorem dX11_man_144 : decode cX11_man 144 = .ok (.aload_n 0, 1) := by decide +kernel
theorem dX11_man_145 : decode cX11_man 145 = .ok (.getfield 19, 3) := by decide +kernel
theorem dX11_man_148 : decode cX11_man 148 = .ok (.getfield 186, 3) := by decide +kernel
theorem dX11_man_151 : decode cX11_man 151 = .ok (.iload_n 1, 1) := by decide +kernel
theorem dX11_man_152 : decode cX11_man 152 = .ok (.aaload, 1) := by decide +kernel
theorem dX11_man_153 : decode cX11_man 153 = .ok (.iconst 5, 1) := by decide +kernel
theorem dX11_man_154 : decode cX11_man 154 = .ok (.iaload, 1) := by decide +kernel
theorem dX11_man_155 : decode cX11_man 155 = .ok (.ireturn, 1) := by decide +kernel
theorem dX11_man_156 : decode cX11_man 156 = .ok (.new 177, 3) := by decide +kernel
theorem dX11_man_159 : decode cX11_man 159 = .ok (.dup, 1) := by decide +kernel
theorem dX11_man_160 : decode cX11_man 160 = .ok (.ldc 198, 2) := by decide +kernel
theorem dX11_man_162 : decode cX11_man 162 = .ok (.invokespecial 181, 3) := by decide +kernel
theorem dX11_man_165 : decode cX11_man 165 = .ok (.athrow, 1) := by decide +kernel
set_option maxRecDepth 20000 in
theorem ggX11_flight_X9_hasFlight : GoodIn wsX11_flight wsX9_hasFlight := goodIn_r _ [6, 7, 27, 28, 29, 30, 31, 32, 33, 34, 35, 36, 37, 38, 39, 40] rfl (by decide +kernel)
set_option maxRecDepth 20000 in
theorem gX11_flight_X9_hasFlight : GoodIn wsX11_flight (wsV RX11 200 RX9 yX9_hasFlight wsX9_hasFlight) := goodIn_app (goodIn_of _ (by decide +kernel)) ggX11_flight_X9_hasFlight
theorem dX11_flight_0 : decode cX11_flight 0 = .ok (.aload_n 0, 1) := by decide +kernel
theorem dX11_flight_1 : decode cX11_flight 1 = .ok (.getfield 19, 3) := by decide +kernel
theorem dX11_flight_4 : decode cX11_flight 4 = .ok (.iload_n 1, 1) := by decide +kernel
theorem dX11_flight_5 : decode cX11_flight 5 = .ok (.invokevirtual 200, 3) := by decide +kernel
theorem dX11_flight_8 : decode cX11_flight 8 = .ok (.ifCond .eq 12, 3) := by decide +kernel
theorem dX11_flight_11 : decode cX11_flight 11 = .ok (.iload_n 2, 1) := by decide +kernel
theorem dX11_flight_12 : decode cX11_flight 12 = .ok (.ifCond .lt 8, 3) := by decide +kernel
theorem dX11_flight_15 : decode cX11_flight 15 = .ok (.iload_n 2, 1) := by decide +kernel
theorem dX11_flight_16 : decode cX11_flight 16 = .ok (.iconst 3, 1) := by decide +kernel
theorem dX11_flight_17 : decode cX11_flight 17 = .ok (.if_icmp .lt 5, 3) := by decide +kernel
theorem dX11_flight_20 : decode cX11_flight 20 = .ok (.iconst (-1), 1) := by decide +kernel
theorem dX11_flight_21 : decode cX11_flight 21 = .ok (.ireturn, 1) := by decide +kernel
theorem dX11_flight_22 : decode cX11_flight 22 = .ok (.aload_n 0, 1) := by decide +kernel
theorem dX11_flight_23 : decode cX11_flight 23 = .ok (.getfield 19, 3) := by decide +kernel
theorem dX11_flight_26 : decode cX11_flight 26 = .ok (.getfield 203, 3) := by decide +kernel
theorem dX11_flight_29 : decode cX11_flight 29 = .ok (.iload_n 1, 1) := by decide +kernel
theorem dX11_flight_30 : decode cX11_flight 30 = .ok (.aaload, 1) := by decide +kernel
theorem dX11_flight_31 : decode cX11_flight 31 = .ok (.iload_n 2, 1) := by decide +kernel
theorem dX11_flight_32 : decode cX11_flight 32 = .ok (.iaload, 1) := by decide +kernel
theorem dX11_flight_33 : decode cX11_flight 33 = .ok (.ireturn, 1) := by decide +kernel
set_option maxRecDepth 20000 in
theorem ggX11_call_X9_hasCall : GoodIn wsX11_call wsX9_hasCall := goodIn_r _ [6, 7, 8, 9, 10, 5, 11, 12, 42, 43, 44, 45, 46, 47, 48, 49, 50, 51, 52, 53, 54, 55] rfl (by decide +kernel)
set_option maxRecDepth 20000 in
theorem gX11_call_X9_hasCall : GoodIn wsX11_call (wsV RX11 206 RX9 yX9_hasCall wsX9_hasCall) := goodIn_app (goodIn_of _ (by decide +kernel)) ggX11_call_X9_hasCall
set_option maxRecDepth 20000 in
theorem ggX11_call_X9_callRow : GoodIn wsX11_call wsX9_callRow := goodIn_r _ [16, 17, 42, 43, 44, 45, 46, 47, 48, 49, 50, 51, 52, 53, 54, 55] rfl (by decide +kernel)
set_option maxRecDepth 20000 in
theorem gX11_call_X9_callRow : GoodIn wsX11_call (wsV RX11 210 RX9 yX9_callRow wsX9_callRow) := goodIn_app (goodIn_of _ (by decide +kernel)) ggX11_call_X9_callRow
set_option maxRecDepth 20000 in
theorem ggX11_call_X9_side : GoodIn wsX11_call wsX9_side := goodIn_r _ [21, 22, 42, 43, 44, 45, 46, 47, 48, 49, 50, 51, 52, 53, 54, 55] rfl (by decide +kernel)
set_option maxRecDepth 20000 in
theorem gX11_call_X9_side : GoodIn wsX11_call (wsV RX11 163 RX9 yX9_side wsX9_side) := goodIn_app (goodIn_of _ (by decide +kernel)) ggX11_call_X9_side
theorem dX11_call_0 : decode cX11_call 0 = .ok (.aload_n 0, 1) := by decide +kernel
theorem dX11_call_1 : decode cX11_call 1 = .ok (.getfield 19, 3) := by decide +kernel
theorem dX11_call_4 : decode cX11_call 4 = .ok (.iload_n 1, 1) := by decide +kernel
theorem dX11_call_5 : decode cX11_call 5 = .ok (.iload_n 2, 1) := by decide +kernel
theorem dX11_call_6 : decode cX11_call 6 = .ok (.invokevirtual 206, 3) := by decide +kernel
theorem dX11_call_9 : decode cX11_call 9 = .ok (.ifCond .eq 12, 3) := by decide +kernel
theorem dX11_call_12 : decode cX11_call 12 = .ok (.iload_n 3, 1) := by decide +kernel
theorem dX11_call_13 : decode cX11_call 13 = .ok (.ifCond .lt 8, 3) := by decide +kernel
theorem dX11_call_16 : decode cX11_call 16 = .ok (.iload_n 3, 1) := by decide +kernel
theorem dX11_call_17 : decode cX11_call 17 = .ok (.iconst 3, 1) := by decide +kernel
theorem dX11_call_18 : decode cX11_call 18 = .ok (.if_icmp .le 5, 3) := by decide +kernel
theorem dX11_call_21 : decode cX11_call 21 = .ok (.iconst (-1), 1) := by decide +kernel
theorem dX11_call_22 : decode cX11_call 22 = .ok (.ireturn, 1) := by decide +kernel
theorem dX11_call_23 : decode cX11_call 23 = .ok (.aload_n 0, 1) := by decide +kernel
theorem dX11_call_24 : decode cX11_call 24 = .ok (.getfield 19, 3) := by decide +kernel
theorem dX11_call_27 : decode cX11_call 27 = .ok (.iload_n 1, 1) := by decide +kernel
theorem dX11_call_28 : decode cX11_call 28 = .ok (.iload_n 2, 1) := by decide +kernel
theorem dX11_call_29 : decode cX11_call 29 = .ok (.invokevirtual 210, 3) := by decide +kernel
theorem dX11_call_32 : decode cX11_call 32 = .ok (.astore 4, 2) := by decide +kernel
theorem dX11_call_34 : decode cX11_call 34 = .ok (.iload_n 3, 1) := by decide +kernel
theorem dX11_call_35 : decode cX11_call 35 = .ok (.iconst 3, 1) := by decide +kernel
theorem dX11_call_36 : decode cX11_call 36 = .ok (.if_icmp .ne 17, 3) := by decide +kernel
theorem dX11_call_39 : decode cX11_call 39 = .ok (.aload_n 0, 1) := by decide +kernel
theorem dX11_call_40 : decode cX11_call 40 = .ok (.getfield 19, 3) := by decide +kernel
theorem dX11_call_43 : decode cX11_call 43 = .ok (.aload 4, 2) := by decide +kernel
theorem dX11_call_45 : decode cX11_call 45 = .ok (.iconst 1, 1) := by decide +kernel
theorem dX11_call_46 : decode cX11_call 46 = .ok (.iaload, 1) := by decide +kernel
theorem dX11_call_47 : decode cX11_call 47 = .ok (.invokevirtual 163, 3) := by decide +kernel
theorem dX11_call_50 : decode cX11_call 50 = .ok (.goto 7, 3) := by decide +kernel
theorem dX11_call_53 : decode cX11_call 53 = .ok (.aload 4, 2) := by decide +kernel
theorem dX11_call_55 : decode cX11_call 55 = .ok (.iload_n 3, 1) := by decide +kernel
theorem dX11_call_56 : decode cX11_call 56 = .ok (.iaload, 1) := by decide +kernel
theorem dX11_call_57 : decode cX11_call 57 = .ok (.ireturn, 1) := by decide +kernel
set_option maxRecDepth 20000 in
theorem ggX11_now_X0_past : GoodIn wsX11_now wsX0_past := goodIn_r _ [8, 9, 10, 11, 12, 13, 14, 15, 16, 17, 18, 19, 20, 56, 57, 58, 59, 60, 61, 62, 77, 78, 79, 63, 64, 65, 66, 67, 68, 69, 70, 71, 72, 73, 74, 75, 76] rfl (by decide +kernel)
set_option maxRecDepth 20000 in
theorem gX11_now_X0_past : GoodIn wsX11_now (wsV RX11 222 RX0 yX0_past wsX0_past) := goodIn_app (goodIn_of _ (by decide +kernel)) ggX11_now_X0_past
set_option maxRecDepth 20000 in
theorem ggX11_now_X2_swornMen : GoodIn wsX11_now wsX2_swornMen := goodIn_r _ [25, 26, 56, 57, 58, 59, 60, 61, 62] rfl (by decide +kernel)
set_option maxRecDepth 20000 in
theorem gX11_now_X2_swornMen : GoodIn wsX11_now (wsV RX11 226 RX2 yX2_swornMen wsX2_swornMen) := goodIn_app (goodIn_of _ (by decide +kernel)) ggX11_now_X2_swornMen
set_option maxRecDepth 20000 in
theorem ggX11_now_X2_allCoins : GoodIn wsX11_now wsX2_allCoins := goodIn_r _ [30, 31, 56, 57, 58, 59, 60, 61, 62] rfl (by decide +kernel)
set_option maxRecDepth 20000 in
theorem gX11_now_X2_allCoins : GoodIn wsX11_now (wsV RX11 229 RX2 yX2_allCoins wsX2_allCoins) := goodIn_app (goodIn_of _ (by decide +kernel)) ggX11_now_X2_allCoins
set_option maxRecDepth 20000 in
theorem ggX11_now_X2_allStores : GoodIn wsX11_now wsX2_allStores := goodIn_r _ [35, 36, 56, 57, 58, 59, 60, 61, 62] rfl (by decide +kernel)
set_option maxRecDepth 20000 in
theorem gX11_now_X2_allStores : GoodIn wsX11_now (wsV RX11 232 RX2 yX2_allStores wsX2_allStores) := goodIn_app (goodIn_of _ (by decide +kernel)) ggX11_now_X2_allStores
theorem dX11_now_0 : decode cX11_now 0 = .ok (.iload_n 1, 1) := by decide +kernel
theorem dX11_now_1 : decode cX11_now 1 = .ok (.tableswitch 124 0 6 #[43, 51, 59, 67, 79, 94, 109], 43) := by decide +kernel
theorem dX11_now_44 : decode cX11_now 44 = .ok (.aload_n 0, 1) := by decide +kernel
theorem dX11_now_45 : decode cX11_now 45 = .ok (.getfield 38, 3) := by decide +kernel
theorem dX11_now_48 : decode cX11_now 48 = .ok (.getfield 214, 3) := by decide +kernel
theorem dX11_now_51 : decode cX11_now 51 = .ok (.ireturn, 1) := by decide +kernel
theorem dX11_now_52 : decode cX11_now 52 = .ok (.aload_n 0, 1) := by decide +kernel
theorem dX11_now_53 : decode cX11_now 53 = .ok (.getfield 38, 3) := by decide +kernel
theorem dX11_now_56 : decode cX11_now 56 = .ok (.getfield 217, 3) := by decide +kernel
theorem dX11_now_59 : decode cX11_now 59 = .ok (.ireturn, 1) := by decide +kernel
theorem dX11_now_60 : decode cX11_now 60 = .ok (.aload_n 0, 1) := by decide +kernel
theorem dX11_now_61 : decode cX11_now 61 = .ok (.getfield 38, 3) := by decide +kernel
theorem dX11_now_64 : decode cX11_now 64 = .ok (.getfield 219, 3) := by decide +kernel
theorem dX11_now_67 : decode cX11_now 67 = .ok (.ireturn, 1) := by decide +kernel
theorem dX11_now_68 : decode cX11_now 68 = .ok (.aload_n 0, 1) := by decide +kernel
theorem dX11_now_69 : decode cX11_now 69 = .ok (.getfield 69, 3) := by decide +kernel
theorem dX11_now_72 : decode cX11_now 72 = .ok (.aload_n 0, 1) := by decide +kernel
theorem dX11_now_73 : decode cX11_now 73 = .ok (.getfield 38, 3) := by decide +kernel
theorem dX11_now_76 : decode cX11_now 76 = .ok (.invokevirtual 222, 3) := by decide +kernel
theorem dX11_now_79 : decode cX11_now 79 = .ok (.ireturn, 1) := by decide +kernel
theorem dX11_now_80 : decode cX11_now 80 = .ok (.aload_n 0, 1) := by decide +kernel
theorem dX11_now_81 : decode cX11_now 81 = .ok (.getfield 38, 3) := by decide +kernel
theorem dX11_now_84 : decode cX11_now 84 = .ok (.aload_n 0, 1) := by decide +kernel
theorem dX11_now_85 : decode cX11_now 85 = .ok (.getfield 19, 3) := by decide +kernel
theorem dX11_now_88 : decode cX11_now 88 = .ok (.getfield 167, 3) := by decide +kernel
theorem dX11_now_91 : decode cX11_now 91 = .ok (.invokevirtual 226, 3) := by decide +kernel
theorem dX11_now_94 : decode cX11_now 94 = .ok (.ireturn, 1) := by decide +kernel
theorem dX11_now_95 : decode cX11_now 95 = .ok (.aload_n 0, 1) := by decide +kernel
theorem dX11_now_96 : decode cX11_now 96 = .ok (.getfield 38, 3) := by decide +kernel
theorem dX11_now_99 : decode cX11_now 99 = .ok (.aload_n 0, 1) := by decide +kernel
theorem dX11_now_100 : decode cX11_now 100 = .ok (.getfield 19, 3) := by decide +kernel
theorem dX11_now_103 : decode cX11_now 103 = .ok (.getfield 167, 3) := by decide +kernel
theorem dX11_now_106 : decode cX11_now 106 = .ok (.invokevirtual 229, 3) := by decide +kernel
theorem dX11_now_109 : decode cX11_now 109 = .ok (.ireturn, 1) := by decide +kernel
theorem dX11_now_110 : decode cX11_now 110 = .ok (.aload_n 0, 1) := by decide +kernel
theorem dX11_now_111 : decode cX11_now 111 = .ok (.getfield 38, 3) := by decide +kernel
theorem dX11_now_114 : decode cX11_now 114 = .ok (.aload_n 0, 1) := by decide +kernel
theorem dX11_now_115 : decode cX11_now 115 = .ok (.getfield 19, 3) := by decide +kernel
theorem dX11_now_118 : decode cX11_now 118 = .ok (.getfield 167, 3) := by decide +kernel
theorem dX11_now_121 : decode cX11_now 121 = .ok (.invokevirtual 232, 3) := by decide +kernel
theorem dX11_now_124 : decode cX11_now 124 = .ok (.ireturn, 1) := by decide +kernel
theorem dX11_now_125 : decode cX11_now 125 = .ok (.iconst (-1), 1) := by decide +kernel
theorem dX11_now_126 : decode cX11_now 126 = .ok (.ireturn, 1) := by decide +kernel
set_option maxRecDepth 20000 in
theorem ggX11_count_X9_chances : GoodIn wsX11_count wsX9_chances := goodIn_r _ [7, 8, 9, 29, 30, 31, 32, 33, 34, 35, 36, 37, 38, 39, 40, 41, 42] rfl (by decide +kernel)
set_option maxRecDepth 20000 in
theorem gX11_count_X9_chances : GoodIn wsX11_count (wsV RX11 241 RX9 yX9_chances wsX9_chances) := goodIn_app (goodIn_of _ (by decide +kernel)) ggX11_count_X9_chances
theorem dX11_count_0 : decode cX11_count 0 = .ok (.iload_n 1, 1) := by decide +kernel
theorem dX11_count_1 : decode cX11_count 1 = .ok (.tableswitch 87 0 5 #[39, 47, 55, 63, 71, 79], 39) := by decide +kernel
theorem dX11_count_40 : decode cX11_count 40 = .ok (.aload_n 0, 1) := by decide +kernel
theorem dX11_count_41 : decode cX11_count 41 = .ok (.getfield 19, 3) := by decide +kernel
theorem dX11_count_44 : decode cX11_count 44 = .ok (.getfield 235, 3) := by decide +kernel
theorem dX11_count_47 : decode cX11_count 47 = .ok (.ireturn, 1) := by decide +kernel
theorem dX11_count_48 : decode cX11_count 48 = .ok (.aload_n 0, 1) := by decide +kernel
theorem dX11_count_49 : decode cX11_count 49 = .ok (.getfield 19, 3) := by decide +kernel
theorem dX11_count_52 : decode cX11_count 52 = .ok (.getfield 167, 3) := by decide +kernel
theorem dX11_count_55 : decode cX11_count 55 = .ok (.ireturn, 1) := by decide +kernel
theorem dX11_count_56 : decode cX11_count 56 = .ok (.aload_n 0, 1) := by decide +kernel
theorem dX11_count_57 : decode cX11_count 57 = .ok (.getfield 19, 3) := by decide +kernel
theorem dX11_count_60 : decode cX11_count 60 = .ok (.getfield 238, 3) := by decide +kernel
theorem dX11_count_63 : decode cX11_count 63 = .ok (.ireturn, 1) := by decide +kernel
theorem dX11_count_64 : decode cX11_count 64 = .ok (.aload_n 0, 1) := by decide +kernel
theorem dX11_count_65 : decode cX11_count 65 = .ok (.getfield 19, 3) := by decide +kernel
theorem dX11_count_68 : decode cX11_count 68 = .ok (.invokevirtual 241, 3) := by decide +kernel
theorem dX11_count_71 : decode cX11_count 71 = .ok (.ireturn, 1) := by decide +kernel
theorem dX11_count_72 : decode cX11_count 72 = .ok (.aload_n 0, 1) := by decide +kernel
theorem dX11_count_73 : decode cX11_count 73 = .ok (.getfield 19, 3) := by decide +kernel
theorem dX11_count_76 : decode cX11_count 76 = .ok (.getfield 245, 3) := by decide +kernel
theorem dX11_count_79 : decode cX11_count 79 = .ok (.ireturn, 1) := by decide +kernel
theorem dX11_count_80 : decode cX11_count 80 = .ok (.aload_n 0, 1) := by decide +kernel
theorem dX11_count_81 : decode cX11_count 81 = .ok (.getfield 10, 3) := by decide +kernel
theorem dX11_count_84 : decode cX11_count 84 = .ok (.getfield 115, 3) := by decide +kernel
theorem dX11_count_87 : decode cX11_count 87 = .ok (.ireturn, 1) := by decide +kernel
theorem dX11_count_88 : decode cX11_count 88 = .ok (.iconst (-1), 1) := by decide +kernel
theorem dX11_count_89 : decode cX11_count 89 = .ok (.ireturn, 1) := by decide +kernel
set_option maxRecDepth 20000 in
theorem ggX11_comes_X9_hasFlight : GoodIn wsX11_comes wsX9_hasFlight := goodIn_r _ [9, 10, 66, 67, 68, 69, 70, 71, 72, 73, 74, 75, 76, 77, 78, 79] rfl (by decide +kernel)
set_option maxRecDepth 20000 in
theorem gX11_comes_X9_hasFlight : GoodIn wsX11_comes (wsV RX11 200 RX9 yX9_hasFlight wsX9_hasFlight) := goodIn_app (goodIn_of _ (by decide +kernel)) ggX11_comes_X9_hasFlight
set_option maxRecDepth 20000 in
theorem ggX11_comes_X2_copyFrom : GoodIn wsX11_comes wsX2_copyFrom := goodIn_r _ [15, 16, 17, 18, 19, 20, 21, 22, 23, 24, 25, 26, 80, 81, 82, 83, 84, 85, 86] rfl (by decide +kernel)
set_option maxRecDepth 20000 in
theorem gX11_comes_X2_copyFrom : GoodIn wsX11_comes (wsV RX11 248 RX2 yX2_copyFrom wsX2_copyFrom) := goodIn_app (goodIn_of _ (by decide +kernel)) ggX11_comes_X2_copyFrom
set_option maxRecDepth 20000 in
theorem ggX11_comes_X0_arrive : GoodIn wsX11_comes wsX0_arrive := goodIn_r _ [31, 80, 81, 82, 83, 84, 85, 86] rfl (by decide +kernel)
set_option maxRecDepth 20000 in
theorem gX11_comes_X0_arrive : GoodIn wsX11_comes (wsV RX11 251 RX0 yX0_arrive wsX0_arrive) := goodIn_app (goodIn_of _ (by decide +kernel)) ggX11_comes_X0_arrive
set_option maxRecDepth 20000 in
theorem ggX11_comes_X11_keptIfDone : GoodIn wsX11_comes wsX11_keptIfDone := goodIn_r _ [36, 37, 2, 38, 39, 40, 41, 42, 43, 44, 45, 46, 12, 13, 14, 15, 16, 17, 18, 19, 20, 21, 22, 23, 24, 25, 26, 47, 48, 49, 50, 51, 52, 53, 54, 55, 56, 57, 58, 59, 60, 61, 62, 63, 64, 65, 87, 88, 89, 80, 81, 82, 83, 84, 85, 86] rfl (by decide +kernel)
set_option maxRecDepth 20000 in
theorem gX11_comes_X11_keptIfDone : GoodIn wsX11_comes (wsV RX11 255 RX11 yX11_keptIfDone wsX11_keptIfDone) := goodIn_app (goodIn_of _ (by decide +kernel)) ggX11_comes_X11_keptIfDone
theorem dX11_comes_0 : decode cX11_comes 0 = .ok (.aload_n 0, 1) := by decide +kernel
theorem dX11_comes_1 : decode cX11_comes 1 = .ok (.getfield 19, 3) := by decide +kernel
theorem dX11_comes_4 : decode cX11_comes 4 = .ok (.iload_n 1, 1) := by decide +kernel
theorem dX11_comes_5 : decode cX11_comes 5 = .ok (.invokevirtual 200, 3) := by decide +kernel
theorem dX11_comes_8 : decode cX11_comes 8 = .ok (.ifCond .ne 5, 3) := by decide +kernel
theorem dX11_comes_11 : decode cX11_comes 11 = .ok (.iconst (-1), 1) := by decide +kernel
theorem dX11_comes_12 : decode cX11_comes 12 = .ok (.ireturn, 1) := by decide +kernel
theorem dX11_comes_13 : decode cX11_comes 13 = .ok (.aload_n 0, 1) := by decide +kernel
theorem dX11_comes_14 : decode cX11_comes 14 = .ok (.getfield 42, 3) := by decide +kernel
theorem dX11_comes_17 : decode cX11_comes 17 = .ok (.aload_n 0, 1) := by decide +kernel
theorem dX11_comes_18 : decode cX11_comes 18 = .ok (.getfield 38, 3) := by decide +kernel
theorem dX11_comes_21 : decode cX11_comes 21 = .ok (.invokevirtual 248, 3) := by decide +kernel
theorem dX11_comes_24 : decode cX11_comes 24 = .ok (.aload_n 0, 1) := by decide +kernel
theorem dX11_comes_25 : decode cX11_comes 25 = .ok (.aload_n 0, 1) := by decide +kernel
theorem dX11_comes_26 : decode cX11_comes 26 = .ok (.getfield 69, 3) := by decide +kernel
theorem dX11_comes_29 : decode cX11_comes 29 = .ok (.aload_n 0, 1) := by decide +kernel
theorem dX11_comes_30 : decode cX11_comes 30 = .ok (.getfield 38, 3) := by decide +kernel
theorem dX11_comes_33 : decode cX11_comes 33 = .ok (.iload_n 1, 1) := by decide +kernel
theorem dX11_comes_34 : decode cX11_comes 34 = .ok (.invokevirtual 251, 3) := by decide +kernel
theorem dX11_comes_37 : decode cX11_comes 37 = .ok (.invokevirtual 255, 3) := by decide +kernel
theorem dX11_comes_40 : decode cX11_comes 40 = .ok (.ireturn, 1) := by decide +kernel
set_option maxRecDepth 20000 in
theorem ggX11_hours_X3_push : GoodIn wsX11_hours wsX3_push := goodIn_r _ [8, 9, 10, 11, 12, 13, 14, 15, 16, 17, 18, 19, 20, 21, 22, 23, 24, 25, 26, 27, 63, 64, 65, 56, 57, 58, 59, 60, 61, 62] rfl (by decide +kernel)
set_option maxRecDepth 20000 in
theorem gX11_hours_X3_push : GoodIn wsX11_hours (wsV RX11 258 RX3 yX3_push wsX3_push) := goodIn_app (goodIn_of _ (by decide +kernel)) ggX11_hours_X3_push
set_option maxRecDepth 20000 in
theorem ggX11_hours_X0_passHours : GoodIn wsX11_hours wsX0_passHours := goodIn_r _ [32, 33, 34, 35, 36, 56, 57, 58, 59, 60, 61, 62] rfl (by decide +kernel)
set_option maxRecDepth 20000 in
theorem gX11_hours_X0_passHours : GoodIn wsX11_hours (wsV RX11 261 RX0 yX0_passHours wsX0_passHours) := goodIn_app (goodIn_of _ (by decide +kernel)) ggX11_hours_X0_passHours
theorem dX11_hours_0 : decode cX11_hours 0 = .ok (.iload_n 1, 1) := by decide +kernel
theorem dX11_hours_1 : decode cX11_hours 1 = .ok (.iconst 1, 1) := by decide +kernel
theorem dX11_hours_2 : decode cX11_hours 2 = .ok (.if_icmp .lt 9, 3) := by decide +kernel
theorem dX11_hours_5 : decode cX11_hours 5 = .ok (.iload_n 1, 1) := by decide +kernel
theorem dX11_hours_6 : decode cX11_hours 6 = .ok (.bipush 99, 2) := by decide +kernel
theorem dX11_hours_8 : decode cX11_hours 8 = .ok (.if_icmp .le 5, 3) := by decide +kernel
theorem dX11_hours_11 : decode cX11_hours 11 = .ok (.iconst (-1), 1) := by decide +kernel
theorem dX11_hours_12 : decode cX11_hours 12 = .ok (.ireturn, 1) := by decide +kernel
theorem dX11_hours_13 : decode cX11_hours 13 = .ok (.aload_n 0, 1) := by decide +kernel
theorem dX11_hours_14 : decode cX11_hours 14 = .ok (.getfield 51, 3) := by decide +kernel
theorem dX11_hours_17 : decode cX11_hours 17 = .ok (.aload_n 0, 1) := by decide +kernel
theorem dX11_hours_18 : decode cX11_hours 18 = .ok (.getfield 38, 3) := by decide +kernel
theorem dX11_hours_21 : decode cX11_hours 21 = .ok (.invokevirtual 258, 3) := by decide +kernel
theorem dX11_hours_24 : decode cX11_hours 24 = .ok (.aload_n 0, 1) := by decide +kernel
theorem dX11_hours_25 : decode cX11_hours 25 = .ok (.getfield 69, 3) := by decide +kernel
theorem dX11_hours_28 : decode cX11_hours 28 = .ok (.aload_n 0, 1) := by decide +kernel
theorem dX11_hours_29 : decode cX11_hours 29 = .ok (.getfield 38, 3) := by decide +kernel
theorem dX11_hours_32 : decode cX11_hours 32 = .ok (.iload_n 1, 1) := by decide +kernel
theorem dX11_hours_33 : decode cX11_hours 33 = .ok (.invokevirtual 261, 3) := by decide +kernel
theorem dX11_hours_36 : decode cX11_hours 36 = .ok (.aload_n 0, 1) := by decide +kernel
theorem dX11_hours_37 : decode cX11_hours 37 = .ok (.getfield 38, 3) := by decide +kernel
theorem dX11_hours_40 : decode cX11_hours 40 = .ok (.getfield 219, 3) := by decide +kernel
theorem dX11_hours_43 : decode cX11_hours 43 = .ok (.ireturn, 1) := by decide +kernel
set_option maxRecDepth 20000 in
theorem ggX11_move_X9_hasMan : GoodIn wsX11_move wsX9_hasMan := goodIn_r _ [9, 10, 86, 87, 88, 89, 90, 91, 92, 93, 94, 95, 96, 97, 98, 99] rfl (by decide +kernel)
set_option maxRecDepth 20000 in
theorem gX11_move_X9_hasMan : GoodIn wsX11_move (wsV RX11 174 RX9 yX9_hasMan wsX9_hasMan) := goodIn_app (goodIn_of _ (by decide +kernel)) ggX11_move_X9_hasMan
set_option maxRecDepth 20000 in
theorem ggX11_move_X9_hasHill : GoodIn wsX11_move wsX9_hasHill := goodIn_r _ [14, 15, 86, 87, 88, 89, 90, 91, 92, 93, 94, 95, 96, 97, 98, 99] rfl (by decide +kernel)
set_option maxRecDepth 20000 in
theorem gX11_move_X9_hasHill : GoodIn wsX11_move (wsV RX11 155 RX9 yX9_hasHill wsX9_hasHill) := goodIn_app (goodIn_of _ (by decide +kernel)) ggX11_move_X9_hasHill
set_option maxRecDepth 20000 in
theorem ggX11_move_X2_copyFrom : GoodIn wsX11_move wsX2_copyFrom := goodIn_r _ [20, 21, 22, 23, 24, 25, 26, 27, 28, 29, 30, 31, 100, 101, 102, 103, 104, 105, 106] rfl (by decide +kernel)
set_option maxRecDepth 20000 in
theorem gX11_move_X2_copyFrom : GoodIn wsX11_move (wsV RX11 248 RX2 yX2_copyFrom wsX2_copyFrom) := goodIn_app (goodIn_of _ (by decide +kernel)) ggX11_move_X2_copyFrom
set_option maxRecDepth 20000 in
theorem ggX11_move_X0_walk : GoodIn wsX11_move wsX0_walk := goodIn_r _ [36, 37, 38, 39, 35, 40, 41, 42, 43, 44, 8, 45, 46, 47, 48, 49, 50, 51, 100, 101, 102, 103, 104, 105, 106, 107, 108, 109, 86, 87, 88, 89, 90, 91, 92, 93, 94, 95, 96, 97, 98, 99] rfl (by decide +kernel)
set_option maxRecDepth 20000 in
theorem gX11_move_X0_walk : GoodIn wsX11_move (wsV RX11 265 RX0 yX0_walk wsX0_walk) := goodIn_app (goodIn_of _ (by decide +kernel)) ggX11_move_X0_walk
set_option maxRecDepth 20000 in
theorem ggX11_move_X11_keptIfDone : GoodIn wsX11_move wsX11_keptIfDone := goodIn_r _ [56, 57, 2, 58, 59, 60, 61, 62, 63, 64, 65, 66, 17, 18, 19, 20, 21, 22, 23, 24, 25, 26, 27, 28, 29, 30, 31, 67, 68, 69, 70, 71, 72, 73, 74, 75, 76, 77, 78, 79, 80, 81, 82, 83, 84, 85, 110, 111, 112, 100, 101, 102, 103, 104, 105, 106] rfl (by decide +kernel)
set_option maxRecDepth 20000 in
theorem gX11_move_X11_keptIfDone : GoodIn wsX11_move (wsV RX11 255 RX11 yX11_keptIfDone wsX11_keptIfDone) := goodIn_app (goodIn_of _ (by decide +kernel)) ggX11_move_X11_keptIfDone
theorem dX11_move_0 : decode cX11_move 0 = .ok (.aload_n 0, 1) := by decide +kernel
theorem dX11_move_1 : decode cX11_move 1 = .ok (.getfield 19, 3) := by decide +kernel
theorem dX11_move_4 : decode cX11_move 4 = .ok (.iload_n 1, 1) := by decide +kernel
theorem dX11_move_5 : decode cX11_move 5 = .ok (.invokevirtual 174, 3) := by decide +kernel
theorem dX11_move_8 : decode cX11_move 8 = .ok (.ifCond .eq 14, 3) := by decide +kernel
theorem dX11_move_11 : decode cX11_move 11 = .ok (.aload_n 0, 1) := by decide +kernel
theorem dX11_move_12 : decode cX11_move 12 = .ok (.getfield 19, 3) := by decide +kernel
theorem dX11_move_15 : decode cX11_move 15 = .ok (.iload_n 2, 1) := by decide +kernel
theorem dX11_move_16 : decode cX11_move 16 = .ok (.invokevirtual 155, 3) := by decide +kernel
theorem dX11_move_19 : decode cX11_move 19 = .ok (.ifCond .ne 5, 3) := by decide +kernel
theorem dX11_move_22 : decode cX11_move 22 = .ok (.iconst (-1), 1) := by decide +kernel
theorem dX11_move_23 : decode cX11_move 23 = .ok (.ireturn, 1) := by decide +kernel
theorem dX11_move_24 : decode cX11_move 24 = .ok (.aload_n 0, 1) := by decide +kernel
theorem dX11_move_25 : decode cX11_move 25 = .ok (.getfield 42, 3) := by decide +kernel
theorem dX11_move_28 : decode cX11_move 28 = .ok (.aload_n 0, 1) := by decide +kernel
theorem dX11_move_29 : decode cX11_move 29 = .ok (.getfield 38, 3) := by decide +kernel
theorem dX11_move_32 : decode cX11_move 32 = .ok (.invokevirtual 248, 3) := by decide +kernel
theorem dX11_move_35 : decode cX11_move 35 = .ok (.aload_n 0, 1) := by decide +kernel
theorem dX11_move_36 : decode cX11_move 36 = .ok (.aload_n 0, 1) := by decide +kernel
theorem dX11_move_37 : decode cX11_move 37 = .ok (.getfield 69, 3) := by decide +kernel
theorem dX11_move_40 : decode cX11_move 40 = .ok (.aload_n 0, 1) := by decide +kernel
theorem dX11_move_41 : decode cX11_move 41 = .ok (.getfield 38, 3) := by decide +kernel
theorem dX11_move_44 : decode cX11_move 44 = .ok (.iload_n 1, 1) := by decide +kernel
theorem dX11_move_45 : decode cX11_move 45 = .ok (.iload_n 2, 1) := by decide +kernel
theorem dX11_move_46 : decode cX11_move 46 = .ok (.invokevirtual 265, 3) := by decide +kernel
theorem dX11_move_49 : decode cX11_move 49 = .ok (.invokevirtual 255, 3) := by decide +kernel
theorem dX11_move_52 : decode cX11_move 52 = .ok (.ireturn, 1) := by decide +kernel
set_option maxRecDepth 20000 in
theorem ggX11_swear_X9_hasMan : GoodIn wsX11_swear wsX9_hasMan := goodIn_r _ [9, 10, 81, 82, 83, 84, 85, 86, 87, 88, 89, 90, 91, 92, 93, 94] rfl (by decide +kernel)
set_option maxRecDepth 20000 in
theorem gX11_swear_X9_hasMan : GoodIn wsX11_swear (wsV RX11 174 RX9 yX9_hasMan wsX9_hasMan) := goodIn_app (goodIn_of _ (by decide +kernel)) ggX11_swear_X9_hasMan
set_option maxRecDepth 20000 in
theorem ggX11_swear_X2_copyFrom : GoodIn wsX11_swear wsX2_copyFrom := goodIn_r _ [15, 16, 17, 18, 19, 20, 21, 22, 23, 24, 25, 26, 95, 96, 97, 98, 99, 100, 101] rfl (by decide +kernel)
set_option maxRecDepth 20000 in
theorem gX11_swear_X2_copyFrom : GoodIn wsX11_swear (wsV RX11 248 RX2 yX2_copyFrom wsX2_copyFrom) := goodIn_app (goodIn_of _ (by decide +kernel)) ggX11_swear_X2_copyFrom
set_option maxRecDepth 20000 in
theorem ggX11_swear_X0_takeOath : GoodIn wsX11_swear wsX0_takeOath := goodIn_r _ [31, 32, 33, 34, 30, 35, 36, 37, 38, 39, 8, 40, 41, 42, 43, 44, 45, 46, 95, 96, 97, 98, 99, 100, 101, 102, 103, 104, 81, 82, 83, 84, 85, 86, 87, 88, 89, 90, 91, 92, 93, 94] rfl (by decide +kernel)
set_option maxRecDepth 20000 in
theorem gX11_swear_X0_takeOath : GoodIn wsX11_swear (wsV RX11 269 RX0 yX0_takeOath wsX0_takeOath) := goodIn_app (goodIn_of _ (by decide +kernel)) ggX11_swear_X0_takeOath
set_option maxRecDepth 20000 in
theorem ggX11_swear_X11_keptIfDone : GoodIn wsX11_swear wsX11_keptIfDone := goodIn_r _ [51, 52, 2, 53, 54, 55, 56, 57, 58, 59, 60, 61, 12, 13, 14, 15, 16, 17, 18, 19, 20, 21, 22, 23, 24, 25, 26, 62, 63, 64, 65, 66, 67, 68, 69, 70, 71, 72, 73, 74, 75, 76, 77, 78, 79, 80, 105, 106, 107, 95, 96, 97, 98, 99, 100, 101] rfl (by decide +kernel)
set_option maxRecDepth 20000 in
theorem gX11_swear_X11_keptIfDone : GoodIn wsX11_swear (wsV RX11 255 RX11 yX11_keptIfDone wsX11_keptIfDone) := goodIn_app (goodIn_of _ (by decide +kernel)) ggX11_swear_X11_keptIfDone
theorem dX11_swear_0 : decode cX11_swear 0 = .ok (.aload_n 0, 1) := by decide +kernel
theorem dX11_swear_1 : decode cX11_swear 1 = .ok (.getfield 19, 3) := by decide +kernel
theorem dX11_swear_4 : decode cX11_swear 4 = .ok (.iload_n 1, 1) := by decide +kernel
theorem dX11_swear_5 : decode cX11_swear 5 = .ok (.invokevirtual 174, 3) := by decide +kernel
theorem dX11_swear_8 : decode cX11_swear 8 = .ok (.ifCond .eq 13, 3) := by decide +kernel
theorem dX11_swear_11 : decode cX11_swear 11 = .ok (.iload_n 2, 1) := by decide +kernel
theorem dX11_swear_12 : decode cX11_swear 12 = .ok (.ifCond .lt 9, 3) := by decide +kernel
theorem dX11_swear_15 : decode cX11_swear 15 = .ok (.iload_n 2, 1) := by decide +kernel
theorem dX11_swear_16 : decode cX11_swear 16 = .ok (.bipush 10, 2) := by decide +kernel
theorem dX11_swear_18 : decode cX11_swear 18 = .ok (.if_icmp .lt 5, 3) := by decide +kernel
theorem dX11_swear_21 : decode cX11_swear 21 = .ok (.iconst (-1), 1) := by decide +kernel
theorem dX11_swear_22 : decode cX11_swear 22 = .ok (.ireturn, 1) := by decide +kernel
theorem dX11_swear_23 : decode cX11_swear 23 = .ok (.aload_n 0, 1) := by decide +kernel
theorem dX11_swear_24 : decode cX11_swear 24 = .ok (.getfield 42, 3) := by decide +kernel
theorem dX11_swear_27 : decode cX11_swear 27 = .ok (.aload_n 0, 1) := by decide +kernel
theorem dX11_swear_28 : decode cX11_swear 28 = .ok (.getfield 38, 3) := by decide +kernel
theorem dX11_swear_31 : decode cX11_swear 31 = .ok (.invokevirtual 248, 3) := by decide +kernel
theorem dX11_swear_34 : decode cX11_swear 34 = .ok (.aload_n 0, 1) := by decide +kernel
theorem dX11_swear_35 : decode cX11_swear 35 = .ok (.aload_n 0, 1) := by decide +kernel
theorem dX11_swear_36 : decode cX11_swear 36 = .ok (.getfield 69, 3) := by decide +kernel
theorem dX11_swear_39 : decode cX11_swear 39 = .ok (.aload_n 0, 1) := by decide +kernel
theorem dX11_swear_40 : decode cX11_swear 40 = .ok (.getfield 38, 3) := by decide +kernel
theorem dX11_swear_43 : decode cX11_swear 43 = .ok (.iload_n 1, 1) := by decide +kernel
theorem dX11_swear_44 : decode cX11_swear 44 = .ok (.iload_n 2, 1) := by decide +kernel
theorem dX11_swear_45 : decode cX11_swear 45 = .ok (.invokevirtual 269, 3) := by decide +kernel
theorem dX11_swear_48 : decode cX11_swear 48 = .ok (.invokevirtual 255, 3) := by decide +kernel
theorem dX11_swear_51 : decode cX11_swear 51 = .ok (.ireturn, 1) := by decide +kernel
set_option maxRecDepth 20000 in
theorem ggX11_accuse_X9_hasMan : GoodIn wsX11_accuse wsX9_hasMan := goodIn_r _ [9, 10, 137, 138, 139, 140, 141, 142, 143, 144, 145, 146, 147, 148, 149, 150] rfl (by decide +kernel)
set_option maxRecDepth 20000 in
theorem gX11_accuse_X9_hasMan : GoodIn wsX11_accuse (wsV RX11 174 RX9 yX9_hasMan wsX9_hasMan) := goodIn_app (goodIn_of _ (by decide +kernel)) ggX11_accuse_X9_hasMan
set_option maxRecDepth 20000 in
theorem ggX11_accuse_X2_copyFrom : GoodIn wsX11_accuse wsX2_copyFrom := goodIn_r _ [15, 16, 17, 18, 19, 20, 21, 22, 23, 24, 25, 26, 151, 152, 153, 154, 155, 156, 157] rfl (by decide +kernel)
set_option maxRecDepth 20000 in
theorem gX11_accuse_X2_copyFrom : GoodIn wsX11_accuse (wsV RX11 248 RX2 yX2_copyFrom wsX2_copyFrom) := goodIn_app (goodIn_of _ (by decide +kernel)) ggX11_accuse_X2_copyFrom
set_option maxRecDepth 20000 in
theorem ggX11_accuse_X0_callOath : GoodIn wsX11_accuse wsX0_callOath := goodIn_r _ [31, 32, 33, 34, 35, 30, 36, 37, 38, 39, 40, 8, 41, 42, 43, 44, 45, 46, 47, 48, 49, 50, 51, 52, 53, 54, 55, 56, 57, 58, 59, 60, 61, 62, 63, 64, 65, 66, 67, 68, 69, 70, 71, 72, 73, 74, 75, 76, 77, 78, 79, 80, 81, 82, 83, 84, 85, 86, 87, 88, 89, 90, 91, 92, 93, 94, 95, 96, 97, 98, 99, 100, 101, 102, 158, 159, 160, 151, 152, 153, 154, 155, 156, 157, 137, 138, 139, 140, 141, 142, 143, 144, 145, 146, 147, 148, 149, 150, 161, 162, 163, 164, 165, 166, 167, 168, 169] rfl (by decide +kernel)
set_option maxRecDepth 20000 in
theorem gX11_accuse_X0_callOath : GoodIn wsX11_accuse (wsV RX11 272 RX0 yX0_callOath wsX0_callOath) := goodIn_app (goodIn_of _ (by decide +kernel)) ggX11_accuse_X0_callOath
set_option maxRecDepth 20000 in
theorem ggX11_accuse_X11_keptIfDone : GoodIn wsX11_accuse wsX11_keptIfDone := goodIn_r _ [107, 108, 2, 109, 110, 111, 112, 113, 114, 115, 116, 117, 12, 13, 14, 15, 16, 17, 18, 19, 20, 21, 22, 23, 24, 25, 26, 118, 119, 120, 121, 122, 123, 124, 125, 126, 127, 128, 129, 130, 131, 132, 133, 134, 135, 136, 170, 171, 172, 151, 152, 153, 154, 155, 156, 157] rfl (by decide +kernel)
set_option maxRecDepth 20000 in
theorem gX11_accuse_X11_keptIfDone : GoodIn wsX11_accuse (wsV RX11 255 RX11 yX11_keptIfDone wsX11_keptIfDone) := goodIn_app (goodIn_of _ (by decide +kernel)) ggX11_accuse_X11_keptIfDone
theorem dX11_accuse_0 : decode cX11_accuse 0 = .ok (.aload_n 0, 1) := by decide +kernel
theorem dX11_accuse_1 : decode cX11_accuse 1 = .ok (.getfield 19, 3) := by decide +kernel
theorem dX11_accuse_4 : decode cX11_accuse 4 = .ok (.iload_n 1, 1) := by decide +kernel
theorem dX11_accuse_5 : decode cX11_accuse 5 = .ok (.invokevirtual 174, 3) := by decide +kernel
theorem dX11_accuse_8 : decode cX11_accuse 8 = .ok (.ifCond .eq 19, 3) := by decide +kernel
theorem dX11_accuse_11 : decode cX11_accuse 11 = .ok (.aload_n 0, 1) := by decide +kernel
theorem dX11_accuse_12 : decode cX11_accuse 12 = .ok (.getfield 19, 3) := by decide +kernel
theorem dX11_accuse_15 : decode cX11_accuse 15 = .ok (.iload_n 2, 1) := by decide +kernel
theorem dX11_accuse_16 : decode cX11_accuse 16 = .ok (.invokevirtual 174, 3) := by decide +kernel
theorem dX11_accuse_19 : decode cX11_accuse 19 = .ok (.ifCond .eq 8, 3) := by decide +kernel
theorem dX11_accuse_22 : decode cX11_accuse 22 = .ok (.iload_n 1, 1) := by decide +kernel
theorem dX11_accuse_23 : decode cX11_accuse 23 = .ok (.iload_n 2, 1) := by decide +kernel
theorem dX11_accuse_24 : decode cX11_accuse 24 = .ok (.if_icmp .ne 5, 3) := by decide +kernel
theorem dX11_accuse_27 : decode cX11_accuse 27 = .ok (.iconst (-1), 1) := by decide +kernel
theorem dX11_accuse_28 : decode cX11_accuse 28 = .ok (.ireturn, 1) := by decide +kernel
theorem dX11_accuse_29 : decode cX11_accuse 29 = .ok (.aload_n 0, 1) := by decide +kernel
theorem dX11_accuse_30 : decode cX11_accuse 30 = .ok (.getfield 42, 3) := by decide +kernel
theorem dX11_accuse_33 : decode cX11_accuse 33 = .ok (.aload_n 0, 1) := by decide +kernel
theorem dX11_accuse_34 : decode cX11_accuse 34 = .ok (.getfield 38, 3) := by decide +kernel
theorem dX11_accuse_37 : decode cX11_accuse 37 = .ok (.invokevirtual 248, 3) := by decide +kernel
theorem dX11_accuse_40 : decode cX11_accuse 40 = .ok (.aload_n 0, 1) := by decide +kernel
theorem dX11_accuse_41 : decode cX11_accuse 41 = .ok (.aload_n 0, 1) := by decide +kernel
theorem dX11_accuse_42 : decode cX11_accuse 42 = .ok (.getfield 69, 3) := by decide +kernel
theorem dX11_accuse_45 : decode cX11_accuse 45 = .ok (.aload_n 0, 1) := by decide +kernel
theorem dX11_accuse_46 : decode cX11_accuse 46 = .ok (.getfield 38, 3) := by decide +kernel
theorem dX11_accuse_49 : decode cX11_accuse 49 = .ok (.iload_n 1, 1) := by decide +kernel
theorem dX11_accuse_50 : decode cX11_accuse 50 = .ok (.iload_n 2, 1) := by decide +kernel
theorem dX11_accuse_51 : decode cX11_accuse 51 = .ok (.invokevirtual 272, 3) := by decide +kernel
theorem dX11_accuse_54 : decode cX11_accuse 54 = .ok (.invokevirtual 255, 3) := by decide +kernel
theorem dX11_accuse_57 : decode cX11_accuse 57 = .ok (.ireturn, 1) := by decide +kernel
set_option maxRecDepth 20000 in
theorem ggX11_share_X2_copyFrom : GoodIn wsX11_share wsX2_copyFrom := goodIn_r _ [8, 9, 10, 11, 12, 13, 14, 15, 16, 17, 18, 19, 125, 126, 127, 128, 129, 130, 131] rfl (by decide +kernel)
set_option maxRecDepth 20000 in
theorem gX11_share_X2_copyFrom : GoodIn wsX11_share (wsV RX11 248 RX2 yX2_copyFrom wsX2_copyFrom) := goodIn_app (goodIn_of _ (by decide +kernel)) ggX11_share_X2_copyFrom
set_option maxRecDepth 20000 in
theorem ggX11_share_X0_shareOut : GoodIn wsX11_share wsX0_shareOut := goodIn_r _ [24, 25, 26, 27, 28, 29, 30, 31, 32, 33, 34, 35, 36, 37, 38, 39, 40, 41, 42, 43, 44, 45, 46, 47, 48, 49, 50, 51, 52, 53, 54, 55, 56, 57, 58, 59, 60, 61, 62, 63, 64, 65, 66, 67, 68, 69, 70, 71, 72, 73, 74, 75, 76, 23, 77, 78, 79, 80, 81, 82, 83, 84, 85, 86, 87, 88, 89, 7, 90, 9, 10, 11, 18, 125, 126, 127, 128, 129, 130, 131, 132, 133, 134, 135, 136, 137, 138, 139, 140, 141, 142, 143, 144, 145, 146, 147, 148, 149, 150, 151, 152, 153, 154, 155, 156, 157] rfl (by decide +kernel)
set_option maxRecDepth 20000 in
theorem gX11_share_X0_shareOut : GoodIn wsX11_share (wsV RX11 275 RX0 yX0_shareOut wsX0_shareOut) := goodIn_app (goodIn_of _ (by decide +kernel)) ggX11_share_X0_shareOut
set_option maxRecDepth 20000 in
theorem ggX11_share_X11_keptIfDone : GoodIn wsX11_share wsX11_keptIfDone := goodIn_r _ [95, 96, 1, 97, 98, 99, 100, 101, 102, 103, 104, 105, 5, 6, 7, 8, 9, 10, 11, 12, 13, 14, 15, 16, 17, 18, 19, 106, 107, 108, 109, 110, 111, 112, 113, 114, 115, 116, 117, 118, 119, 120, 121, 122, 123, 124, 158, 159, 160, 125, 126, 127, 128, 129, 130, 131] rfl (by decide +kernel)
set_option maxRecDepth 20000 in
theorem gX11_share_X11_keptIfDone : GoodIn wsX11_share (wsV RX11 255 RX11 yX11_keptIfDone wsX11_keptIfDone) := goodIn_app (goodIn_of _ (by decide +kernel)) ggX11_share_X11_keptIfDone
theorem dX11_share_0 : decode cX11_share 0 = .ok (.aload_n 0, 1) := by decide +kernel
theorem dX11_share_1 : decode cX11_share 1 = .ok (.getfield 42, 3) := by decide +kernel
theorem dX11_share_4 : decode cX11_share 4 = .ok (.aload_n 0, 1) := by decide +kernel
theorem dX11_share_5 : decode cX11_share 5 = .ok (.getfield 38, 3) := by decide +kernel
theorem dX11_share_8 : decode cX11_share 8 = .ok (.invokevirtual 248, 3) := by decide +kernel
theorem dX11_share_11 : decode cX11_share 11 = .ok (.aload_n 0, 1) := by decide +kernel
theorem dX11_share_12 : decode cX11_share 12 = .ok (.aload_n 0, 1) := by decide +kernel
theorem dX11_share_13 : decode cX11_share 13 = .ok (.getfield 69, 3) := by decide +kernel
theorem dX11_share_16 : decode cX11_share 16 = .ok (.aload_n 0, 1) := by decide +kernel
theorem dX11_share_17 : decode cX11_share 17 = .ok (.getfield 38, 3) := by decide +kernel
theorem dX11_share_20 : decode cX11_share 20 = .ok (.invokevirtual 275, 3) := by decide +kernel
theorem dX11_share_23 : decode cX11_share 23 = .ok (.invokevirtual 255, 3) := by decide +kernel
theorem dX11_share_26 : decode cX11_share 26 = .ok (.ireturn, 1) := by decide +kernel
set_option maxRecDepth 20000 in
theorem ggX11_undo_X3_pop : GoodIn wsX11_undo wsX3_pop := goodIn_r _ [7, 8, 9, 10, 11, 12, 13, 14, 15, 16, 17, 18, 19, 20, 21, 22, 23, 24, 25, 26, 46, 47, 48, 49, 50, 51, 52, 53, 54, 55] rfl (by decide +kernel)
set_option maxRecDepth 20000 in
theorem gX11_undo_X3_pop : GoodIn wsX11_undo (wsV RX11 278 RX3 yX3_pop wsX3_pop) := goodIn_app (goodIn_of _ (by decide +kernel)) ggX11_undo_X3_pop
theorem dX11_undo_0 : decode cX11_undo 0 = .ok (.aload_n 0, 1) := by decide +kernel
theorem dX11_undo_1 : decode cX11_undo 1 = .ok (.getfield 51, 3) := by decide +kernel
theorem dX11_undo_4 : decode cX11_undo 4 = .ok (.aload_n 0, 1) := by decide +kernel
theorem dX11_undo_5 : decode cX11_undo 5 = .ok (.getfield 38, 3) := by decide +kernel
theorem dX11_undo_8 : decode cX11_undo 8 = .ok (.invokevirtual 278, 3) := by decide +kernel
theorem dX11_undo_11 : decode cX11_undo 11 = .ok (.ireturn, 1) := by decide +kernel
set_option maxRecDepth 20000 in
theorem ggX11_keptIfDone_X3_push : GoodIn wsX11_keptIfDone wsX3_push := goodIn_r _ [7, 8, 9, 10, 11, 12, 13, 14, 15, 16, 17, 18, 19, 20, 21, 22, 23, 24, 25, 26, 46, 47, 48, 49, 50, 51, 52, 53, 54, 55] rfl (by decide +kernel)
set_option maxRecDepth 20000 in
theorem gX11_keptIfDone_X3_push : GoodIn wsX11_keptIfDone (wsV RX11 258 RX3 yX3_push wsX3_push) := goodIn_app (goodIn_of _ (by decide +kernel)) ggX11_keptIfDone_X3_push
theorem dX11_keptIfDone_0 : decode cX11_keptIfDone 0 = .ok (.iload_n 1, 1) := by decide +kernel
theorem dX11_keptIfDone_1 : decode cX11_keptIfDone 1 = .ok (.ifCond .ne 14, 3) := by decide +kernel
theorem dX11_keptIfDone_4 : decode cX11_keptIfDone 4 = .ok (.aload_n 0, 1) := by decide +kernel
theorem dX11_keptIfDone_5 : decode cX11_keptIfDone 5 = .ok (.getfield 51, 3) := by decide +kernel
theorem dX11_keptIfDone_8 : decode cX11_keptIfDone 8 = .ok (.aload_n 0, 1) := by decide +kernel
theorem dX11_keptIfDone_9 : decode cX11_keptIfDone 9 = .ok (.getfield 42, 3) := by decide +kernel
theorem dX11_keptIfDone_12 : decode cX11_keptIfDone 12 = .ok (.invokevirtual 258, 3) := by decide +kernel
theorem dX11_keptIfDone_15 : decode cX11_keptIfDone 15 = .ok (.iload_n 1, 1) := by decide +kernel
theorem dX11_keptIfDone_16 : decode cX11_keptIfDone 16 = .ok (.ireturn, 1) := by decide +kernel
set_option maxRecDepth 20000 in
theorem ggX11_far_X9_hasMan : GoodIn wsX11_far wsX9_hasMan := goodIn_r _ [8, 9, 74, 75, 76, 77, 78, 79, 80, 81, 82, 83, 84, 85, 86, 87] rfl (by decide +kernel)
set_option maxRecDepth 20000 in
theorem gX11_far_X9_hasMan : GoodIn wsX11_far (wsV RX11 174 RX9 yX9_hasMan wsX9_hasMan) := goodIn_app (goodIn_of _ (by decide +kernel)) ggX11_far_X9_hasMan
set_option maxRecDepth 20000 in
theorem ggX11_far_X9_hasCall : GoodIn wsX11_far wsX9_hasCall := goodIn_r _ [13, 14, 15, 16, 17, 7, 18, 19, 74, 75, 76, 77, 78, 79, 80, 81, 82, 83, 84, 85, 86, 87] rfl (by decide +kernel)
set_option maxRecDepth 20000 in
theorem gX11_far_X9_hasCall : GoodIn wsX11_far (wsV RX11 206 RX9 yX9_hasCall wsX9_hasCall) := goodIn_app (goodIn_of _ (by decide +kernel)) ggX11_far_X9_hasCall
set_option maxRecDepth 20000 in
theorem ggX11_far_X1_pitch : GoodIn wsX11_far wsX1_pitch := goodIn_r _ [24, 25, 26, 27, 28, 23, 29, 30, 31, 32, 7, 33, 34, 35, 36, 37, 38, 39, 40, 41, 88, 89, 90, 91, 92, 93, 94, 95, 96, 74, 75, 76, 77, 78, 79, 80, 81, 82, 83, 84, 85, 86, 87, 97, 98, 99, 100, 101, 102, 103] rfl (by decide +kernel)
set_option maxRecDepth 20000 in
theorem gX11_far_X1_pitch : GoodIn wsX11_far (wsV RX11 281 RX1 yX1_pitch wsX1_pitch) := goodIn_app (goodIn_of _ (by decide +kernel)) ggX11_far_X1_pitch
set_option maxRecDepth 20000 in
theorem ggX11_far_X1_distance : GoodIn wsX11_far wsX1_distance := goodIn_r _ [45, 25, 39, 46, 47, 48, 49, 40, 50, 51, 52, 7, 53, 54, 88, 89, 90, 91, 92, 93, 94, 95, 96, 74, 75, 76, 77, 78, 79, 80, 81, 82, 83, 84, 85, 86, 87] rfl (by decide +kernel)
set_option maxRecDepth 20000 in
theorem gX11_far_X1_distance : GoodIn wsX11_far (wsV RX11 284 RX1 yX1_distance wsX1_distance) := goodIn_app (goodIn_of _ (by decide +kernel)) ggX11_far_X1_distance
theorem dX11_far_0 : decode cX11_far 0 = .ok (.aload_n 0, 1) := by decide +kernel
theorem dX11_far_1 : decode cX11_far 1 = .ok (.getfield 19, 3) := by decide +kernel
theorem dX11_far_4 : decode cX11_far 4 = .ok (.iload_n 1, 1) := by decide +kernel
theorem dX11_far_5 : decode cX11_far 5 = .ok (.invokevirtual 174, 3) := by decide +kernel
theorem dX11_far_8 : decode cX11_far 8 = .ok (.ifCond .eq 15, 3) := by decide +kernel
theorem dX11_far_11 : decode cX11_far 11 = .ok (.aload_n 0, 1) := by decide +kernel
theorem dX11_far_12 : decode cX11_far 12 = .ok (.getfield 19, 3) := by decide +kernel
theorem dX11_far_15 : decode cX11_far 15 = .ok (.iload_n 2, 1) := by decide +kernel
theorem dX11_far_16 : decode cX11_far 16 = .ok (.iload_n 3, 1) := by decide +kernel
theorem dX11_far_17 : decode cX11_far 17 = .ok (.invokevirtual 206, 3) := by decide +kernel
theorem dX11_far_20 : decode cX11_far 20 = .ok (.ifCond .ne 5, 3) := by decide +kernel
theorem dX11_far_23 : decode cX11_far 23 = .ok (.iconst (-1), 1) := by decide +kernel
theorem dX11_far_24 : decode cX11_far 24 = .ok (.ireturn, 1) := by decide +kernel
theorem dX11_far_25 : decode cX11_far 25 = .ok (.aload_n 0, 1) := by decide +kernel
theorem dX11_far_26 : decode cX11_far 26 = .ok (.getfield 60, 3) := by decide +kernel
theorem dX11_far_29 : decode cX11_far 29 = .ok (.aload_n 0, 1) := by decide +kernel
theorem dX11_far_30 : decode cX11_far 30 = .ok (.getfield 38, 3) := by decide +kernel
theorem dX11_far_33 : decode cX11_far 33 = .ok (.invokevirtual 281, 3) := by decide +kernel
theorem dX11_far_36 : decode cX11_far 36 = .ok (.aload_n 0, 1) := by decide +kernel
theorem dX11_far_37 : decode cX11_far 37 = .ok (.getfield 60, 3) := by decide +kernel
theorem dX11_far_40 : decode cX11_far 40 = .ok (.iload_n 1, 1) := by decide +kernel
theorem dX11_far_41 : decode cX11_far 41 = .ok (.iload_n 2, 1) := by decide +kernel
theorem dX11_far_42 : decode cX11_far 42 = .ok (.iload_n 3, 1) := by decide +kernel
theorem dX11_far_43 : decode cX11_far 43 = .ok (.invokevirtual 284, 3) := by decide +kernel
theorem dX11_far_46 : decode cX11_far 46 = .ok (.ireturn, 1) := by decide +kernel
set_option maxRecDepth 20000 in
theorem ggX11_hears_X9_hasMan : GoodIn wsX11_hears wsX9_hasMan := goodIn_r _ [8, 9, 93, 94, 95, 96, 97, 98, 99, 100, 101, 102, 103, 104, 105, 106] rfl (by decide +kernel)
set_option maxRecDepth 20000 in
theorem gX11_hears_X9_hasMan : GoodIn wsX11_hears (wsV RX11 174 RX9 yX9_hasMan wsX9_hasMan) := goodIn_app (goodIn_of _ (by decide +kernel)) ggX11_hears_X9_hasMan
set_option maxRecDepth 20000 in
theorem ggX11_hears_X9_hasCall : GoodIn wsX11_hears wsX9_hasCall := goodIn_r _ [13, 14, 15, 16, 17, 7, 18, 19, 93, 94, 95, 96, 97, 98, 99, 100, 101, 102, 103, 104, 105, 106] rfl (by decide +kernel)
set_option maxRecDepth 20000 in
theorem gX11_hears_X9_hasCall : GoodIn wsX11_hears (wsV RX11 206 RX9 yX9_hasCall wsX9_hasCall) := goodIn_app (goodIn_of _ (by decide +kernel)) ggX11_hears_X9_hasCall
set_option maxRecDepth 20000 in
theorem ggX11_hears_X1_pitch : GoodIn wsX11_hears wsX1_pitch := goodIn_r _ [24, 25, 26, 27, 28, 23, 29, 30, 31, 32, 7, 33, 34, 35, 36, 37, 38, 39, 40, 41, 107, 108, 109, 110, 111, 112, 113, 114, 115, 93, 94, 95, 96, 97, 98, 99, 100, 101, 102, 103, 104, 105, 106, 116, 117, 118, 119, 120, 121, 122] rfl (by decide +kernel)
set_option maxRecDepth 20000 in
theorem gX11_hears_X1_pitch : GoodIn wsX11_hears (wsV RX11 281 RX1 yX1_pitch wsX1_pitch) := goodIn_app (goodIn_of _ (by decide +kernel)) ggX11_hears_X1_pitch
set_option maxRecDepth 20000 in
theorem ggX11_hears_X1_hearers : GoodIn wsX11_hears wsX1_hearers := goodIn_r _ [45, 25, 46, 47, 48, 23, 49, 41, 39, 40, 50, 51, 52, 7, 53, 54, 55, 56, 57, 58, 59, 60, 61, 62, 63, 64, 65, 66, 67, 68, 69, 70, 71, 72, 73, 107, 108, 109, 110, 111, 112, 113, 114, 115, 93, 94, 95, 96, 97, 98, 99, 100, 101, 102, 103, 104, 105, 106] rfl (by decide +kernel)
set_option maxRecDepth 20000 in
theorem gX11_hears_X1_hearers : GoodIn wsX11_hears (wsV RX11 288 RX1 yX1_hearers wsX1_hearers) := goodIn_app (goodIn_of _ (by decide +kernel)) ggX11_hears_X1_hearers
theorem dX11_hears_0 : decode cX11_hears 0 = .ok (.aload_n 0, 1) := by decide +kernel
theorem dX11_hears_1 : decode cX11_hears 1 = .ok (.getfield 19, 3) := by decide +kernel
theorem dX11_hears_4 : decode cX11_hears 4 = .ok (.iload_n 1, 1) := by decide +kernel
theorem dX11_hears_5 : decode cX11_hears 5 = .ok (.invokevirtual 174, 3) := by decide +kernel
theorem dX11_hears_8 : decode cX11_hears 8 = .ok (.ifCond .eq 15, 3) := by decide +kernel
theorem dX11_hears_11 : decode cX11_hears 11 = .ok (.aload_n 0, 1) := by decide +kernel
theorem dX11_hears_12 : decode cX11_hears 12 = .ok (.getfield 19, 3) := by decide +kernel
theorem dX11_hears_15 : decode cX11_hears 15 = .ok (.iload_n 2, 1) := by decide +kernel
theorem dX11_hears_16 : decode cX11_hears 16 = .ok (.iload_n 3, 1) := by decide +kernel
theorem dX11_hears_17 : decode cX11_hears 17 = .ok (.invokevirtual 206, 3) := by decide +kernel
theorem dX11_hears_20 : decode cX11_hears 20 = .ok (.ifCond .ne 5, 3) := by decide +kernel
theorem dX11_hears_23 : decode cX11_hears 23 = .ok (.iconst (-1), 1) := by decide +kernel
theorem dX11_hears_24 : decode cX11_hears 24 = .ok (.ireturn, 1) := by decide +kernel
theorem dX11_hears_25 : decode cX11_hears 25 = .ok (.aload_n 0, 1) := by decide +kernel
theorem dX11_hears_26 : decode cX11_hears 26 = .ok (.getfield 60, 3) := by decide +kernel
theorem dX11_hears_29 : decode cX11_hears 29 = .ok (.aload_n 0, 1) := by decide +kernel
theorem dX11_hears_30 : decode cX11_hears 30 = .ok (.getfield 38, 3) := by decide +kernel
theorem dX11_hears_33 : decode cX11_hears 33 = .ok (.invokevirtual 281, 3) := by decide +kernel
theorem dX11_hears_36 : decode cX11_hears 36 = .ok (.aload_n 0, 1) := by decide +kernel
theorem dX11_hears_37 : decode cX11_hears 37 = .ok (.getfield 60, 3) := by decide +kernel
theorem dX11_hears_40 : decode cX11_hears 40 = .ok (.iload_n 2, 1) := by decide +kernel
theorem dX11_hears_41 : decode cX11_hears 41 = .ok (.iload_n 3, 1) := by decide +kernel
theorem dX11_hears_42 : decode cX11_hears 42 = .ok (.invokevirtual 288, 3) := by decide +kernel
theorem dX11_hears_45 : decode cX11_hears 45 = .ok (.iload_n 1, 1) := by decide +kernel
theorem dX11_hears_46 : decode cX11_hears 46 = .ok (.ishr, 1) := by decide +kernel
theorem dX11_hears_47 : decode cX11_hears 47 = .ok (.iconst 1, 1) := by decide +kernel
theorem dX11_hears_48 : decode cX11_hears 48 = .ok (.iand, 1) := by decide +kernel
theorem dX11_hears_49 : decode cX11_hears 49 = .ok (.ireturn, 1) := by decide +kernel
set_option maxRecDepth 20000 in
theorem ggX11_who_X9_hasCall : GoodIn wsX11_who wsX9_hasCall := goodIn_r _ [8, 9, 10, 11, 12, 7, 13, 14, 88, 89, 90, 91, 92, 93, 94, 95, 96, 97, 98, 99, 100, 101] rfl (by decide +kernel)
set_option maxRecDepth 20000 in
theorem gX11_who_X9_hasCall : GoodIn wsX11_who (wsV RX11 206 RX9 yX9_hasCall wsX9_hasCall) := goodIn_app (goodIn_of _ (by decide +kernel)) ggX11_who_X9_hasCall
set_option maxRecDepth 20000 in
theorem ggX11_who_X1_pitch : GoodIn wsX11_who wsX1_pitch := goodIn_r _ [19, 20, 21, 22, 23, 18, 24, 25, 26, 27, 7, 28, 29, 30, 31, 32, 33, 34, 35, 36, 102, 103, 104, 105, 106, 107, 108, 109, 110, 88, 89, 90, 91, 92, 93, 94, 95, 96, 97, 98, 99, 100, 101, 111, 112, 113, 114, 115, 116, 117] rfl (by decide +kernel)
set_option maxRecDepth 20000 in
theorem gX11_who_X1_pitch : GoodIn wsX11_who (wsV RX11 281 RX1 yX1_pitch wsX1_pitch) := goodIn_app (goodIn_of _ (by decide +kernel)) ggX11_who_X1_pitch
set_option maxRecDepth 20000 in
theorem ggX11_who_X1_hearers : GoodIn wsX11_who wsX1_hearers := goodIn_r _ [40, 20, 41, 42, 43, 18, 44, 36, 34, 35, 45, 46, 47, 7, 48, 49, 50, 51, 52, 53, 54, 55, 56, 57, 58, 59, 60, 61, 62, 63, 64, 65, 66, 67, 68, 102, 103, 104, 105, 106, 107, 108, 109, 110, 88, 89, 90, 91, 92, 93, 94, 95, 96, 97, 98, 99, 100, 101] rfl (by decide +kernel)
set_option maxRecDepth 20000 in
theorem gX11_who_X1_hearers : GoodIn wsX11_who (wsV RX11 288 RX1 yX1_hearers wsX1_hearers) := goodIn_app (goodIn_of _ (by decide +kernel)) ggX11_who_X1_hearers
theorem dX11_who_0 : decode cX11_who 0 = .ok (.aload_n 0, 1) := by decide +kernel
theorem dX11_who_1 : decode cX11_who 1 = .ok (.getfield 19, 3) := by decide +kernel
theorem dX11_who_4 : decode cX11_who 4 = .ok (.iload_n 1, 1) := by decide +kernel
theorem dX11_who_5 : decode cX11_who 5 = .ok (.iload_n 2, 1) := by decide +kernel
theorem dX11_who_6 : decode cX11_who 6 = .ok (.invokevirtual 206, 3) := by decide +kernel
theorem dX11_who_9 : decode cX11_who 9 = .ok (.ifCond .ne 5, 3) := by decide +kernel
theorem dX11_who_12 : decode cX11_who 12 = .ok (.iconst (-1), 1) := by decide +kernel
theorem dX11_who_13 : decode cX11_who 13 = .ok (.ireturn, 1) := by decide +kernel
theorem dX11_who_14 : decode cX11_who 14 = .ok (.aload_n 0, 1) := by decide +kernel
theorem dX11_who_15 : decode cX11_who 15 = .ok (.getfield 60, 3) := by decide +kernel
theorem dX11_who_18 : decode cX11_who 18 = .ok (.aload_n 0, 1) := by decide +kernel
theorem dX11_who_19 : decode cX11_who 19 = .ok (.getfield 38, 3) := by decide +kernel
theorem dX11_who_22 : decode cX11_who 22 = .ok (.invokevirtual 281, 3) := by decide +kernel
theorem dX11_who_25 : decode cX11_who 25 = .ok (.aload_n 0, 1) := by decide +kernel
theorem dX11_who_26 : decode cX11_who 26 = .ok (.getfield 60, 3) := by decide +kernel
theorem dX11_who_29 : decode cX11_who 29 = .ok (.iload_n 1, 1) := by decide +kernel
theorem dX11_who_30 : decode cX11_who 30 = .ok (.iload_n 2, 1) := by decide +kernel
theorem dX11_who_31 : decode cX11_who 31 = .ok (.invokevirtual 288, 3) := by decide +kernel
theorem dX11_who_34 : decode cX11_who 34 = .ok (.ireturn, 1) := by decide +kernel
set_option maxRecDepth 20000 in
theorem ggX11_first_X9_hasFlight : GoodIn wsX11_first wsX9_hasFlight := goodIn_r _ [8, 9, 96, 97, 98, 99, 100, 101, 102, 103, 104, 105, 106, 107, 108, 109] rfl (by decide +kernel)
set_option maxRecDepth 20000 in
theorem gX11_first_X9_hasFlight : GoodIn wsX11_first (wsV RX11 200 RX9 yX9_hasFlight wsX9_hasFlight) := goodIn_app (goodIn_of _ (by decide +kernel)) ggX11_first_X9_hasFlight
set_option maxRecDepth 20000 in
theorem ggX11_first_X1_pitch : GoodIn wsX11_first wsX1_pitch := goodIn_r _ [14, 15, 16, 17, 18, 13, 19, 20, 21, 22, 7, 23, 24, 25, 26, 27, 28, 29, 30, 31, 110, 111, 112, 113, 114, 115, 116, 117, 118, 96, 97, 98, 99, 100, 101, 102, 103, 104, 105, 106, 107, 108, 109, 119, 120, 121, 122, 123, 124, 125] rfl (by decide +kernel)
set_option maxRecDepth 20000 in
theorem gX11_first_X1_pitch : GoodIn wsX11_first (wsV RX11 281 RX1 yX1_pitch wsX1_pitch) := goodIn_app (goodIn_of _ (by decide +kernel)) ggX11_first_X1_pitch
set_option maxRecDepth 20000 in
theorem ggX11_first_X1_listen : GoodIn wsX11_first wsX1_listen := goodIn_r _ [35, 15, 36, 37, 38, 39, 13, 40, 41, 42, 43, 44, 31, 29, 30, 45, 46, 47, 7, 48, 49, 50, 51, 52, 53, 54, 55, 56, 57, 58, 59, 60, 61, 62, 63, 64, 65, 66, 67, 68, 110, 111, 112, 113, 114, 115, 116, 117, 118, 96, 97, 98, 99, 100, 101, 102, 103, 104, 105, 106, 107, 108, 109] rfl (by decide +kernel)
set_option maxRecDepth 20000 in
theorem gX11_first_X1_listen : GoodIn wsX11_first (wsV RX11 291 RX1 yX1_listen wsX1_listen) := goodIn_app (goodIn_of _ (by decide +kernel)) ggX11_first_X1_listen
set_option maxRecDepth 20000 in
theorem ggX11_first_X1_firstHeard : GoodIn wsX11_first wsX1_firstHeard := goodIn_r _ [72, 15, 36, 73, 74, 75, 13, 76, 29, 56, 57, 58, 7, 59, 60, 110, 111, 112, 113, 114, 115, 116, 117, 118, 96, 97, 98, 99, 100, 101, 102, 103, 104, 105, 106, 107, 108, 109] rfl (by decide +kernel)
set_option maxRecDepth 20000 in
theorem gX11_first_X1_firstHeard : GoodIn wsX11_first (wsV RX11 294 RX1 yX1_firstHeard wsX1_firstHeard) := goodIn_app (goodIn_of _ (by decide +kernel)) ggX11_first_X1_firstHeard
theorem dX11_first_0 : decode cX11_first 0 = .ok (.aload_n 0, 1) := by decide +kernel
theorem dX11_first_1 : decode cX11_first 1 = .ok (.getfield 19, 3) := by decide +kernel
theorem dX11_first_4 : decode cX11_first 4 = .ok (.iload_n 1, 1) := by decide +kernel
theorem dX11_first_5 : decode cX11_first 5 = .ok (.invokevirtual 200, 3) := by decide +kernel
theorem dX11_first_8 : decode cX11_first 8 = .ok (.ifCond .eq 12, 3) := by decide +kernel
theorem dX11_first_11 : decode cX11_first 11 = .ok (.iload_n 2, 1) := by decide +kernel
theorem dX11_first_12 : decode cX11_first 12 = .ok (.ifCond .lt 8, 3) := by decide +kernel
theorem dX11_first_15 : decode cX11_first 15 = .ok (.iload_n 2, 1) := by decide +kernel
theorem dX11_first_16 : decode cX11_first 16 = .ok (.iconst 1, 1) := by decide +kernel
theorem dX11_first_17 : decode cX11_first 17 = .ok (.if_icmp .le 5, 3) := by decide +kernel
theorem dX11_first_20 : decode cX11_first 20 = .ok (.iconst (-1), 1) := by decide +kernel
theorem dX11_first_21 : decode cX11_first 21 = .ok (.ireturn, 1) := by decide +kernel
theorem dX11_first_22 : decode cX11_first 22 = .ok (.aload_n 0, 1) := by decide +kernel
theorem dX11_first_23 : decode cX11_first 23 = .ok (.getfield 60, 3) := by decide +kernel
theorem dX11_first_26 : decode cX11_first 26 = .ok (.aload_n 0, 1) := by decide +kernel
theorem dX11_first_27 : decode cX11_first 27 = .ok (.getfield 38, 3) := by decide +kernel
theorem dX11_first_30 : decode cX11_first 30 = .ok (.invokevirtual 281, 3) := by decide +kernel
theorem dX11_first_33 : decode cX11_first 33 = .ok (.aload_n 0, 1) := by decide +kernel
theorem dX11_first_34 : decode cX11_first 34 = .ok (.getfield 60, 3) := by decide +kernel
theorem dX11_first_37 : decode cX11_first 37 = .ok (.iload_n 1, 1) := by decide +kernel
theorem dX11_first_38 : decode cX11_first 38 = .ok (.invokevirtual 291, 3) := by decide +kernel
theorem dX11_first_41 : decode cX11_first 41 = .ok (.aload_n 0, 1) := by decide +kernel
theorem dX11_first_42 : decode cX11_first 42 = .ok (.getfield 60, 3) := by decide +kernel
theorem dX11_first_45 : decode cX11_first 45 = .ok (.iload_n 1, 1) := by decide +kernel
theorem dX11_first_46 : decode cX11_first 46 = .ok (.iload_n 2, 1) := by decide +kernel
theorem dX11_first_47 : decode cX11_first 47 = .ok (.invokevirtual 294, 3) := by decide +kernel
theorem dX11_first_50 : decode cX11_first 50 = .ok (.ireturn, 1) := by decide +kernel
set_option maxRecDepth 20000 in
theorem ggX11_lied_X0_liars : GoodIn wsX11_lied wsX0_liars := goodIn_r _ [7, 8, 9, 10, 11, 12, 13, 14, 15, 16, 17, 18, 19, 20, 21, 22, 23, 24, 25, 26, 27, 28, 29, 30, 31, 32, 33, 34, 35, 36, 37, 38, 39, 40, 41, 42, 43, 44, 45, 46, 47, 48, 49, 50, 51, 52, 53, 54, 55, 56, 57, 58, 59, 60, 61, 62, 63, 64, 65, 66, 67, 68, 69, 70, 71, 72, 73, 74, 94, 95, 96, 97, 98, 99, 100, 101, 102, 103, 104, 105, 106, 107, 108, 109, 110, 111, 112, 113, 114, 115, 116, 117, 118, 119, 120, 121, 122, 123, 124, 125, 126] rfl (by decide +kernel)
set_option maxRecDepth 20000 in
theorem gX11_lied_X0_liars : GoodIn wsX11_lied (wsV RX11 297 RX0 yX0_liars wsX0_liars) := goodIn_app (goodIn_of _ (by decide +kernel)) ggX11_lied_X0_liars
theorem dX11_lied_0 : decode cX11_lied 0 = .ok (.aload_n 0, 1) := by decide +kernel
theorem dX11_lied_1 : decode cX11_lied 1 = .ok (.getfield 69, 3) := by decide +kernel
theorem dX11_lied_4 : decode cX11_lied 4 = .ok (.aload_n 0, 1) := by decide +kernel
theorem dX11_lied_5 : decode cX11_lied 5 = .ok (.getfield 38, 3) := by decide +kernel
theorem dX11_lied_8 : decode cX11_lied 8 = .ok (.invokevirtual 297, 3) := by decide +kernel
theorem dX11_lied_11 : decode cX11_lied 11 = .ok (.ireturn, 1) := by decide +kernel
set_option maxRecDepth 20000 in
theorem ggX11_nearer_X9_hasMan : GoodIn wsX11_nearer wsX9_hasMan := goodIn_r _ [8, 9, 109, 110, 111, 112, 113, 114, 115, 116, 117, 118, 119, 120, 121, 122] rfl (by decide +kernel)
set_option maxRecDepth 20000 in
theorem gX11_nearer_X9_hasMan : GoodIn wsX11_nearer (wsV RX11 174 RX9 yX9_hasMan wsX9_hasMan) := goodIn_app (goodIn_of _ (by decide +kernel)) ggX11_nearer_X9_hasMan
set_option maxRecDepth 20000 in
theorem ggX11_nearer_X0_strikers : GoodIn wsX11_nearer wsX0_strikers := goodIn_r _ [14, 15, 16, 17, 18, 13, 19, 20, 21, 22, 23, 24, 25, 26, 27, 28, 29, 30, 31, 32, 33, 7, 34, 35, 36, 37, 38, 39, 40, 41, 42, 43, 44, 45, 46, 47, 48, 49, 50, 51, 52, 53, 54, 55, 56, 57, 58, 59, 60, 61, 62, 63, 64, 65, 66, 67, 68, 69, 70, 71, 72, 73, 74, 75, 76, 77, 78, 79, 80, 81, 82, 83, 84, 85, 86, 87, 88, 89, 123, 124, 125, 109, 110, 111, 112, 113, 114, 115, 116, 117, 118, 119, 120, 121, 122, 126, 127, 128, 129, 130, 131, 132, 133, 134, 135, 136, 137, 138, 139, 140, 141] rfl (by decide +kernel)
set_option maxRecDepth 20000 in
theorem gX11_nearer_X0_strikers : GoodIn wsX11_nearer (wsV RX11 300 RX0 yX0_strikers wsX0_strikers) := goodIn_app (goodIn_of _ (by decide +kernel)) ggX11_nearer_X0_strikers
theorem dX11_nearer_0 : decode cX11_nearer 0 = .ok (.aload_n 0, 1) := by decide +kernel
theorem dX11_nearer_1 : decode cX11_nearer 1 = .ok (.getfield 19, 3) := by decide +kernel
theorem dX11_nearer_4 : decode cX11_nearer 4 = .ok (.iload_n 1, 1) := by decide +kernel
theorem dX11_nearer_5 : decode cX11_nearer 5 = .ok (.invokevirtual 174, 3) := by decide +kernel
theorem dX11_nearer_8 : decode cX11_nearer 8 = .ok (.ifCond .ne 5, 3) := by decide +kernel
theorem dX11_nearer_11 : decode cX11_nearer 11 = .ok (.iconst (-1), 1) := by decide +kernel
theorem dX11_nearer_12 : decode cX11_nearer 12 = .ok (.ireturn, 1) := by decide +kernel
theorem dX11_nearer_13 : decode cX11_nearer 13 = .ok (.aload_n 0, 1) := by decide +kernel
theorem dX11_nearer_14 : decode cX11_nearer 14 = .ok (.getfield 69, 3) := by decide +kernel
theorem dX11_nearer_17 : decode cX11_nearer 17 = .ok (.aload_n 0, 1) := by decide +kernel
theorem dX11_nearer_18 : decode cX11_nearer 18 = .ok (.getfield 38, 3) := by decide +kernel
theorem dX11_nearer_21 : decode cX11_nearer 21 = .ok (.iload_n 1, 1) := by decide +kernel
theorem dX11_nearer_22 : decode cX11_nearer 22 = .ok (.invokevirtual 300, 3) := by decide +kernel
theorem dX11_nearer_25 : decode cX11_nearer 25 = .ok (.ireturn, 1) := by decide +kernel
set_option maxRecDepth 20000 in
theorem ggX11_due_X9_hasMan : GoodIn wsX11_due wsX9_hasMan := goodIn_r _ [8, 9, 96, 97, 98, 99, 100, 101, 102, 103, 104, 105, 106, 107, 108, 109] rfl (by decide +kernel)
set_option maxRecDepth 20000 in
theorem gX11_due_X9_hasMan : GoodIn wsX11_due (wsV RX11 174 RX9 yX9_hasMan wsX9_hasMan) := goodIn_app (goodIn_of _ (by decide +kernel)) ggX11_due_X9_hasMan
set_option maxRecDepth 20000 in
theorem ggX11_due_X9_hasFlight : GoodIn wsX11_due wsX9_hasFlight := goodIn_r _ [13, 14, 96, 97, 98, 99, 100, 101, 102, 103, 104, 105, 106, 107, 108, 109] rfl (by decide +kernel)
set_option maxRecDepth 20000 in
theorem gX11_due_X9_hasFlight : GoodIn wsX11_due (wsV RX11 200 RX9 yX9_hasFlight wsX9_hasFlight) := goodIn_app (goodIn_of _ (by decide +kernel)) ggX11_due_X9_hasFlight
set_option maxRecDepth 20000 in
theorem ggX11_due_X1_pitch : GoodIn wsX11_due wsX1_pitch := goodIn_r _ [19, 20, 21, 22, 23, 18, 24, 25, 26, 27, 7, 28, 29, 30, 31, 32, 33, 34, 35, 36, 110, 111, 112, 113, 114, 115, 116, 117, 118, 96, 97, 98, 99, 100, 101, 102, 103, 104, 105, 106, 107, 108, 109, 89, 90, 91, 92, 93, 94, 95] rfl (by decide +kernel)
set_option maxRecDepth 20000 in
theorem gX11_due_X1_pitch : GoodIn wsX11_due (wsV RX11 281 RX1 yX1_pitch wsX1_pitch) := goodIn_app (goodIn_of _ (by decide +kernel)) ggX11_due_X1_pitch
set_option maxRecDepth 20000 in
theorem ggX11_due_X1_countOaths : GoodIn wsX11_due wsX1_countOaths := goodIn_r _ [40, 20, 41, 42, 43, 18, 44, 34, 45, 46, 47, 7, 48, 49, 50, 51, 52, 53, 54, 55, 56, 57, 58, 59, 60, 61, 110, 111, 112, 113, 114, 115, 116, 117, 118, 96, 97, 98, 99, 100, 101, 102, 103, 104, 105, 106, 107, 108, 109, 89, 90, 91, 92, 93, 94, 95] rfl (by decide +kernel)
set_option maxRecDepth 20000 in
theorem gX11_due_X1_countOaths : GoodIn wsX11_due (wsV RX11 303 RX1 yX1_countOaths wsX1_countOaths) := goodIn_app (goodIn_of _ (by decide +kernel)) ggX11_due_X1_countOaths
set_option maxRecDepth 20000 in
theorem ggX11_due_X1_portion : GoodIn wsX11_due wsX1_portion := goodIn_r _ [65, 56, 54, 20, 66, 67, 68, 18, 69, 55, 57, 58, 59, 7, 60, 61, 110, 111, 112, 113, 114, 115, 116, 117, 118, 96, 97, 98, 99, 100, 101, 102, 103, 104, 105, 106, 107, 108, 109] rfl (by decide +kernel)
set_option maxRecDepth 20000 in
theorem gX11_due_X1_portion : GoodIn wsX11_due (wsV RX11 306 RX1 yX1_portion wsX1_portion) := goodIn_app (goodIn_of _ (by decide +kernel)) ggX11_due_X1_portion
theorem dX11_due_0 : decode cX11_due 0 = .ok (.aload_n 0, 1) := by decide +kernel
theorem dX11_due_1 : decode cX11_due 1 = .ok (.getfield 19, 3) := by decide +kernel
theorem dX11_due_4 : decode cX11_due 4 = .ok (.iload_n 1, 1) := by decide +kernel
theorem dX11_due_5 : decode cX11_due 5 = .ok (.invokevirtual 174, 3) := by decide +kernel
theorem dX11_due_8 : decode cX11_due 8 = .ok (.ifCond .eq 20, 3) := by decide +kernel
theorem dX11_due_11 : decode cX11_due 11 = .ok (.aload_n 0, 1) := by decide +kernel
theorem dX11_due_12 : decode cX11_due 12 = .ok (.getfield 19, 3) := by decide +kernel
theorem dX11_due_15 : decode cX11_due 15 = .ok (.aload_n 0, 1) := by decide +kernel
theorem dX11_due_16 : decode cX11_due 16 = .ok (.getfield 38, 3) := by decide +kernel
theorem dX11_due_19 : decode cX11_due 19 = .ok (.getfield 217, 3) := by decide +kernel
theorem dX11_due_22 : decode cX11_due 22 = .ok (.invokevirtual 200, 3) := by decide +kernel
theorem dX11_due_25 : decode cX11_due 25 = .ok (.ifCond .ne 5, 3) := by decide +kernel
theorem dX11_due_28 : decode cX11_due 28 = .ok (.iconst (-1), 1) := by decide +kernel
theorem dX11_due_29 : decode cX11_due 29 = .ok (.ireturn, 1) := by decide +kernel
theorem dX11_due_30 : decode cX11_due 30 = .ok (.aload_n 0, 1) := by decide +kernel
theorem dX11_due_31 : decode cX11_due 31 = .ok (.getfield 60, 3) := by decide +kernel
theorem dX11_due_34 : decode cX11_due 34 = .ok (.aload_n 0, 1) := by decide +kernel
theorem dX11_due_35 : decode cX11_due 35 = .ok (.getfield 38, 3) := by decide +kernel
theorem dX11_due_38 : decode cX11_due 38 = .ok (.invokevirtual 281, 3) := by decide +kernel
theorem dX11_due_41 : decode cX11_due 41 = .ok (.aload_n 0, 1) := by decide +kernel
theorem dX11_due_42 : decode cX11_due 42 = .ok (.getfield 60, 3) := by decide +kernel
theorem dX11_due_45 : decode cX11_due 45 = .ok (.aload_n 0, 1) := by decide +kernel
theorem dX11_due_46 : decode cX11_due 46 = .ok (.getfield 38, 3) := by decide +kernel
theorem dX11_due_49 : decode cX11_due 49 = .ok (.invokevirtual 303, 3) := by decide +kernel
theorem dX11_due_52 : decode cX11_due 52 = .ok (.aload_n 0, 1) := by decide +kernel
theorem dX11_due_53 : decode cX11_due 53 = .ok (.getfield 60, 3) := by decide +kernel
theorem dX11_due_56 : decode cX11_due 56 = .ok (.iload_n 1, 1) := by decide +kernel
theorem dX11_due_57 : decode cX11_due 57 = .ok (.aload_n 0, 1) := by decide +kernel
theorem dX11_due_58 : decode cX11_due 58 = .ok (.getfield 19, 3) := by decide +kernel
theorem dX11_due_61 : decode cX11_due 61 = .ok (.getfield 245, 3) := by decide +kernel
theorem dX11_due_64 : decode cX11_due 64 = .ok (.invokevirtual 306, 3) := by decide +kernel
theorem dX11_due_67 : decode cX11_due 67 = .ok (.ireturn, 1) := by decide +kernel
set_option maxRecDepth 20000 in
theorem ggX11_honest_X9_hasMan : GoodIn wsX11_honest wsX9_hasMan := goodIn_r _ [7, 8, 130, 131, 132, 133, 134, 135, 136, 137, 138, 139, 140, 141, 142, 143] rfl (by decide +kernel)
set_option maxRecDepth 20000 in
theorem gX11_honest_X9_hasMan : GoodIn wsX11_honest (wsV RX11 174 RX9 yX9_hasMan wsX9_hasMan) := goodIn_app (goodIn_of _ (by decide +kernel)) ggX11_honest_X9_hasMan
set_option maxRecDepth 20000 in
theorem ggX11_honest_X9_hasFlight : GoodIn wsX11_honest wsX9_hasFlight := goodIn_r _ [12, 13, 130, 131, 132, 133, 134, 135, 136, 137, 138, 139, 140, 141, 142, 143] rfl (by decide +kernel)
set_option maxRecDepth 20000 in
theorem gX11_honest_X9_hasFlight : GoodIn wsX11_honest (wsV RX11 200 RX9 yX9_hasFlight wsX9_hasFlight) := goodIn_app (goodIn_of _ (by decide +kernel)) ggX11_honest_X9_hasFlight
set_option maxRecDepth 20000 in
theorem ggX11_honest_X11_countHonest : GoodIn wsX11_honest wsX11_countHonest := goodIn_r _ [18, 2, 19, 20, 21, 22, 23, 24, 25, 26, 27, 28, 29, 30, 31, 32, 6, 33, 34, 35, 36, 37, 38, 39, 40, 41, 42, 43, 44, 45, 46, 47, 48, 49, 50, 51, 52, 53, 54, 55, 56, 57, 58, 59, 60, 61, 62, 63, 64, 65, 66, 67, 68, 69, 70, 71, 72, 73, 74, 75, 76, 77, 78, 79, 80, 81, 82, 83, 84, 85, 86, 87, 88, 89, 90, 91, 92, 93, 94, 95, 96, 97, 98, 99, 100, 101, 102, 111, 112, 113, 114, 115, 116, 117, 118, 119, 120, 121, 122, 123, 124, 125, 126, 127, 128, 129, 144, 145, 146, 147, 148, 149, 150, 151, 152, 130, 131, 132, 133, 134, 135, 136, 137, 138, 139, 140, 141, 142, 143, 153, 154, 155, 156, 157, 158, 159] rfl (by decide +kernel)
set_option maxRecDepth 20000 in
theorem gX11_honest_X11_countHonest : GoodIn wsX11_honest (wsV RX11 309 RX11 yX11_countHonest wsX11_countHonest) := goodIn_app (goodIn_of _ (by decide +kernel)) ggX11_honest_X11_countHonest
set_option maxRecDepth 20000 in
theorem ggX11_honest_X1_portion : GoodIn wsX11_honest wsX1_portion := goodIn_r _ [106, 97, 95, 25, 107, 108, 109, 23, 110, 96, 98, 99, 100, 6, 101, 102, 144, 145, 146, 147, 148, 149, 150, 151, 152, 130, 131, 132, 133, 134, 135, 136, 137, 138, 139, 140, 141, 142, 143] rfl (by decide +kernel)
set_option maxRecDepth 20000 in
theorem gX11_honest_X1_portion : GoodIn wsX11_honest (wsV RX11 306 RX1 yX1_portion wsX1_portion) := goodIn_app (goodIn_of _ (by decide +kernel)) ggX11_honest_X1_portion
theorem dX11_honest_0 : decode cX11_honest 0 = .ok (.aload_n 0, 1) := by decide +kernel
theorem dX11_honest_1 : decode cX11_honest 1 = .ok (.getfield 19, 3) := by decide +kernel
theorem dX11_honest_4 : decode cX11_honest 4 = .ok (.iload_n 1, 1) := by decide +kernel
theorem dX11_honest_5 : decode cX11_honest 5 = .ok (.invokevirtual 174, 3) := by decide +kernel
theorem dX11_honest_8 : decode cX11_honest 8 = .ok (.ifCond .eq 14, 3) := by decide +kernel
theorem dX11_honest_11 : decode cX11_honest 11 = .ok (.aload_n 0, 1) := by decide +kernel
theorem dX11_honest_12 : decode cX11_honest 12 = .ok (.getfield 19, 3) := by decide +kernel
theorem dX11_honest_15 : decode cX11_honest 15 = .ok (.iload_n 2, 1) := by decide +kernel
theorem dX11_honest_16 : decode cX11_honest 16 = .ok (.invokevirtual 200, 3) := by decide +kernel
theorem dX11_honest_19 : decode cX11_honest 19 = .ok (.ifCond .ne 5, 3) := by decide +kernel
theorem dX11_honest_22 : decode cX11_honest 22 = .ok (.iconst (-1), 1) := by decide +kernel
theorem dX11_honest_23 : decode cX11_honest 23 = .ok (.ireturn, 1) := by decide +kernel
theorem dX11_honest_24 : decode cX11_honest 24 = .ok (.aload_n 0, 1) := by decide +kernel
theorem dX11_honest_25 : decode cX11_honest 25 = .ok (.iload_n 2, 1) := by decide +kernel
theorem dX11_honest_26 : decode cX11_honest 26 = .ok (.invokevirtual 309, 3) := by decide +kernel
theorem dX11_honest_29 : decode cX11_honest 29 = .ok (.aload_n 0, 1) := by decide +kernel
theorem dX11_honest_30 : decode cX11_honest 30 = .ok (.getfield 60, 3) := by decide +kernel
theorem dX11_honest_33 : decode cX11_honest 33 = .ok (.iload_n 1, 1) := by decide +kernel
theorem dX11_honest_34 : decode cX11_honest 34 = .ok (.aload_n 0, 1) := by decide +kernel
theorem dX11_honest_35 : decode cX11_honest 35 = .ok (.getfield 19, 3) := by decide +kernel
theorem dX11_honest_38 : decode cX11_honest 38 = .ok (.getfield 245, 3) := by decide +kernel
theorem dX11_honest_41 : decode cX11_honest 41 = .ok (.invokevirtual 306, 3) := by decide +kernel
theorem dX11_honest_44 : decode cX11_honest 44 = .ok (.ireturn, 1) := by decide +kernel
set_option maxRecDepth 20000 in
theorem ggX11_countHonest_X1_pitch : GoodIn wsX11_countHonest wsX1_pitch := goodIn_r _ [7, 8, 9, 10, 11, 6, 12, 13, 14, 15, 16, 17, 18, 19, 20, 21, 22, 23, 24, 25, 106, 107, 108, 109, 110, 111, 112, 113, 114, 115, 116, 117, 118, 119, 120, 121, 122, 123, 124, 125, 126, 127, 128, 129, 130, 131, 132, 133, 134, 135] rfl (by decide +kernel)
set_option maxRecDepth 20000 in
theorem gX11_countHonest_X1_pitch : GoodIn wsX11_countHonest (wsV RX11 281 RX1 yX1_pitch wsX1_pitch) := goodIn_app (goodIn_of _ (by decide +kernel)) ggX11_countHonest_X1_pitch
set_option maxRecDepth 20000 in
theorem ggX11_countHonest_X1_listen : GoodIn wsX11_countHonest wsX1_listen := goodIn_r _ [29, 8, 30, 31, 32, 33, 6, 34, 35, 36, 37, 38, 25, 23, 24, 39, 40, 41, 16, 42, 43, 44, 45, 46, 47, 48, 49, 50, 51, 52, 53, 54, 55, 56, 57, 58, 59, 60, 61, 62, 106, 107, 108, 109, 110, 111, 112, 113, 114, 115, 116, 117, 118, 119, 120, 121, 122, 123, 124, 125, 126, 127, 128] rfl (by decide +kernel)
set_option maxRecDepth 20000 in
theorem gX11_countHonest_X1_listen : GoodIn wsX11_countHonest (wsV RX11 291 RX1 yX1_listen wsX1_listen) := goodIn_app (goodIn_of _ (by decide +kernel)) ggX11_countHonest_X1_listen
set_option maxRecDepth 20000 in
theorem ggX11_countHonest_X1_countHonest : GoodIn wsX11_countHonest wsX1_countHonest := goodIn_r _ [66, 30, 67, 68, 69, 6, 70, 8, 71, 72, 73, 74, 23, 50, 51, 52, 16, 53, 54, 75, 76, 77, 78, 79, 80, 81, 82, 83, 84, 85, 86, 106, 107, 108, 109, 110, 111, 112, 113, 114, 115, 116, 117, 118, 119, 120, 121, 122, 123, 124, 125, 126, 127, 128] rfl (by decide +kernel)
set_option maxRecDepth 20000 in
theorem gX11_countHonest_X1_countHonest : GoodIn wsX11_countHonest (wsV RX11 312 RX1 yX1_countHonest wsX1_countHonest) := goodIn_app (goodIn_of _ (by decide +kernel)) ggX11_countHonest_X1_countHonest
theorem dX11_countHonest_0 : decode cX11_countHonest 0 = .ok (.aload_n 0, 1) := by decide +kernel
theorem dX11_countHonest_1 : decode cX11_countHonest 1 = .ok (.getfield 60, 3) := by decide +kernel
theorem dX11_countHonest_4 : decode cX11_countHonest 4 = .ok (.aload_n 0, 1) := by decide +kernel
theorem dX11_countHonest_5 : decode cX11_countHonest 5 = .ok (.getfield 38, 3) := by decide +kernel
theorem dX11_countHonest_8 : decode cX11_countHonest 8 = .ok (.invokevirtual 281, 3) := by decide +kernel
theorem dX11_countHonest_11 : decode cX11_countHonest 11 = .ok (.aload_n 0, 1) := by decide +kernel
theorem dX11_countHonest_12 : decode cX11_countHonest 12 = .ok (.getfield 60, 3) := by decide +kernel
theorem dX11_countHonest_15 : decode cX11_countHonest 15 = .ok (.iload_n 1, 1) := by decide +kernel
theorem dX11_countHonest_16 : decode cX11_countHonest 16 = .ok (.invokevirtual 291, 3) := by decide +kernel
theorem dX11_countHonest_19 : decode cX11_countHonest 19 = .ok (.aload_n 0, 1) := by decide +kernel
theorem dX11_countHonest_20 : decode cX11_countHonest 20 = .ok (.getfield 60, 3) := by decide +kernel
theorem dX11_countHonest_23 : decode cX11_countHonest 23 = .ok (.iload_n 1, 1) := by decide +kernel
theorem dX11_countHonest_24 : decode cX11_countHonest 24 = .ok (.invokevirtual 312, 3) := by decide +kernel
theorem dX11_countHonest_27 : decode cX11_countHonest 27 = .ok (.return_, 1) := by decide +kernel
set_option maxRecDepth 20000 in
theorem ggX11_mean_X9_hasMan : GoodIn wsX11_mean wsX9_hasMan := goodIn_r _ [10, 11, 140, 141, 142, 143, 144, 145, 146, 147, 148, 149, 150, 151, 152, 153] rfl (by decide +kernel)
set_option maxRecDepth 20000 in
theorem gX11_mean_X9_hasMan : GoodIn wsX11_mean (wsV RX11 174 RX9 yX9_hasMan wsX9_hasMan) := goodIn_app (goodIn_of _ (by decide +kernel)) ggX11_mean_X9_hasMan
set_option maxRecDepth 20000 in
theorem ggX11_mean_X1_pitch : GoodIn wsX11_mean wsX1_pitch := goodIn_r _ [16, 17, 18, 19, 20, 15, 21, 22, 23, 24, 9, 25, 26, 27, 28, 29, 30, 31, 32, 33, 154, 155, 156, 157, 158, 159, 160, 161, 162, 140, 141, 142, 143, 144, 145, 146, 147, 148, 149, 150, 151, 152, 153, 163, 164, 165, 166, 167, 168, 169] rfl (by decide +kernel)
set_option maxRecDepth 20000 in
theorem gX11_mean_X1_pitch : GoodIn wsX11_mean (wsV RX11 281 RX1 yX1_pitch wsX1_pitch) := goodIn_app (goodIn_of _ (by decide +kernel)) ggX11_mean_X1_pitch
set_option maxRecDepth 20000 in
theorem ggX11_mean_X1_listenToAll : GoodIn wsX11_mean wsX1_listenToAll := goodIn_r _ [37, 17, 38, 39, 40, 15, 41, 42, 43, 44, 45, 46, 47, 48, 49, 50, 33, 31, 32, 51, 52, 53, 9, 54, 55, 56, 57, 58, 59, 60, 61, 62, 63, 64, 65, 66, 67, 68, 69, 70, 71, 72, 73, 74, 154, 155, 156, 157, 158, 159, 160, 161, 162, 140, 141, 142, 143, 144, 145, 146, 147, 148, 149, 150, 151, 152, 153] rfl (by decide +kernel)
set_option maxRecDepth 20000 in
theorem gX11_mean_X1_listenToAll : GoodIn wsX11_mean (wsV RX11 315 RX1 yX1_listenToAll wsX1_listenToAll) := goodIn_app (goodIn_of _ (by decide +kernel)) ggX11_mean_X1_listenToAll
set_option maxRecDepth 20000 in
theorem ggX11_mean_X1_weighedShare : GoodIn wsX11_mean wsX1_weighedShare := goodIn_r _ [78, 17, 79, 80, 81, 15, 82, 42, 83, 84, 85, 86, 87, 88, 89, 90, 31, 62, 63, 64, 9, 65, 66, 91, 92, 93, 94, 95, 96, 97, 98, 99, 100, 101, 102, 103, 104, 105, 106, 107, 108, 109, 110, 154, 155, 156, 157, 158, 159, 160, 161, 162, 140, 141, 142, 143, 144, 145, 146, 147, 148, 149, 150, 151, 152, 153] rfl (by decide +kernel)
set_option maxRecDepth 20000 in
theorem gX11_mean_X1_weighedShare : GoodIn wsX11_mean (wsV RX11 318 RX1 yX1_weighedShare wsX1_weighedShare) := goodIn_app (goodIn_of _ (by decide +kernel)) ggX11_mean_X1_weighedShare
set_option maxRecDepth 20000 in
theorem ggX11_mean_X9_chances : GoodIn wsX11_mean wsX9_chances := goodIn_r _ [114, 115, 116, 140, 141, 142, 143, 144, 145, 146, 147, 148, 149, 150, 151, 152, 153] rfl (by decide +kernel)
set_option maxRecDepth 20000 in
theorem gX11_mean_X9_chances : GoodIn wsX11_mean (wsV RX11 241 RX9 yX9_chances wsX9_chances) := goodIn_app (goodIn_of _ (by decide +kernel)) ggX11_mean_X9_chances
set_option maxRecDepth 20000 in
theorem ggX11_mean_X11_greatestCommon : GoodIn wsX11_mean wsX11_greatestCommon := goodIn_r _ [120] rfl (by decide +kernel)
set_option maxRecDepth 20000 in
theorem gX11_mean_X11_greatestCommon : GoodIn wsX11_mean (va_wsS RX11 321 yX11_greatestCommon wsX11_greatestCommon) := goodIn_app (goodIn_of _ (by decide +kernel)) ggX11_mean_X11_greatestCommon
theorem dX11_mean_0 : decode cX11_mean 0 = .ok (.aload_n 0, 1) := by decide +kernel
theorem dX11_mean_1 : decode cX11_mean 1 = .ok (.getfield 19, 3) := by decide +kernel
theorem dX11_mean_4 : decode cX11_mean 4 = .ok (.iload_n 1, 1) := by decide +kernel
theorem dX11_mean_5 : decode cX11_mean 5 = .ok (.invokevirtual 174, 3) := by decide +kernel
theorem dX11_mean_8 : decode cX11_mean 8 = .ok (.ifCond .eq 22, 3) := by decide +kernel
theorem dX11_mean_11 : decode cX11_mean 11 = .ok (.aload_n 0, 1) := by decide +kernel
theorem dX11_mean_12 : decode cX11_mean 12 = .ok (.getfield 19, 3) := by decide +kernel
theorem dX11_mean_15 : decode cX11_mean 15 = .ok (.getfield 238, 3) := by decide +kernel
theorem dX11_mean_18 : decode cX11_mean 18 = .ok (.ifCond .eq 12, 3) := by decide +kernel
theorem dX11_mean_21 : decode cX11_mean 21 = .ok (.iload_n 2, 1) := by decide +kernel
theorem dX11_mean_22 : decode cX11_mean 22 = .ok (.ifCond .lt 8, 3) := by decide +kernel
theorem dX11_mean_25 : decode cX11_mean 25 = .ok (.iload_n 2, 1) := by decide +kernel
theorem dX11_mean_26 : decode cX11_mean 26 = .ok (.iconst 1, 1) := by decide +kernel
theorem dX11_mean_27 : decode cX11_mean 27 = .ok (.if_icmp .le 14, 3) := by decide +kernel
theorem dX11_mean_30 : decode cX11_mean 30 = .ok (.new 177, 3) := by decide +kernel
theorem dX11_mean_33 : decode cX11_mean 33 = .ok (.dup, 1) := by decide +kernel
theorem dX11_mean_34 : decode cX11_mean 34 = .ok (.ldc_w 313, 3) := by decide +kernel
theorem dX11_mean_37 : decode cX11_mean 37 = .ok (.invokespecial 181, 3) := by decide +kernel
theorem dX11_mean_40 : decode cX11_mean 40 = .ok (.athrow, 1) := by decide +kernel
theorem dX11_mean_41 : decode cX11_mean 41 = .ok (.aload_n 0, 1) := by decide +kernel
theorem dX11_mean_42 : decode cX11_mean 42 = .ok (.getfield 60, 3) := by decide +kernel
theorem dX11_mean_45 : decode cX11_mean 45 = .ok (.aload_n 0, 1) := by decide +kernel
theorem dX11_mean_46 : decode cX11_mean 46 = .ok (.getfield 38, 3) := by decide +kernel
theorem dX11_mean_49 : decode cX11_mean 49 = .ok (.invokevirtual 281, 3) := by decide +kernel
theorem dX11_mean_52 : decode cX11_mean 52 = .ok (.aload_n 0, 1) := by decide +kernel
theorem dX11_mean_53 : decode cX11_mean 53 = .ok (.getfield 60, 3) := by decide +kernel
theorem dX11_mean_56 : decode cX11_mean 56 = .ok (.invokevirtual 315, 3) := by decide +kernel
theorem dX11_mean_59 : decode cX11_mean 59 = .ok (.aload_n 0, 1) := by decide +kernel
theorem dX11_mean_60 : decode cX11_mean 60 = .ok (.getfield 60, 3) := by decide +kernel
theorem dX11_mean_63 : decode cX11_mean 63 = .ok (.iload_n 1, 1) := by decide +kernel
theorem dX11_mean_64 : decode cX11_mean 64 = .ok (.invokevirtual 318, 3) := by decide +kernel
theorem dX11_mean_67 : decode cX11_mean 67 = .ok (.istore_n 3, 1) := by decide +kernel
theorem dX11_mean_68 : decode cX11_mean 68 = .ok (.aload_n 0, 1) := by decide +kernel
theorem dX11_mean_69 : decode cX11_mean 69 = .ok (.getfield 19, 3) := by decide +kernel
theorem dX11_mean_72 : decode cX11_mean 72 = .ok (.invokevirtual 241, 3) := by decide +kernel
theorem dX11_mean_75 : decode cX11_mean 75 = .ok (.istore 4, 2) := by decide +kernel
theorem dX11_mean_77 : decode cX11_mean 77 = .ok (.iload_n 3, 1) := by decide +kernel
theorem dX11_mean_78 : decode cX11_mean 78 = .ok (.iload 4, 2) := by decide +kernel
theorem dX11_mean_80 : decode cX11_mean 80 = .ok (.invokestatic 321, 3) := by decide +kernel
theorem dX11_mean_83 : decode cX11_mean 83 = .ok (.istore 5, 2) := by decide +kernel
theorem dX11_mean_85 : decode cX11_mean 85 = .ok (.iload_n 2, 1) := by decide +kernel
theorem dX11_mean_86 : decode cX11_mean 86 = .ok (.ifCond .ne 7, 3) := by decide +kernel
theorem dX11_mean_89 : decode cX11_mean 89 = .ok (.iload_n 3, 1) := by decide +kernel
theorem dX11_mean_90 : decode cX11_mean 90 = .ok (.goto 5, 3) := by decide +kernel
theorem dX11_mean_93 : decode cX11_mean 93 = .ok (.iload 4, 2) := by decide +kernel
theorem dX11_mean_95 : decode cX11_mean 95 = .ok (.iload 5, 2) := by decide +kernel
theorem dX11_mean_97 : decode cX11_mean 97 = .ok (.idiv, 1) := by decide +kernel
theorem dX11_mean_98 : decode cX11_mean 98 = .ok (.ireturn, 1) := by decide +kernel
set_option maxRecDepth 20000 in
theorem ggX11_beside_X9_hasMan : GoodIn wsX11_beside wsX9_hasMan := goodIn_r _ [8, 9, 152, 153, 154, 155, 156, 157, 158, 159, 160, 161, 162, 163, 164, 165] rfl (by decide +kernel)
set_option maxRecDepth 20000 in
theorem gX11_beside_X9_hasMan : GoodIn wsX11_beside (wsV RX11 174 RX9 yX9_hasMan wsX9_hasMan) := goodIn_app (goodIn_of _ (by decide +kernel)) ggX11_beside_X9_hasMan
set_option maxRecDepth 20000 in
theorem ggX11_beside_X1_pitch : GoodIn wsX11_beside wsX1_pitch := goodIn_r _ [14, 15, 16, 17, 18, 13, 19, 20, 21, 22, 7, 23, 24, 25, 26, 27, 28, 29, 30, 31, 166, 167, 168, 169, 170, 171, 172, 173, 174, 152, 153, 154, 155, 156, 157, 158, 159, 160, 161, 162, 163, 164, 165, 175, 176, 177, 178, 179, 180, 181] rfl (by decide +kernel)
set_option maxRecDepth 20000 in
theorem gX11_beside_X1_pitch : GoodIn wsX11_beside (wsV RX11 281 RX1 yX1_pitch wsX1_pitch) := goodIn_app (goodIn_of _ (by decide +kernel)) ggX11_beside_X1_pitch
set_option maxRecDepth 20000 in
theorem ggX11_beside_X1_listenToAll : GoodIn wsX11_beside wsX1_listenToAll := goodIn_r _ [35, 15, 36, 37, 38, 13, 39, 40, 41, 42, 43, 44, 45, 46, 47, 48, 31, 29, 30, 49, 50, 51, 7, 52, 53, 54, 55, 56, 57, 58, 59, 60, 61, 62, 63, 64, 65, 66, 67, 68, 69, 70, 71, 72, 166, 167, 168, 169, 170, 171, 172, 173, 174, 152, 153, 154, 155, 156, 157, 158, 159, 160, 161, 162, 163, 164, 165] rfl (by decide +kernel)
set_option maxRecDepth 20000 in
theorem gX11_beside_X1_listenToAll : GoodIn wsX11_beside (wsV RX11 315 RX1 yX1_listenToAll wsX1_listenToAll) := goodIn_app (goodIn_of _ (by decide +kernel)) ggX11_beside_X1_listenToAll
set_option maxRecDepth 20000 in
theorem ggX11_beside_X1_putOnHill : GoodIn wsX11_beside wsX1_putOnHill := goodIn_r _ [19, 15, 20, 21, 22, 7, 23, 24, 25, 26, 27, 13, 28, 29, 30, 31, 166, 167, 168, 169, 170, 171, 172, 173, 174, 152, 153, 154, 155, 156, 157, 158, 159, 160, 161, 162, 163, 164, 165] rfl (by decide +kernel)
set_option maxRecDepth 20000 in
theorem gX11_beside_X1_putOnHill : GoodIn wsX11_beside (wsV RX11 324 RX1 yX1_putOnHill wsX1_putOnHill) := goodIn_app (goodIn_of _ (by decide +kernel)) ggX11_beside_X1_putOnHill
set_option maxRecDepth 20000 in
theorem ggX11_beside_X1_shareHeardAnew : GoodIn wsX11_beside wsX1_shareHeardAnew := goodIn_r _ [77, 78, 79, 80, 13, 81, 15, 40, 45, 46, 47, 48, 31, 29, 30, 49, 50, 51, 7, 52, 53, 54, 55, 56, 57, 58, 59, 60, 61, 62, 63, 64, 65, 66, 67, 68, 69, 70, 71, 72, 82, 83, 84, 85, 86, 87, 88, 89, 90, 91, 92, 93, 94, 95, 96, 97, 98, 99, 100, 101, 102, 103, 104, 105, 106, 107, 108, 109, 110, 111, 112, 113, 114, 115, 116, 117, 166, 167, 168, 169, 170, 171, 172, 173, 174, 152, 153, 154, 155, 156, 157, 158, 159, 160, 161, 162, 163, 164, 165] rfl (by decide +kernel)
set_option maxRecDepth 20000 in
theorem gX11_beside_X1_shareHeardAnew : GoodIn wsX11_beside (wsV RX11 328 RX1 yX1_shareHeardAnew wsX1_shareHeardAnew) := goodIn_app (goodIn_of _ (by decide +kernel)) ggX11_beside_X1_shareHeardAnew
set_option maxRecDepth 20000 in
theorem ggX11_beside_X11_tellBest : GoodIn wsX11_beside wsX11_tellBest := goodIn_r _ [122, 1, 123, 124, 125, 126, 7, 127, 128, 129, 130, 131, 121, 132, 133, 134, 135, 136, 137, 138, 139, 140, 141, 142, 143, 144, 145, 146, 147, 148, 149, 150, 151, 152, 153, 154, 155, 156, 157, 158, 159, 160, 161, 162, 163, 164, 165] rfl (by decide +kernel)
set_option maxRecDepth 20000 in
theorem gX11_beside_X11_tellBest : GoodIn wsX11_beside (wsV RX11 331 RX11 yX11_tellBest wsX11_tellBest) := goodIn_app (goodIn_of _ (by decide +kernel)) ggX11_beside_X11_tellBest
theorem dX11_beside_0 : decode cX11_beside 0 = .ok (.aload_n 0, 1) := by decide +kernel
theorem dX11_beside_1 : decode cX11_beside 1 = .ok (.getfield 19, 3) := by decide +kernel
theorem dX11_beside_4 : decode cX11_beside 4 = .ok (.iload_n 1, 1) := by decide +kernel
theorem dX11_beside_5 : decode cX11_beside 5 = .ok (.invokevirtual 174, 3) := by decide +kernel
theorem dX11_beside_8 : decode cX11_beside 8 = .ok (.ifCond .eq 13, 3) := by decide +kernel
theorem dX11_beside_11 : decode cX11_beside 11 = .ok (.aload_n 0, 1) := by decide +kernel
theorem dX11_beside_12 : decode cX11_beside 12 = .ok (.getfield 19, 3) := by decide +kernel
theorem dX11_beside_15 : decode cX11_beside 15 = .ok (.getfield 238, 3) := by decide +kernel
theorem dX11_beside_18 : decode cX11_beside 18 = .ok (.ifCond .ne 5, 3) := by decide +kernel
theorem dX11_beside_21 : decode cX11_beside 21 = .ok (.iconst (-1), 1) := by decide +kernel
theorem dX11_beside_22 : decode cX11_beside 22 = .ok (.ireturn, 1) := by decide +kernel
theorem dX11_beside_23 : decode cX11_beside 23 = .ok (.aload_n 0, 1) := by decide +kernel
theorem dX11_beside_24 : decode cX11_beside 24 = .ok (.getfield 60, 3) := by decide +kernel
theorem dX11_beside_27 : decode cX11_beside 27 = .ok (.aload_n 0, 1) := by decide +kernel
theorem dX11_beside_28 : decode cX11_beside 28 = .ok (.getfield 38, 3) := by decide +kernel
theorem dX11_beside_31 : decode cX11_beside 31 = .ok (.invokevirtual 281, 3) := by decide +kernel
theorem dX11_beside_34 : decode cX11_beside 34 = .ok (.aload_n 0, 1) := by decide +kernel
theorem dX11_beside_35 : decode cX11_beside 35 = .ok (.getfield 60, 3) := by decide +kernel
theorem dX11_beside_38 : decode cX11_beside 38 = .ok (.invokevirtual 315, 3) := by decide +kernel
theorem dX11_beside_41 : decode cX11_beside 41 = .ok (.iconst (-1), 1) := by decide +kernel
theorem dX11_beside_42 : decode cX11_beside 42 = .ok (.istore_n 2, 1) := by decide +kernel
theorem dX11_beside_43 : decode cX11_beside 43 = .ok (.iconst (-1), 1) := by decide +kernel
theorem dX11_beside_44 : decode cX11_beside 44 = .ok (.istore_n 3, 1) := by decide +kernel
theorem dX11_beside_45 : decode cX11_beside 45 = .ok (.iconst 0, 1) := by decide +kernel
theorem dX11_beside_46 : decode cX11_beside 46 = .ok (.istore 4, 2) := by decide +kernel
theorem dX11_beside_48 : decode cX11_beside 48 = .ok (.iload 4, 2) := by decide +kernel
theorem dX11_beside_50 : decode cX11_beside 50 = .ok (.aload_n 0, 1) := by decide +kernel
theorem dX11_beside_51 : decode cX11_beside 51 = .ok (.getfield 19, 3) := by decide +kernel
theorem dX11_beside_54 : decode cX11_beside 54 = .ok (.getfield 235, 3) := by decide +kernel
theorem dX11_beside_57 : decode cX11_beside 57 = .ok (.if_icmp .ge 41, 3) := by decide +kernel
theorem dX11_beside_60 : decode cX11_beside 60 = .ok (.aload_n 0, 1) := by decide +kernel
theorem dX11_beside_61 : decode cX11_beside 61 = .ok (.getfield 60, 3) := by decide +kernel
theorem dX11_beside_64 : decode cX11_beside 64 = .ok (.iload_n 1, 1) := by decide +kernel
theorem dX11_beside_65 : decode cX11_beside 65 = .ok (.iload 4, 2) := by decide +kernel
theorem dX11_beside_67 : decode cX11_beside 67 = .ok (.invokevirtual 324, 3) := by decide +kernel
theorem dX11_beside_70 : decode cX11_beside 70 = .ok (.aload_n 0, 1) := by decide +kernel
theorem dX11_beside_71 : decode cX11_beside 71 = .ok (.getfield 60, 3) := by decide +kernel
theorem dX11_beside_74 : decode cX11_beside 74 = .ok (.iload_n 1, 1) := by decide +kernel
theorem dX11_beside_75 : decode cX11_beside 75 = .ok (.invokevirtual 328, 3) := by decide +kernel
theorem dX11_beside_78 : decode cX11_beside 78 = .ok (.istore 5, 2) := by decide +kernel
theorem dX11_beside_80 : decode cX11_beside 80 = .ok (.iload 5, 2) := by decide +kernel
theorem dX11_beside_82 : decode cX11_beside 82 = .ok (.iload_n 3, 1) := by decide +kernel
theorem dX11_beside_83 : decode cX11_beside 83 = .ok (.if_icmp .le 9, 3) := by decide +kernel
theorem dX11_beside_86 : decode cX11_beside 86 = .ok (.iload 5, 2) := by decide +kernel
theorem dX11_beside_88 : decode cX11_beside 88 = .ok (.istore_n 3, 1) := by decide +kernel
theorem dX11_beside_89 : decode cX11_beside 89 = .ok (.iload 4, 2) := by decide +kernel
theorem dX11_beside_91 : decode cX11_beside 91 = .ok (.istore_n 2, 1) := by decide +kernel
theorem dX11_beside_92 : decode cX11_beside 92 = .ok (.iinc 4 1, 3) := by decide +kernel
theorem dX11_beside_95 : decode cX11_beside 95 = .ok (.goto (-47), 3) := by decide +kernel
theorem dX11_beside_98 : decode cX11_beside 98 = .ok (.aload_n 0, 1) := by decide +kernel
theorem dX11_beside_99 : decode cX11_beside 99 = .ok (.iload_n 3, 1) := by decide +kernel
theorem dX11_beside_100 : decode cX11_beside 100 = .ok (.invokevirtual 331, 3) := by decide +kernel
theorem dX11_beside_103 : decode cX11_beside 103 = .ok (.iload_n 2, 1) := by decide +kernel
theorem dX11_beside_104 : decode cX11_beside 104 = .ok (.ireturn, 1) := by decide +kernel
set_option maxRecDepth 20000 in
theorem ggX11_hut_X9_hasMan : GoodIn wsX11_hut wsX9_hasMan := goodIn_r _ [8, 9, 152, 153, 154, 155, 156, 157, 158, 159, 160, 161, 162, 163, 164, 165] rfl (by decide +kernel)
set_option maxRecDepth 20000 in
theorem gX11_hut_X9_hasMan : GoodIn wsX11_hut (wsV RX11 174 RX9 yX9_hasMan wsX9_hasMan) := goodIn_app (goodIn_of _ (by decide +kernel)) ggX11_hut_X9_hasMan
set_option maxRecDepth 20000 in
theorem ggX11_hut_X1_pitch : GoodIn wsX11_hut wsX1_pitch := goodIn_r _ [14, 15, 16, 17, 18, 13, 19, 20, 21, 22, 7, 23, 24, 25, 26, 27, 28, 29, 30, 31, 166, 167, 168, 169, 170, 171, 172, 173, 174, 152, 153, 154, 155, 156, 157, 158, 159, 160, 161, 162, 163, 164, 165, 175, 176, 177, 178, 179, 180, 181] rfl (by decide +kernel)
set_option maxRecDepth 20000 in
theorem gX11_hut_X1_pitch : GoodIn wsX11_hut (wsV RX11 281 RX1 yX1_pitch wsX1_pitch) := goodIn_app (goodIn_of _ (by decide +kernel)) ggX11_hut_X1_pitch
set_option maxRecDepth 20000 in
theorem ggX11_hut_X1_listenToAll : GoodIn wsX11_hut wsX1_listenToAll := goodIn_r _ [35, 15, 36, 37, 38, 13, 39, 40, 41, 42, 43, 44, 45, 46, 47, 48, 31, 29, 30, 49, 50, 51, 7, 52, 53, 54, 55, 56, 57, 58, 59, 60, 61, 62, 63, 64, 65, 66, 67, 68, 69, 70, 71, 72, 166, 167, 168, 169, 170, 171, 172, 173, 174, 152, 153, 154, 155, 156, 157, 158, 159, 160, 161, 162, 163, 164, 165] rfl (by decide +kernel)
set_option maxRecDepth 20000 in
theorem gX11_hut_X1_listenToAll : GoodIn wsX11_hut (wsV RX11 315 RX1 yX1_listenToAll wsX1_listenToAll) := goodIn_app (goodIn_of _ (by decide +kernel)) ggX11_hut_X1_listenToAll
set_option maxRecDepth 20000 in
theorem ggX11_hut_X1_put : GoodIn wsX11_hut wsX1_put := goodIn_r _ [28, 29, 30, 31, 166, 167, 168, 169, 170, 171, 172, 173, 174] rfl (by decide +kernel)
set_option maxRecDepth 20000 in
theorem gX11_hut_X1_put : GoodIn wsX11_hut (wsV RX11 334 RX1 yX1_put wsX1_put) := goodIn_app (goodIn_of _ (by decide +kernel)) ggX11_hut_X1_put
set_option maxRecDepth 20000 in
theorem ggX11_hut_X1_shareHeardAnew : GoodIn wsX11_hut wsX1_shareHeardAnew := goodIn_r _ [77, 78, 79, 80, 13, 81, 15, 40, 45, 46, 47, 48, 31, 29, 30, 49, 50, 51, 7, 52, 53, 54, 55, 56, 57, 58, 59, 60, 61, 62, 63, 64, 65, 66, 67, 68, 69, 70, 71, 72, 82, 83, 84, 85, 86, 87, 88, 89, 90, 91, 92, 93, 94, 95, 96, 97, 98, 99, 100, 101, 102, 103, 104, 105, 106, 107, 108, 109, 110, 111, 112, 113, 114, 115, 116, 117, 166, 167, 168, 169, 170, 171, 172, 173, 174, 152, 153, 154, 155, 156, 157, 158, 159, 160, 161, 162, 163, 164, 165] rfl (by decide +kernel)
set_option maxRecDepth 20000 in
theorem gX11_hut_X1_shareHeardAnew : GoodIn wsX11_hut (wsV RX11 328 RX1 yX1_shareHeardAnew wsX1_shareHeardAnew) := goodIn_app (goodIn_of _ (by decide +kernel)) ggX11_hut_X1_shareHeardAnew
set_option maxRecDepth 20000 in
theorem ggX11_hut_X11_tellBest : GoodIn wsX11_hut wsX11_tellBest := goodIn_r _ [122, 1, 123, 124, 125, 126, 7, 127, 128, 129, 130, 131, 121, 132, 133, 134, 135, 136, 137, 138, 139, 140, 141, 142, 143, 144, 145, 146, 147, 148, 149, 150, 151, 152, 153, 154, 155, 156, 157, 158, 159, 160, 161, 162, 163, 164, 165] rfl (by decide +kernel)
set_option maxRecDepth 20000 in
theorem gX11_hut_X11_tellBest : GoodIn wsX11_hut (wsV RX11 331 RX11 yX11_tellBest wsX11_tellBest) := goodIn_app (goodIn_of _ (by decide +kernel)) ggX11_hut_X11_tellBest
theorem dX11_hut_0 : decode cX11_hut 0 = .ok (.aload_n 0, 1) := by decide +kernel
theorem dX11_hut_1 : decode cX11_hut 1 = .ok (.getfield 19, 3) := by decide +kernel
theorem dX11_hut_4 : decode cX11_hut 4 = .ok (.iload_n 1, 1) := by decide +kernel
theorem dX11_hut_5 : decode cX11_hut 5 = .ok (.invokevirtual 174, 3) := by decide +kernel
theorem dX11_hut_8 : decode cX11_hut 8 = .ok (.ifCond .eq 13, 3) := by decide +kernel
theorem dX11_hut_11 : decode cX11_hut 11 = .ok (.aload_n 0, 1) := by decide +kernel
theorem dX11_hut_12 : decode cX11_hut 12 = .ok (.getfield 19, 3) := by decide +kernel
theorem dX11_hut_15 : decode cX11_hut 15 = .ok (.getfield 238, 3) := by decide +kernel
theorem dX11_hut_18 : decode cX11_hut 18 = .ok (.ifCond .ne 5, 3) := by decide +kernel
theorem dX11_hut_21 : decode cX11_hut 21 = .ok (.iconst (-1), 1) := by decide +kernel
theorem dX11_hut_22 : decode cX11_hut 22 = .ok (.ireturn, 1) := by decide +kernel
theorem dX11_hut_23 : decode cX11_hut 23 = .ok (.aload_n 0, 1) := by decide +kernel
theorem dX11_hut_24 : decode cX11_hut 24 = .ok (.getfield 60, 3) := by decide +kernel
theorem dX11_hut_27 : decode cX11_hut 27 = .ok (.aload_n 0, 1) := by decide +kernel
theorem dX11_hut_28 : decode cX11_hut 28 = .ok (.getfield 38, 3) := by decide +kernel
theorem dX11_hut_31 : decode cX11_hut 31 = .ok (.invokevirtual 281, 3) := by decide +kernel
theorem dX11_hut_34 : decode cX11_hut 34 = .ok (.aload_n 0, 1) := by decide +kernel
theorem dX11_hut_35 : decode cX11_hut 35 = .ok (.getfield 60, 3) := by decide +kernel
theorem dX11_hut_38 : decode cX11_hut 38 = .ok (.invokevirtual 315, 3) := by decide +kernel
theorem dX11_hut_41 : decode cX11_hut 41 = .ok (.iconst (-1), 1) := by decide +kernel
theorem dX11_hut_42 : decode cX11_hut 42 = .ok (.istore_n 2, 1) := by decide +kernel
theorem dX11_hut_43 : decode cX11_hut 43 = .ok (.iconst (-1), 1) := by decide +kernel
theorem dX11_hut_44 : decode cX11_hut 44 = .ok (.istore_n 3, 1) := by decide +kernel
theorem dX11_hut_45 : decode cX11_hut 45 = .ok (.iconst 0, 1) := by decide +kernel
theorem dX11_hut_46 : decode cX11_hut 46 = .ok (.istore 4, 2) := by decide +kernel
theorem dX11_hut_48 : decode cX11_hut 48 = .ok (.iload 4, 2) := by decide +kernel
theorem dX11_hut_50 : decode cX11_hut 50 = .ok (.bipush 20, 2) := by decide +kernel
theorem dX11_hut_52 : decode cX11_hut 52 = .ok (.if_icmp .gt 66, 3) := by decide +kernel
theorem dX11_hut_55 : decode cX11_hut 55 = .ok (.iconst 0, 1) := by decide +kernel
theorem dX11_hut_56 : decode cX11_hut 56 = .ok (.istore 5, 2) := by decide +kernel
theorem dX11_hut_58 : decode cX11_hut 58 = .ok (.iload 5, 2) := by decide +kernel
theorem dX11_hut_60 : decode cX11_hut 60 = .ok (.bipush 20, 2) := by decide +kernel
theorem dX11_hut_62 : decode cX11_hut 62 = .ok (.if_icmp .gt 50, 3) := by decide +kernel
theorem dX11_hut_65 : decode cX11_hut 65 = .ok (.aload_n 0, 1) := by decide +kernel
theorem dX11_hut_66 : decode cX11_hut 66 = .ok (.getfield 60, 3) := by decide +kernel
theorem dX11_hut_69 : decode cX11_hut 69 = .ok (.iload_n 1, 1) := by decide +kernel
theorem dX11_hut_70 : decode cX11_hut 70 = .ok (.iload 5, 2) := by decide +kernel
theorem dX11_hut_72 : decode cX11_hut 72 = .ok (.iload 4, 2) := by decide +kernel
theorem dX11_hut_74 : decode cX11_hut 74 = .ok (.iconst 0, 1) := by decide +kernel
theorem dX11_hut_75 : decode cX11_hut 75 = .ok (.invokevirtual 334, 3) := by decide +kernel
theorem dX11_hut_78 : decode cX11_hut 78 = .ok (.aload_n 0, 1) := by decide +kernel
theorem dX11_hut_79 : decode cX11_hut 79 = .ok (.getfield 60, 3) := by decide +kernel
theorem dX11_hut_82 : decode cX11_hut 82 = .ok (.iload_n 1, 1) := by decide +kernel
theorem dX11_hut_83 : decode cX11_hut 83 = .ok (.invokevirtual 328, 3) := by decide +kernel
theorem dX11_hut_86 : decode cX11_hut 86 = .ok (.istore 6, 2) := by decide +kernel
theorem dX11_hut_88 : decode cX11_hut 88 = .ok (.iload 6, 2) := by decide +kernel
theorem dX11_hut_90 : decode cX11_hut 90 = .ok (.iload_n 3, 1) := by decide +kernel
theorem dX11_hut_91 : decode cX11_hut 91 = .ok (.if_icmp .le 15, 3) := by decide +kernel
theorem dX11_hut_94 : decode cX11_hut 94 = .ok (.iload 6, 2) := by decide +kernel
theorem dX11_hut_96 : decode cX11_hut 96 = .ok (.istore_n 3, 1) := by decide +kernel
theorem dX11_hut_97 : decode cX11_hut 97 = .ok (.bipush 100, 2) := by decide +kernel
theorem dX11_hut_99 : decode cX11_hut 99 = .ok (.iload 4, 2) := by decide +kernel
theorem dX11_hut_101 : decode cX11_hut 101 = .ok (.imul, 1) := by decide +kernel
theorem dX11_hut_102 : decode cX11_hut 102 = .ok (.iload 5, 2) := by decide +kernel
theorem dX11_hut_104 : decode cX11_hut 104 = .ok (.iadd, 1) := by decide +kernel
theorem dX11_hut_105 : decode cX11_hut 105 = .ok (.istore_n 2, 1) := by decide +kernel
theorem dX11_hut_106 : decode cX11_hut 106 = .ok (.iinc 5 1, 3) := by decide +kernel
theorem dX11_hut_109 : decode cX11_hut 109 = .ok (.goto (-51), 3) := by decide +kernel
theorem dX11_hut_112 : decode cX11_hut 112 = .ok (.iinc 4 1, 3) := by decide +kernel
theorem dX11_hut_115 : decode cX11_hut 115 = .ok (.goto (-67), 3) := by decide +kernel
theorem dX11_hut_118 : decode cX11_hut 118 = .ok (.aload_n 0, 1) := by decide +kernel
theorem dX11_hut_119 : decode cX11_hut 119 = .ok (.iload_n 3, 1) := by decide +kernel
theorem dX11_hut_120 : decode cX11_hut 120 = .ok (.invokevirtual 331, 3) := by decide +kernel
theorem dX11_hut_123 : decode cX11_hut 123 = .ok (.iload_n 2, 1) := by decide +kernel
theorem dX11_hut_124 : decode cX11_hut 124 = .ok (.ireturn, 1) := by decide +kernel
theorem dX11_better_0 : decode cX11_better 0 = .ok (.aload_n 0, 1) := by decide +kernel
theorem dX11_better_1 : decode cX11_better 1 = .ok (.getfield 108, 3) := by decide +kernel
theorem dX11_better_4 : decode cX11_better 4 = .ok (.iconst 1, 1) := by decide +kernel
theorem dX11_better_5 : decode cX11_better 5 = .ok (.iaload, 1) := by decide +kernel
theorem dX11_better_6 : decode cX11_better 6 = .ok (.ifCond .eq 12, 3) := by decide +kernel
theorem dX11_better_9 : decode cX11_better 9 = .ok (.iload_n 1, 1) := by decide +kernel
theorem dX11_better_10 : decode cX11_better 10 = .ok (.ifCond .lt 8, 3) := by decide +kernel
theorem dX11_better_13 : decode cX11_better 13 = .ok (.iload_n 1, 1) := by decide +kernel
theorem dX11_better_14 : decode cX11_better 14 = .ok (.iconst 1, 1) := by decide +kernel
theorem dX11_better_15 : decode cX11_better 15 = .ok (.if_icmp .le 14, 3) := by decide +kernel
theorem dX11_better_18 : decode cX11_better 18 = .ok (.new 177, 3) := by decide +kernel
theorem dX11_better_21 : decode cX11_better 21 = .ok (.dup, 1) := by decide +kernel
theorem dX11_better_22 : decode cX11_better 22 = .ok (.ldc_w 338, 3) := by decide +kernel
theorem dX11_better_25 : decode cX11_better 25 = .ok (.invokespecial 181, 3) := by decide +kernel
theorem dX11_better_28 : decode cX11_better 28 = .ok (.athrow, 1) := by decide +kernel
theorem dX11_better_29 : decode cX11_better 29 = .ok (.aload_n 0, 1) := by decide +kernel
theorem dX11_better_30 : decode cX11_better 30 = .ok (.getfield 108, 3) := by decide +kernel
theorem dX11_better_33 : decode cX11_better 33 = .ok (.iload_n 1, 1) := by decide +kernel
theorem dX11_better_34 : decode cX11_better 34 = .ok (.iaload, 1) := by decide +kernel
theorem dX11_better_35 : decode cX11_better 35 = .ok (.ireturn, 1) := by decide +kernel
set_option maxRecDepth 20000 in
theorem ggX11_tellBest_X9_chances : GoodIn wsX11_tellBest wsX9_chances := goodIn_r _ [7, 8, 9, 33, 34, 35, 36, 37, 38, 39, 40, 41, 42, 43, 44, 45, 46] rfl (by decide +kernel)
set_option maxRecDepth 20000 in
theorem gX11_tellBest_X9_chances : GoodIn wsX11_tellBest (wsV RX11 241 RX9 yX9_chances wsX9_chances) := goodIn_app (goodIn_of _ (by decide +kernel)) ggX11_tellBest_X9_chances
set_option maxRecDepth 20000 in
theorem ggX11_tellBest_X11_greatestCommon : GoodIn wsX11_tellBest wsX11_greatestCommon := goodIn_r _ [13] rfl (by decide +kernel)
set_option maxRecDepth 20000 in
theorem gX11_tellBest_X11_greatestCommon : GoodIn wsX11_tellBest (va_wsS RX11 321 yX11_greatestCommon wsX11_greatestCommon) := goodIn_app (goodIn_of _ (by decide +kernel)) ggX11_tellBest_X11_greatestCommon
theorem dX11_tellBest_0 : decode cX11_tellBest 0 = .ok (.aload_n 0, 1) := by decide +kernel
theorem dX11_tellBest_1 : decode cX11_tellBest 1 = .ok (.getfield 19, 3) := by decide +kernel
theorem dX11_tellBest_4 : decode cX11_tellBest 4 = .ok (.invokevirtual 241, 3) := by decide +kernel
theorem dX11_tellBest_7 : decode cX11_tellBest 7 = .ok (.istore_n 2, 1) := by decide +kernel
theorem dX11_tellBest_8 : decode cX11_tellBest 8 = .ok (.iload_n 1, 1) := by decide +kernel
theorem dX11_tellBest_9 : decode cX11_tellBest 9 = .ok (.iload_n 2, 1) := by decide +kernel
theorem dX11_tellBest_10 : decode cX11_tellBest 10 = .ok (.invokestatic 321, 3) := by decide +kernel
theorem dX11_tellBest_13 : decode cX11_tellBest 13 = .ok (.istore_n 3, 1) := by decide +kernel
theorem dX11_tellBest_14 : decode cX11_tellBest 14 = .ok (.aload_n 0, 1) := by decide +kernel
theorem dX11_tellBest_15 : decode cX11_tellBest 15 = .ok (.getfield 108, 3) := by decide +kernel
theorem dX11_tellBest_18 : decode cX11_tellBest 18 = .ok (.iconst 0, 1) := by decide +kernel
theorem dX11_tellBest_19 : decode cX11_tellBest 19 = .ok (.iload_n 1, 1) := by decide +kernel
theorem dX11_tellBest_20 : decode cX11_tellBest 20 = .ok (.iload_n 3, 1) := by decide +kernel
theorem dX11_tellBest_21 : decode cX11_tellBest 21 = .ok (.idiv, 1) := by decide +kernel
theorem dX11_tellBest_22 : decode cX11_tellBest 22 = .ok (.iastore, 1) := by decide +kernel
theorem dX11_tellBest_23 : decode cX11_tellBest 23 = .ok (.aload_n 0, 1) := by decide +kernel
theorem dX11_tellBest_24 : decode cX11_tellBest 24 = .ok (.getfield 108, 3) := by decide +kernel
theorem dX11_tellBest_27 : decode cX11_tellBest 27 = .ok (.iconst 1, 1) := by decide +kernel
theorem dX11_tellBest_28 : decode cX11_tellBest 28 = .ok (.iload_n 2, 1) := by decide +kernel
theorem dX11_tellBest_29 : decode cX11_tellBest 29 = .ok (.iload_n 3, 1) := by decide +kernel
theorem dX11_tellBest_30 : decode cX11_tellBest 30 = .ok (.idiv, 1) := by decide +kernel
theorem dX11_tellBest_31 : decode cX11_tellBest 31 = .ok (.iastore, 1) := by decide +kernel
theorem dX11_tellBest_32 : decode cX11_tellBest 32 = .ok (.return_, 1) := by decide +kernel
theorem dX11_greatestCommon_0 : decode cX11_greatestCommon 0 = .ok (.iload_n 0, 1) := by decide +kernel
theorem dX11_greatestCommon_1 : decode cX11_greatestCommon 1 = .ok (.istore_n 2, 1) := by decide +kernel
theorem dX11_greatestCommon_2 : decode cX11_greatestCommon 2 = .ok (.iload_n 1, 1) := by decide +kernel
theorem dX11_greatestCommon_3 : decode cX11_greatestCommon 3 = .ok (.istore_n 3, 1) := by decide +kernel
theorem dX11_greatestCommon_4 : decode cX11_greatestCommon 4 = .ok (.iconst 0, 1) := by decide +kernel
theorem dX11_greatestCommon_5 : decode cX11_greatestCommon 5 = .ok (.istore 4, 2) := by decide +kernel
theorem dX11_greatestCommon_7 : decode cX11_greatestCommon 7 = .ok (.iload 4, 2) := by decide +kernel
theorem dX11_greatestCommon_9 : decode cX11_greatestCommon 9 = .ok (.bipush 64, 2) := by decide +kernel
theorem dX11_greatestCommon_11 : decode cX11_greatestCommon 11 = .ok (.if_icmp .ge 23, 3) := by decide +kernel
theorem dX11_greatestCommon_14 : decode cX11_greatestCommon 14 = .ok (.iload_n 3, 1) := by decide +kernel
theorem dX11_greatestCommon_15 : decode cX11_greatestCommon 15 = .ok (.ifCond .le 19, 3) := by decide +kernel
theorem dX11_greatestCommon_18 : decode cX11_greatestCommon 18 = .ok (.iload_n 2, 1) := by decide +kernel
theorem dX11_greatestCommon_19 : decode cX11_greatestCommon 19 = .ok (.iload_n 3, 1) := by decide +kernel
theorem dX11_greatestCommon_20 : decode cX11_greatestCommon 20 = .ok (.irem, 1) := by decide +kernel
theorem dX11_greatestCommon_21 : decode cX11_greatestCommon 21 = .ok (.istore 5, 2) := by decide +kernel
theorem dX11_greatestCommon_23 : decode cX11_greatestCommon 23 = .ok (.iload_n 3, 1) := by decide +kernel
theorem dX11_greatestCommon_24 : decode cX11_greatestCommon 24 = .ok (.istore_n 2, 1) := by decide +kernel
theorem dX11_greatestCommon_25 : decode cX11_greatestCommon 25 = .ok (.iload 5, 2) := by decide +kernel
theorem dX11_greatestCommon_27 : decode cX11_greatestCommon 27 = .ok (.istore_n 3, 1) := by decide +kernel
theorem dX11_greatestCommon_28 : decode cX11_greatestCommon 28 = .ok (.iinc 4 1, 3) := by decide +kernel
theorem dX11_greatestCommon_31 : decode cX11_greatestCommon 31 = .ok (.goto (-24), 3) := by decide +kernel
theorem dX11_greatestCommon_34 : decode cX11_greatestCommon 34 = .ok (.iload_n 2, 1) := by decide +kernel
theorem dX11_greatestCommon_35 : decode cX11_greatestCommon 35 = .ok (.ifCond .le 7, 3) := by decide +kernel
theorem dX11_greatestCommon_38 : decode cX11_greatestCommon 38 = .ok (.iload_n 2, 1) := by decide +kernel
theorem dX11_greatestCommon_39 : decode cX11_greatestCommon 39 = .ok (.goto 4, 3) := by decide +kernel
theorem dX11_greatestCommon_42 : decode cX11_greatestCommon 42 = .ok (.iconst 1, 1) := by decide +kernel
theorem dX11_greatestCommon_43 : decode cX11_greatestCommon 43 = .ok (.ireturn, 1) := by decide +kernel
set_option maxRecDepth 20000 in
theorem ggX11_whence_X8_byteAt : GoodIn wsX11_whence wsX8_byteAt := goodIn_r _ [9, 10, 101, 102, 103, 104, 105, 106, 107, 108, 109, 110, 111, 112, 113, 114, 115] rfl (by decide +kernel)
set_option maxRecDepth 20000 in
theorem gX11_whence_X8_byteAt : GoodIn wsX11_whence (wsV RX11 340 RX8 yX8_byteAt wsX8_byteAt) := goodIn_app (goodIn_of _ (by decide +kernel)) ggX11_whence_X8_byteAt
set_option maxRecDepth 20000 in
theorem ggX11_whence_X9_hasMan : GoodIn wsX11_whence wsX9_hasMan := goodIn_r _ [15, 16, 116, 117, 118, 119, 120, 121, 122, 123, 124, 125, 126, 127, 128, 129] rfl (by decide +kernel)
set_option maxRecDepth 20000 in
theorem gX11_whence_X9_hasMan : GoodIn wsX11_whence (wsV RX11 174 RX9 yX9_hasMan wsX9_hasMan) := goodIn_app (goodIn_of _ (by decide +kernel)) ggX11_whence_X9_hasMan
set_option maxRecDepth 20000 in
theorem ggX11_whence_X1_pitch : GoodIn wsX11_whence wsX1_pitch := goodIn_r _ [21, 22, 23, 24, 25, 20, 26, 27, 28, 29, 14, 30, 31, 32, 33, 34, 35, 36, 37, 38, 130, 131, 132, 133, 134, 135, 136, 137, 138, 116, 117, 118, 119, 120, 121, 122, 123, 124, 125, 126, 127, 128, 129, 139, 140, 141, 142, 143, 144, 145] rfl (by decide +kernel)
set_option maxRecDepth 20000 in
theorem gX11_whence_X1_pitch : GoodIn wsX11_whence (wsV RX11 281 RX1 yX1_pitch wsX1_pitch) := goodIn_app (goodIn_of _ (by decide +kernel)) ggX11_whence_X1_pitch
set_option maxRecDepth 20000 in
theorem ggX11_whence_X11_isTold : GoodIn wsX11_whence wsX11_isTold := goodIn_r _ [43, 2, 1, 3, 5, 6, 7, 8, 9, 10, 44, 45, 46, 14, 47, 48, 49, 50, 51, 52, 53, 54, 55, 56, 20, 57, 22, 58, 59, 60, 61, 38, 36, 37, 62, 63, 64, 65, 66, 67, 68, 69, 70, 71, 72, 73, 74, 75, 76, 77, 78, 79, 80, 81, 82, 83, 84, 85, 86, 87, 88, 89, 90, 91, 92, 93, 94, 95, 96, 97, 98, 99, 100, 101, 102, 103, 104, 105, 106, 107, 108, 109, 110, 111, 112, 113, 114, 115, 116, 117, 118, 119, 120, 121, 122, 123, 124, 125, 126, 127, 128, 129, 130, 131, 132, 133, 134, 135, 136, 137, 138] rfl (by decide +kernel)
set_option maxRecDepth 20000 in
theorem gX11_whence_X11_isTold : GoodIn wsX11_whence (wsV RX11 343 RX11 yX11_isTold wsX11_isTold) := goodIn_app (goodIn_of _ (by decide +kernel)) ggX11_whence_X11_isTold
theorem dX11_whence_0 : decode cX11_whence 0 = .ok (.aload_n 0, 1) := by decide +kernel
theorem dX11_whence_1 : decode cX11_whence 1 = .ok (.getfield 10, 3) := by decide +kernel
theorem dX11_whence_4 : decode cX11_whence 4 = .ok (.getfield 115, 3) := by decide +kernel
theorem dX11_whence_7 : decode cX11_whence 7 = .ok (.istore_n 1, 1) := by decide +kernel
theorem dX11_whence_8 : decode cX11_whence 8 = .ok (.aload_n 0, 1) := by decide +kernel
theorem dX11_whence_9 : decode cX11_whence 9 = .ok (.getfield 10, 3) := by decide +kernel
theorem dX11_whence_12 : decode cX11_whence 12 = .ok (.iconst 0, 1) := by decide +kernel
theorem dX11_whence_13 : decode cX11_whence 13 = .ok (.putfield 115, 3) := by decide +kernel
theorem dX11_whence_16 : decode cX11_whence 16 = .ok (.iload_n 1, 1) := by decide +kernel
theorem dX11_whence_17 : decode cX11_whence 17 = .ok (.iconst 2, 1) := by decide +kernel
theorem dX11_whence_18 : decode cX11_whence 18 = .ok (.if_icmp .lt 15, 3) := by decide +kernel
theorem dX11_whence_21 : decode cX11_whence 21 = .ok (.iload_n 1, 1) := by decide +kernel
theorem dX11_whence_22 : decode cX11_whence 22 = .ok (.bipush 40, 2) := by decide +kernel
theorem dX11_whence_24 : decode cX11_whence 24 = .ok (.if_icmp .gt 9, 3) := by decide +kernel
theorem dX11_whence_27 : decode cX11_whence 27 = .ok (.iload_n 1, 1) := by decide +kernel
theorem dX11_whence_28 : decode cX11_whence 28 = .ok (.iconst 2, 1) := by decide +kernel
theorem dX11_whence_29 : decode cX11_whence 29 = .ok (.irem, 1) := by decide +kernel
theorem dX11_whence_30 : decode cX11_whence 30 = .ok (.ifCond .eq 5, 3) := by decide +kernel
theorem dX11_whence_33 : decode cX11_whence 33 = .ok (.iconst (-1), 1) := by decide +kernel
theorem dX11_whence_34 : decode cX11_whence 34 = .ok (.ireturn, 1) := by decide +kernel
theorem dX11_whence_35 : decode cX11_whence 35 = .ok (.iconst 0, 1) := by decide +kernel
theorem dX11_whence_36 : decode cX11_whence 36 = .ok (.istore_n 2, 1) := by decide +kernel
theorem dX11_whence_37 : decode cX11_whence 37 = .ok (.iload_n 2, 1) := by decide +kernel
theorem dX11_whence_38 : decode cX11_whence 38 = .ok (.iconst 1, 1) := by decide +kernel
theorem dX11_whence_39 : decode cX11_whence 39 = .ok (.iadd, 1) := by decide +kernel
theorem dX11_whence_40 : decode cX11_whence 40 = .ok (.iload_n 1, 1) := by decide +kernel
theorem dX11_whence_41 : decode cX11_whence 41 = .ok (.if_icmp .ge 44, 3) := by decide +kernel
theorem dX11_whence_44 : decode cX11_whence 44 = .ok (.aload_n 0, 1) := by decide +kernel
theorem dX11_whence_45 : decode cX11_whence 45 = .ok (.getfield 19, 3) := by decide +kernel
theorem dX11_whence_48 : decode cX11_whence 48 = .ok (.aload_n 0, 1) := by decide +kernel
theorem dX11_whence_49 : decode cX11_whence 49 = .ok (.getfield 10, 3) := by decide +kernel
theorem dX11_whence_52 : decode cX11_whence 52 = .ok (.iload_n 2, 1) := by decide +kernel
theorem dX11_whence_53 : decode cX11_whence 53 = .ok (.invokevirtual 340, 3) := by decide +kernel
theorem dX11_whence_56 : decode cX11_whence 56 = .ok (.invokevirtual 174, 3) := by decide +kernel
theorem dX11_whence_59 : decode cX11_whence 59 = .ok (.ifCond .eq 18, 3) := by decide +kernel
theorem dX11_whence_62 : decode cX11_whence 62 = .ok (.aload_n 0, 1) := by decide +kernel
theorem dX11_whence_63 : decode cX11_whence 63 = .ok (.getfield 10, 3) := by decide +kernel
theorem dX11_whence_66 : decode cX11_whence 66 = .ok (.iload_n 2, 1) := by decide +kernel
theorem dX11_whence_67 : decode cX11_whence 67 = .ok (.iconst 1, 1) := by decide +kernel
theorem dX11_whence_68 : decode cX11_whence 68 = .ok (.iadd, 1) := by decide +kernel
theorem dX11_whence_69 : decode cX11_whence 69 = .ok (.invokevirtual 340, 3) := by decide +kernel
theorem dX11_whence_72 : decode cX11_whence 72 = .ok (.bipush 99, 2) := by decide +kernel
theorem dX11_whence_74 : decode cX11_whence 74 = .ok (.if_icmp .le 5, 3) := by decide +kernel
theorem dX11_whence_77 : decode cX11_whence 77 = .ok (.iconst (-1), 1) := by decide +kernel
theorem dX11_whence_78 : decode cX11_whence 78 = .ok (.ireturn, 1) := by decide +kernel
theorem dX11_whence_79 : decode cX11_whence 79 = .ok (.iinc 2 2, 3) := by decide +kernel
theorem dX11_whence_82 : decode cX11_whence 82 = .ok (.goto (-45), 3) := by decide +kernel
theorem dX11_whence_85 : decode cX11_whence 85 = .ok (.aload_n 0, 1) := by decide +kernel
theorem dX11_whence_86 : decode cX11_whence 86 = .ok (.getfield 60, 3) := by decide +kernel
theorem dX11_whence_89 : decode cX11_whence 89 = .ok (.aload_n 0, 1) := by decide +kernel
theorem dX11_whence_90 : decode cX11_whence 90 = .ok (.getfield 38, 3) := by decide +kernel
theorem dX11_whence_93 : decode cX11_whence 93 = .ok (.invokevirtual 281, 3) := by decide +kernel
theorem dX11_whence_96 : decode cX11_whence 96 = .ok (.iconst 0, 1) := by decide +kernel
theorem dX11_whence_97 : decode cX11_whence 97 = .ok (.istore_n 2, 1) := by decide +kernel
theorem dX11_whence_98 : decode cX11_whence 98 = .ok (.iconst 0, 1) := by decide +kernel
theorem dX11_whence_99 : decode cX11_whence 99 = .ok (.istore_n 3, 1) := by decide +kernel
theorem dX11_whence_100 : decode cX11_whence 100 = .ok (.iload_n 3, 1) := by decide +kernel
theorem dX11_whence_101 : decode cX11_whence 101 = .ok (.aload_n 0, 1) := by decide +kernel
theorem dX11_whence_102 : decode cX11_whence 102 = .ok (.getfield 19, 3) := by decide +kernel
theorem dX11_whence_105 : decode cX11_whence 105 = .ok (.getfield 238, 3) := by decide +kernel
theorem dX11_whence_108 : decode cX11_whence 108 = .ok (.if_icmp .ge 24, 3) := by decide +kernel
theorem dX11_whence_111 : decode cX11_whence 111 = .ok (.aload_n 0, 1) := by decide +kernel
theorem dX11_whence_112 : decode cX11_whence 112 = .ok (.iload_n 3, 1) := by decide +kernel
theorem dX11_whence_113 : decode cX11_whence 113 = .ok (.iload_n 1, 1) := by decide +kernel
theorem dX11_whence_114 : decode cX11_whence 114 = .ok (.invokevirtual 343, 3) := by decide +kernel
theorem dX11_whence_117 : decode cX11_whence 117 = .ok (.ifCond .eq 9, 3) := by decide +kernel
theorem dX11_whence_120 : decode cX11_whence 120 = .ok (.iload_n 2, 1) := by decide +kernel
theorem dX11_whence_121 : decode cX11_whence 121 = .ok (.iconst 1, 1) := by decide +kernel
theorem dX11_whence_122 : decode cX11_whence 122 = .ok (.iload_n 3, 1) := by decide +kernel
theorem dX11_whence_123 : decode cX11_whence 123 = .ok (.ishl, 1) := by decide +kernel
theorem dX11_whence_124 : decode cX11_whence 124 = .ok (.ior, 1) := by decide +kernel
theorem dX11_whence_125 : decode cX11_whence 125 = .ok (.istore_n 2, 1) := by decide +kernel
theorem dX11_whence_126 : decode cX11_whence 126 = .ok (.iinc 3 1, 3) := by decide +kernel
theorem dX11_whence_129 : decode cX11_whence 129 = .ok (.goto (-29), 3) := by decide +kernel
theorem dX11_whence_132 : decode cX11_whence 132 = .ok (.iload_n 2, 1) := by decide +kernel
theorem dX11_whence_133 : decode cX11_whence 133 = .ok (.ireturn, 1) := by decide +kernel
set_option maxRecDepth 20000 in
theorem ggX11_isTold_X8_byteAt : GoodIn wsX11_isTold wsX8_byteAt := goodIn_r _ [8, 9, 73, 74, 75, 76, 77, 78, 79, 80, 81, 82, 83, 84, 85, 86, 87] rfl (by decide +kernel)
set_option maxRecDepth 20000 in
theorem gX11_isTold_X8_byteAt : GoodIn wsX11_isTold (wsV RX11 340 RX8 yX8_byteAt wsX8_byteAt) := goodIn_app (goodIn_of _ (by decide +kernel)) ggX11_isTold_X8_byteAt
set_option maxRecDepth 20000 in
theorem ggX11_isTold_X9_callIn : GoodIn wsX11_isTold wsX9_callIn := goodIn_r _ [14, 15, 16, 17, 18, 13, 19, 20, 88, 89, 90, 91, 92, 93, 94, 95, 96, 97, 98, 99, 100, 101] rfl (by decide +kernel)
set_option maxRecDepth 20000 in
theorem gX11_isTold_X9_callIn : GoodIn wsX11_isTold (wsV RX11 346 RX9 yX9_callIn wsX9_callIn) := goodIn_app (goodIn_of _ (by decide +kernel)) ggX11_isTold_X9_callIn
set_option maxRecDepth 20000 in
theorem ggX11_isTold_X1_hearers : GoodIn wsX11_isTold wsX1_hearers := goodIn_r _ [25, 26, 27, 28, 29, 24, 30, 31, 32, 33, 34, 17, 18, 13, 19, 20, 35, 36, 37, 38, 39, 40, 41, 42, 43, 44, 45, 46, 47, 48, 49, 50, 51, 52, 53, 102, 103, 104, 105, 106, 107, 108, 109, 110, 88, 89, 90, 91, 92, 93, 94, 95, 96, 97, 98, 99, 100, 101] rfl (by decide +kernel)
set_option maxRecDepth 20000 in
theorem gX11_isTold_X1_hearers : GoodIn wsX11_isTold (wsV RX11 288 RX1 yX1_hearers wsX1_hearers) := goodIn_app (goodIn_of _ (by decide +kernel)) ggX11_isTold_X1_hearers
theorem dX11_isTold_0 : decode cX11_isTold 0 = .ok (.iconst 0, 1) := by decide +kernel
theorem dX11_isTold_1 : decode cX11_isTold 1 = .ok (.istore_n 3, 1) := by decide +kernel
theorem dX11_isTold_2 : decode cX11_isTold 2 = .ok (.iload_n 3, 1) := by decide +kernel
theorem dX11_isTold_3 : decode cX11_isTold 3 = .ok (.iconst 1, 1) := by decide +kernel
theorem dX11_isTold_4 : decode cX11_isTold 4 = .ok (.iadd, 1) := by decide +kernel
theorem dX11_isTold_5 : decode cX11_isTold 5 = .ok (.iload_n 2, 1) := by decide +kernel
theorem dX11_isTold_6 : decode cX11_isTold 6 = .ok (.if_icmp .ge 61, 3) := by decide +kernel
theorem dX11_isTold_9 : decode cX11_isTold 9 = .ok (.aload_n 0, 1) := by decide +kernel
theorem dX11_isTold_10 : decode cX11_isTold 10 = .ok (.getfield 19, 3) := by decide +kernel
theorem dX11_isTold_13 : decode cX11_isTold 13 = .ok (.iload_n 1, 1) := by decide +kernel
theorem dX11_isTold_14 : decode cX11_isTold 14 = .ok (.aload_n 0, 1) := by decide +kernel
theorem dX11_isTold_15 : decode cX11_isTold 15 = .ok (.getfield 10, 3) := by decide +kernel
theorem dX11_isTold_18 : decode cX11_isTold 18 = .ok (.iload_n 3, 1) := by decide +kernel
theorem dX11_isTold_19 : decode cX11_isTold 19 = .ok (.iconst 1, 1) := by decide +kernel
theorem dX11_isTold_20 : decode cX11_isTold 20 = .ok (.iadd, 1) := by decide +kernel
theorem dX11_isTold_21 : decode cX11_isTold 21 = .ok (.invokevirtual 340, 3) := by decide +kernel
theorem dX11_isTold_24 : decode cX11_isTold 24 = .ok (.invokevirtual 346, 3) := by decide +kernel
theorem dX11_isTold_27 : decode cX11_isTold 27 = .ok (.istore 4, 2) := by decide +kernel
theorem dX11_isTold_29 : decode cX11_isTold 29 = .ok (.iload 4, 2) := by decide +kernel
theorem dX11_isTold_31 : decode cX11_isTold 31 = .ok (.iconst (-1), 1) := by decide +kernel
theorem dX11_isTold_32 : decode cX11_isTold 32 = .ok (.if_icmp .eq 27, 3) := by decide +kernel
theorem dX11_isTold_35 : decode cX11_isTold 35 = .ok (.aload_n 0, 1) := by decide +kernel
theorem dX11_isTold_36 : decode cX11_isTold 36 = .ok (.getfield 60, 3) := by decide +kernel
theorem dX11_isTold_39 : decode cX11_isTold 39 = .ok (.iload_n 1, 1) := by decide +kernel
theorem dX11_isTold_40 : decode cX11_isTold 40 = .ok (.iload 4, 2) := by decide +kernel
theorem dX11_isTold_42 : decode cX11_isTold 42 = .ok (.invokevirtual 288, 3) := by decide +kernel
theorem dX11_isTold_45 : decode cX11_isTold 45 = .ok (.aload_n 0, 1) := by decide +kernel
theorem dX11_isTold_46 : decode cX11_isTold 46 = .ok (.getfield 10, 3) := by decide +kernel
theorem dX11_isTold_49 : decode cX11_isTold 49 = .ok (.iload_n 3, 1) := by decide +kernel
theorem dX11_isTold_50 : decode cX11_isTold 50 = .ok (.invokevirtual 340, 3) := by decide +kernel
theorem dX11_isTold_53 : decode cX11_isTold 53 = .ok (.ishr, 1) := by decide +kernel
theorem dX11_isTold_54 : decode cX11_isTold 54 = .ok (.iconst 1, 1) := by decide +kernel
theorem dX11_isTold_55 : decode cX11_isTold 55 = .ok (.iand, 1) := by decide +kernel
theorem dX11_isTold_56 : decode cX11_isTold 56 = .ok (.ifCond .ne 5, 3) := by decide +kernel
theorem dX11_isTold_59 : decode cX11_isTold 59 = .ok (.iconst 0, 1) := by decide +kernel
theorem dX11_isTold_60 : decode cX11_isTold 60 = .ok (.ireturn, 1) := by decide +kernel
theorem dX11_isTold_61 : decode cX11_isTold 61 = .ok (.iinc 3 2, 3) := by decide +kernel
theorem dX11_isTold_64 : decode cX11_isTold 64 = .ok (.goto (-62), 3) := by decide +kernel
theorem dX11_isTold_67 : decode cX11_isTold 67 = .ok (.iconst 1, 1) := by decide +kernel
theorem dX11_isTold_68 : decode cX11_isTold 68 = .ok (.ireturn, 1) := by decide +kernel
set_option maxRecDepth 20000 in
theorem ggX11_enough_X9_hasFlight : GoodIn wsX11_enough wsX9_hasFlight := goodIn_r _ [7, 8, 125, 126, 127, 128, 129, 130, 131, 132, 133, 134, 135, 136, 137, 138] rfl (by decide +kernel)
set_option maxRecDepth 20000 in
theorem gX11_enough_X9_hasFlight : GoodIn wsX11_enough (wsV RX11 200 RX9 yX9_hasFlight wsX9_hasFlight) := goodIn_app (goodIn_of _ (by decide +kernel)) ggX11_enough_X9_hasFlight
set_option maxRecDepth 20000 in
theorem ggX11_enough_X11_countHonest : GoodIn wsX11_enough wsX11_countHonest := goodIn_r _ [13, 2, 14, 15, 16, 17, 18, 19, 20, 21, 22, 23, 24, 25, 26, 27, 6, 28, 29, 30, 31, 32, 33, 34, 35, 36, 37, 38, 39, 40, 41, 42, 43, 44, 45, 46, 47, 48, 49, 50, 51, 52, 53, 54, 55, 56, 57, 58, 59, 60, 61, 62, 63, 64, 65, 66, 67, 68, 69, 70, 71, 72, 73, 74, 75, 76, 77, 78, 79, 80, 81, 82, 83, 84, 85, 86, 87, 88, 89, 90, 91, 92, 93, 94, 95, 96, 97, 106, 107, 108, 109, 110, 111, 112, 113, 114, 115, 116, 117, 118, 119, 120, 121, 122, 123, 124, 139, 140, 141, 142, 143, 144, 145, 146, 147, 125, 126, 127, 128, 129, 130, 131, 132, 133, 134, 135, 136, 137, 138, 148, 149, 150, 151, 152, 153, 154] rfl (by decide +kernel)
set_option maxRecDepth 20000 in
theorem gX11_enough_X11_countHonest : GoodIn wsX11_enough (wsV RX11 309 RX11 yX11_countHonest wsX11_countHonest) := goodIn_app (goodIn_of _ (by decide +kernel)) ggX11_enough_X11_countHonest
set_option maxRecDepth 20000 in
theorem ggX11_enough_X1_portion : GoodIn wsX11_enough wsX1_portion := goodIn_r _ [101, 92, 90, 20, 102, 103, 104, 18, 105, 91, 93, 94, 95, 6, 96, 97, 139, 140, 141, 142, 143, 144, 145, 146, 147, 125, 126, 127, 128, 129, 130, 131, 132, 133, 134, 135, 136, 137, 138] rfl (by decide +kernel)
set_option maxRecDepth 20000 in
theorem gX11_enough_X1_portion : GoodIn wsX11_enough (wsV RX11 306 RX1 yX1_portion wsX1_portion) := goodIn_app (goodIn_of _ (by decide +kernel)) ggX11_enough_X1_portion
theorem dX11_enough_0 : decode cX11_enough 0 = .ok (.aload_n 0, 1) := by decide +kernel
theorem dX11_enough_1 : decode cX11_enough 1 = .ok (.getfield 19, 3) := by decide +kernel
theorem dX11_enough_4 : decode cX11_enough 4 = .ok (.iload_n 1, 1) := by decide +kernel
theorem dX11_enough_5 : decode cX11_enough 5 = .ok (.invokevirtual 200, 3) := by decide +kernel
theorem dX11_enough_8 : decode cX11_enough 8 = .ok (.ifCond .ne 5, 3) := by decide +kernel
theorem dX11_enough_11 : decode cX11_enough 11 = .ok (.iconst (-1), 1) := by decide +kernel
theorem dX11_enough_12 : decode cX11_enough 12 = .ok (.ireturn, 1) := by decide +kernel
theorem dX11_enough_13 : decode cX11_enough 13 = .ok (.aload_n 0, 1) := by decide +kernel
theorem dX11_enough_14 : decode cX11_enough 14 = .ok (.iload_n 1, 1) := by decide +kernel
theorem dX11_enough_15 : decode cX11_enough 15 = .ok (.invokevirtual 309, 3) := by decide +kernel
theorem dX11_enough_18 : decode cX11_enough 18 = .ok (.iconst 0, 1) := by decide +kernel
theorem dX11_enough_19 : decode cX11_enough 19 = .ok (.istore_n 2, 1) := by decide +kernel
theorem dX11_enough_20 : decode cX11_enough 20 = .ok (.iconst 0, 1) := by decide +kernel
theorem dX11_enough_21 : decode cX11_enough 21 = .ok (.istore_n 3, 1) := by decide +kernel
theorem dX11_enough_22 : decode cX11_enough 22 = .ok (.iload_n 3, 1) := by decide +kernel
theorem dX11_enough_23 : decode cX11_enough 23 = .ok (.aload_n 0, 1) := by decide +kernel
theorem dX11_enough_24 : decode cX11_enough 24 = .ok (.getfield 19, 3) := by decide +kernel
theorem dX11_enough_27 : decode cX11_enough 27 = .ok (.getfield 167, 3) := by decide +kernel
theorem dX11_enough_30 : decode cX11_enough 30 = .ok (.if_icmp .ge 54, 3) := by decide +kernel
theorem dX11_enough_33 : decode cX11_enough 33 = .ok (.aload_n 0, 1) := by decide +kernel
theorem dX11_enough_34 : decode cX11_enough 34 = .ok (.getfield 19, 3) := by decide +kernel
theorem dX11_enough_37 : decode cX11_enough 37 = .ok (.getfield 186, 3) := by decide +kernel
theorem dX11_enough_40 : decode cX11_enough 40 = .ok (.iload_n 3, 1) := by decide +kernel
theorem dX11_enough_41 : decode cX11_enough 41 = .ok (.aaload, 1) := by decide +kernel
theorem dX11_enough_42 : decode cX11_enough 42 = .ok (.iconst 5, 1) := by decide +kernel
theorem dX11_enough_43 : decode cX11_enough 43 = .ok (.iaload, 1) := by decide +kernel
theorem dX11_enough_44 : decode cX11_enough 44 = .ok (.istore 4, 2) := by decide +kernel
theorem dX11_enough_46 : decode cX11_enough 46 = .ok (.iload 4, 2) := by decide +kernel
theorem dX11_enough_48 : decode cX11_enough 48 = .ok (.iconst (-1), 1) := by decide +kernel
theorem dX11_enough_49 : decode cX11_enough 49 = .ok (.if_icmp .eq 29, 3) := by decide +kernel
theorem dX11_enough_52 : decode cX11_enough 52 = .ok (.aload_n 0, 1) := by decide +kernel
theorem dX11_enough_53 : decode cX11_enough 53 = .ok (.getfield 60, 3) := by decide +kernel
theorem dX11_enough_56 : decode cX11_enough 56 = .ok (.iload_n 3, 1) := by decide +kernel
theorem dX11_enough_57 : decode cX11_enough 57 = .ok (.aload_n 0, 1) := by decide +kernel
theorem dX11_enough_58 : decode cX11_enough 58 = .ok (.getfield 19, 3) := by decide +kernel
theorem dX11_enough_61 : decode cX11_enough 61 = .ok (.getfield 245, 3) := by decide +kernel
theorem dX11_enough_64 : decode cX11_enough 64 = .ok (.invokevirtual 306, 3) := by decide +kernel
theorem dX11_enough_67 : decode cX11_enough 67 = .ok (.iload 4, 2) := by decide +kernel
theorem dX11_enough_69 : decode cX11_enough 69 = .ok (.if_icmp .lt 9, 3) := by decide +kernel
theorem dX11_enough_72 : decode cX11_enough 72 = .ok (.iload_n 2, 1) := by decide +kernel
theorem dX11_enough_73 : decode cX11_enough 73 = .ok (.iconst 1, 1) := by decide +kernel
theorem dX11_enough_74 : decode cX11_enough 74 = .ok (.iload_n 3, 1) := by decide +kernel
theorem dX11_enough_75 : decode cX11_enough 75 = .ok (.ishl, 1) := by decide +kernel
theorem dX11_enough_76 : decode cX11_enough 76 = .ok (.ior, 1) := by decide +kernel
theorem dX11_enough_77 : decode cX11_enough 77 = .ok (.istore_n 2, 1) := by decide +kernel
theorem dX11_enough_78 : decode cX11_enough 78 = .ok (.iinc 3 1, 3) := by decide +kernel
theorem dX11_enough_81 : decode cX11_enough 81 = .ok (.goto (-59), 3) := by decide +kernel
theorem dX11_enough_84 : decode cX11_enough 84 = .ok (.iload_n 2, 1) := by decide +kernel
theorem dX11_enough_85 : decode cX11_enough 85 = .ok (.ireturn, 1) := by decide +kernel
set_option maxRecDepth 20000 in
theorem ggX11_least_X9_hasFlight : GoodIn wsX11_least wsX9_hasFlight := goodIn_r _ [11, 12, 132, 133, 134, 135, 136, 137, 138, 139, 140, 141, 142, 143, 144, 145] rfl (by decide +kernel)
set_option maxRecDepth 20000 in
theorem gX11_least_X9_hasFlight : GoodIn wsX11_least (wsV RX11 200 RX9 yX9_hasFlight wsX9_hasFlight) := goodIn_app (goodIn_of _ (by decide +kernel)) ggX11_least_X9_hasFlight
set_option maxRecDepth 20000 in
theorem ggX11_least_X11_countHonest : GoodIn wsX11_least wsX11_countHonest := goodIn_r _ [17, 2, 18, 19, 20, 21, 22, 23, 24, 25, 26, 27, 28, 29, 30, 31, 10, 32, 33, 34, 35, 36, 37, 38, 39, 40, 41, 42, 43, 44, 45, 46, 47, 48, 49, 50, 51, 52, 53, 54, 55, 56, 57, 58, 59, 60, 61, 62, 63, 64, 65, 66, 67, 68, 69, 70, 71, 72, 73, 74, 75, 5, 76, 77, 78, 79, 80, 81, 82, 83, 84, 85, 86, 87, 88, 89, 90, 91, 92, 93, 94, 95, 96, 97, 98, 99, 100, 113, 114, 115, 116, 117, 118, 119, 120, 121, 122, 123, 124, 125, 126, 127, 128, 129, 130, 131, 146, 147, 148, 149, 150, 151, 152, 153, 154, 132, 133, 134, 135, 136, 137, 138, 139, 140, 141, 142, 143, 144, 145, 155, 156, 157, 158, 159, 160, 161] rfl (by decide +kernel)
set_option maxRecDepth 20000 in
theorem gX11_least_X11_countHonest : GoodIn wsX11_least (wsV RX11 309 RX11 yX11_countHonest wsX11_countHonest) := goodIn_app (goodIn_of _ (by decide +kernel)) ggX11_least_X11_countHonest
set_option maxRecDepth 20000 in
theorem ggX11_least_X1_allSharers : GoodIn wsX11_least wsX1_allSharers := goodIn_r _ [104, 94, 146, 147, 148, 149, 150, 151, 152, 153, 154] rfl (by decide +kernel)
set_option maxRecDepth 20000 in
theorem gX11_least_X1_allSharers : GoodIn wsX11_least (wsV RX11 349 RX1 yX1_allSharers wsX1_allSharers) := goodIn_app (goodIn_of _ (by decide +kernel)) ggX11_least_X1_allSharers
set_option maxRecDepth 20000 in
theorem ggX11_least_X1_wheatFor : GoodIn wsX11_least wsX1_wheatFor := goodIn_r _ [108, 24, 95, 93, 109, 110, 111, 22, 112, 94, 96, 97, 98, 10, 99, 100, 146, 147, 148, 149, 150, 151, 152, 153, 154, 132, 133, 134, 135, 136, 137, 138, 139, 140, 141, 142, 143, 144, 145] rfl (by decide +kernel)
set_option maxRecDepth 20000 in
theorem gX11_least_X1_wheatFor : GoodIn wsX11_least (wsV RX11 357 RX1 yX1_wheatFor wsX1_wheatFor) := goodIn_app (goodIn_of _ (by decide +kernel)) ggX11_least_X1_wheatFor
theorem dX11_least_0 : decode cX11_least 0 = .ok (.aload_n 0, 1) := by decide +kernel
theorem dX11_least_1 : decode cX11_least 1 = .ok (.getfield 19, 3) := by decide +kernel
theorem dX11_least_4 : decode cX11_least 4 = .ok (.iload_n 1, 1) := by decide +kernel
theorem dX11_least_5 : decode cX11_least 5 = .ok (.invokevirtual 200, 3) := by decide +kernel
theorem dX11_least_8 : decode cX11_least 8 = .ok (.ifCond .ne 5, 3) := by decide +kernel
theorem dX11_least_11 : decode cX11_least 11 = .ok (.iconst (-1), 1) := by decide +kernel
theorem dX11_least_12 : decode cX11_least 12 = .ok (.ireturn, 1) := by decide +kernel
theorem dX11_least_13 : decode cX11_least 13 = .ok (.aload_n 0, 1) := by decide +kernel
theorem dX11_least_14 : decode cX11_least 14 = .ok (.iload_n 1, 1) := by decide +kernel
theorem dX11_least_15 : decode cX11_least 15 = .ok (.invokevirtual 309, 3) := by decide +kernel
theorem dX11_least_18 : decode cX11_least 18 = .ok (.aload_n 0, 1) := by decide +kernel
theorem dX11_least_19 : decode cX11_least 19 = .ok (.getfield 60, 3) := by decide +kernel
theorem dX11_least_22 : decode cX11_least 22 = .ok (.invokevirtual 349, 3) := by decide +kernel
theorem dX11_least_25 : decode cX11_least 25 = .ok (.istore_n 2, 1) := by decide +kernel
theorem dX11_least_26 : decode cX11_least 26 = .ok (.iload_n 2, 1) := by decide +kernel
theorem dX11_least_27 : decode cX11_least 27 = .ok (.ifCond .ne 7, 3) := by decide +kernel
theorem dX11_least_30 : decode cX11_least 30 = .ok (.iconst (-1), 1) := by decide +kernel
theorem dX11_least_31 : decode cX11_least 31 = .ok (.goto 4, 3) := by decide +kernel
theorem dX11_least_34 : decode cX11_least 34 = .ok (.iconst 0, 1) := by decide +kernel
theorem dX11_least_35 : decode cX11_least 35 = .ok (.istore_n 3, 1) := by decide +kernel
theorem dX11_least_36 : decode cX11_least 36 = .ok (.iconst 0, 1) := by decide +kernel
theorem dX11_least_37 : decode cX11_least 37 = .ok (.istore 4, 2) := by decide +kernel
theorem dX11_least_39 : decode cX11_least 39 = .ok (.iload 4, 2) := by decide +kernel
theorem dX11_least_41 : decode cX11_least 41 = .ok (.aload_n 0, 1) := by decide +kernel
theorem dX11_least_42 : decode cX11_least 42 = .ok (.getfield 19, 3) := by decide +kernel
theorem dX11_least_45 : decode cX11_least 45 = .ok (.getfield 167, 3) := by decide +kernel
theorem dX11_least_48 : decode cX11_least 48 = .ok (.if_icmp .ge 49, 3) := by decide +kernel
theorem dX11_least_51 : decode cX11_least 51 = .ok (.iload_n 2, 1) := by decide +kernel
theorem dX11_least_52 : decode cX11_least 52 = .ok (.iload 4, 2) := by decide +kernel
theorem dX11_least_54 : decode cX11_least 54 = .ok (.ishr, 1) := by decide +kernel
theorem dX11_least_55 : decode cX11_least 55 = .ok (.iconst 1, 1) := by decide +kernel
theorem dX11_least_56 : decode cX11_least 56 = .ok (.iand, 1) := by decide +kernel
theorem dX11_least_57 : decode cX11_least 57 = .ok (.iconst 1, 1) := by decide +kernel
theorem dX11_least_58 : decode cX11_least 58 = .ok (.if_icmp .ne 33, 3) := by decide +kernel
theorem dX11_least_61 : decode cX11_least 61 = .ok (.iload_n 3, 1) := by decide +kernel
theorem dX11_least_62 : decode cX11_least 62 = .ok (.aload_n 0, 1) := by decide +kernel
theorem dX11_least_63 : decode cX11_least 63 = .ok (.getfield 60, 3) := by decide +kernel
theorem dX11_least_66 : decode cX11_least 66 = .ok (.iload 4, 2) := by decide +kernel
theorem dX11_least_68 : decode cX11_least 68 = .ok (.aload_n 0, 1) := by decide +kernel
theorem dX11_least_69 : decode cX11_least 69 = .ok (.getfield 19, 3) := by decide +kernel
theorem dX11_least_72 : decode cX11_least 72 = .ok (.getfield 186, 3) := by decide +kernel
theorem dX11_least_75 : decode cX11_least 75 = .ok (.iload 4, 2) := by decide +kernel
theorem dX11_least_77 : decode cX11_least 77 = .ok (.aaload, 1) := by decide +kernel
theorem dX11_least_78 : decode cX11_least 78 = .ok (.iconst 5, 1) := by decide +kernel
theorem dX11_least_79 : decode cX11_least 79 = .ok (.iaload, 1) := by decide +kernel
theorem dX11_least_80 : decode cX11_least 80 = .ok (.iconst 0, 1) := by decide +kernel
theorem dX11_least_81 : decode cX11_least 81 = .ok (.invokestatic 352, 3) := by decide +kernel
theorem dX11_least_84 : decode cX11_least 84 = .ok (.invokevirtual 357, 3) := by decide +kernel
theorem dX11_least_87 : decode cX11_least 87 = .ok (.invokestatic 352, 3) := by decide +kernel
theorem dX11_least_90 : decode cX11_least 90 = .ok (.istore_n 3, 1) := by decide +kernel
theorem dX11_least_91 : decode cX11_least 91 = .ok (.iinc 4 1, 3) := by decide +kernel
theorem dX11_least_94 : decode cX11_least 94 = .ok (.goto (-55), 3) := by decide +kernel
theorem dX11_least_97 : decode cX11_least 97 = .ok (.iload_n 3, 1) := by decide +kernel
theorem dX11_least_98 : decode cX11_least 98 = .ok (.sipush 999, 3) := by decide +kernel
theorem dX11_least_101 : decode cX11_least 101 = .ok (.if_icmp .le 7, 3) := by decide +kernel
theorem dX11_least_104 : decode cX11_least 104 = .ok (.iconst (-1), 1) := by decide +kernel
theorem dX11_least_105 : decode cX11_least 105 = .ok (.goto 4, 3) := by decide +kernel
theorem dX11_least_108 : decode cX11_least 108 = .ok (.iload_n 3, 1) := by decide +kernel
theorem dX11_least_109 : decode cX11_least 109 = .ok (.ireturn, 1) := by decide +kernel
set_option maxRecDepth 20000 in
theorem ggX11_poor_X1_pitch : GoodIn wsX11_poor wsX1_pitch := goodIn_r _ [8, 9, 10, 11, 12, 7, 13, 14, 15, 16, 17, 18, 19, 20, 21, 22, 23, 24, 25, 26, 106, 107, 108, 109, 110, 111, 112, 113, 114, 92, 93, 94, 95, 96, 97, 98, 99, 100, 101, 102, 103, 104, 105, 115, 116, 117, 118, 119, 120, 121] rfl (by decide +kernel)
set_option maxRecDepth 20000 in
theorem gX11_poor_X1_pitch : GoodIn wsX11_poor (wsV RX11 281 RX1 yX1_pitch wsX1_pitch) := goodIn_app (goodIn_of _ (by decide +kernel)) ggX11_poor_X1_pitch
set_option maxRecDepth 20000 in
theorem ggX11_poor_X1_listenToAll : GoodIn wsX11_poor wsX1_listenToAll := goodIn_r _ [30, 9, 31, 32, 33, 7, 34, 35, 36, 37, 38, 39, 40, 41, 42, 43, 26, 24, 25, 44, 45, 46, 17, 47, 48, 49, 50, 51, 52, 53, 54, 55, 56, 57, 58, 59, 60, 61, 62, 63, 64, 65, 66, 67, 106, 107, 108, 109, 110, 111, 112, 113, 114, 92, 93, 94, 95, 96, 97, 98, 99, 100, 101, 102, 103, 104, 105] rfl (by decide +kernel)
set_option maxRecDepth 20000 in
theorem gX11_poor_X1_listenToAll : GoodIn wsX11_poor (wsV RX11 315 RX1 yX1_listenToAll wsX1_listenToAll) := goodIn_app (goodIn_of _ (by decide +kernel)) ggX11_poor_X1_listenToAll
set_option maxRecDepth 20000 in
theorem ggX11_poor_X9_allMen : GoodIn wsX11_poor wsX9_allMen := goodIn_r _ [71, 72, 92, 93, 94, 95, 96, 97, 98, 99, 100, 101, 102, 103, 104, 105] rfl (by decide +kernel)
set_option maxRecDepth 20000 in
theorem gX11_poor_X9_allMen : GoodIn wsX11_poor (wsV RX11 363 RX9 yX9_allMen wsX9_allMen) := goodIn_app (goodIn_of _ (by decide +kernel)) ggX11_poor_X9_allMen
theorem dX11_poor_0 : decode cX11_poor 0 = .ok (.aload_n 0, 1) := by decide +kernel
theorem dX11_poor_1 : decode cX11_poor 1 = .ok (.getfield 60, 3) := by decide +kernel
theorem dX11_poor_4 : decode cX11_poor 4 = .ok (.aload_n 0, 1) := by decide +kernel
theorem dX11_poor_5 : decode cX11_poor 5 = .ok (.getfield 38, 3) := by decide +kernel
theorem dX11_poor_8 : decode cX11_poor 8 = .ok (.invokevirtual 281, 3) := by decide +kernel
theorem dX11_poor_11 : decode cX11_poor 11 = .ok (.aload_n 0, 1) := by decide +kernel
theorem dX11_poor_12 : decode cX11_poor 12 = .ok (.getfield 60, 3) := by decide +kernel
theorem dX11_poor_15 : decode cX11_poor 15 = .ok (.invokevirtual 315, 3) := by decide +kernel
theorem dX11_poor_18 : decode cX11_poor 18 = .ok (.iconst 0, 1) := by decide +kernel
theorem dX11_poor_19 : decode cX11_poor 19 = .ok (.istore_n 1, 1) := by decide +kernel
theorem dX11_poor_20 : decode cX11_poor 20 = .ok (.iconst 0, 1) := by decide +kernel
theorem dX11_poor_21 : decode cX11_poor 21 = .ok (.istore_n 2, 1) := by decide +kernel
theorem dX11_poor_22 : decode cX11_poor 22 = .ok (.iload_n 2, 1) := by decide +kernel
theorem dX11_poor_23 : decode cX11_poor 23 = .ok (.aload_n 0, 1) := by decide +kernel
theorem dX11_poor_24 : decode cX11_poor 24 = .ok (.getfield 19, 3) := by decide +kernel
theorem dX11_poor_27 : decode cX11_poor 27 = .ok (.getfield 238, 3) := by decide +kernel
theorem dX11_poor_30 : decode cX11_poor 30 = .ok (.if_icmp .ge 49, 3) := by decide +kernel
theorem dX11_poor_33 : decode cX11_poor 33 = .ok (.iconst 0, 1) := by decide +kernel
theorem dX11_poor_34 : decode cX11_poor 34 = .ok (.istore_n 3, 1) := by decide +kernel
theorem dX11_poor_35 : decode cX11_poor 35 = .ok (.iload_n 3, 1) := by decide +kernel
theorem dX11_poor_36 : decode cX11_poor 36 = .ok (.aload_n 0, 1) := by decide +kernel
theorem dX11_poor_37 : decode cX11_poor 37 = .ok (.getfield 19, 3) := by decide +kernel
theorem dX11_poor_40 : decode cX11_poor 40 = .ok (.getfield 203, 3) := by decide +kernel
theorem dX11_poor_43 : decode cX11_poor 43 = .ok (.iload_n 2, 1) := by decide +kernel
theorem dX11_poor_44 : decode cX11_poor 44 = .ok (.aaload, 1) := by decide +kernel
theorem dX11_poor_45 : decode cX11_poor 45 = .ok (.iconst 2, 1) := by decide +kernel
theorem dX11_poor_46 : decode cX11_poor 46 = .ok (.iaload, 1) := by decide +kernel
theorem dX11_poor_47 : decode cX11_poor 47 = .ok (.if_icmp .ge 26, 3) := by decide +kernel
theorem dX11_poor_50 : decode cX11_poor 50 = .ok (.iload_n 1, 1) := by decide +kernel
theorem dX11_poor_51 : decode cX11_poor 51 = .ok (.aload_n 0, 1) := by decide +kernel
theorem dX11_poor_52 : decode cX11_poor 52 = .ok (.getfield 60, 3) := by decide +kernel
theorem dX11_poor_55 : decode cX11_poor 55 = .ok (.getfield 360, 3) := by decide +kernel
theorem dX11_poor_58 : decode cX11_poor 58 = .ok (.iload_n 2, 1) := by decide +kernel
theorem dX11_poor_59 : decode cX11_poor 59 = .ok (.bipush 10, 2) := by decide +kernel
theorem dX11_poor_61 : decode cX11_poor 61 = .ok (.imul, 1) := by decide +kernel
theorem dX11_poor_62 : decode cX11_poor 62 = .ok (.iload_n 3, 1) := by decide +kernel
theorem dX11_poor_63 : decode cX11_poor 63 = .ok (.iadd, 1) := by decide +kernel
theorem dX11_poor_64 : decode cX11_poor 64 = .ok (.iaload, 1) := by decide +kernel
theorem dX11_poor_65 : decode cX11_poor 65 = .ok (.ior, 1) := by decide +kernel
theorem dX11_poor_66 : decode cX11_poor 66 = .ok (.istore_n 1, 1) := by decide +kernel
theorem dX11_poor_67 : decode cX11_poor 67 = .ok (.iinc 3 1, 3) := by decide +kernel
theorem dX11_poor_70 : decode cX11_poor 70 = .ok (.goto (-35), 3) := by decide +kernel
theorem dX11_poor_73 : decode cX11_poor 73 = .ok (.iinc 2 1, 3) := by decide +kernel
theorem dX11_poor_76 : decode cX11_poor 76 = .ok (.goto (-54), 3) := by decide +kernel
theorem dX11_poor_79 : decode cX11_poor 79 = .ok (.aload_n 0, 1) := by decide +kernel
theorem dX11_poor_80 : decode cX11_poor 80 = .ok (.getfield 19, 3) := by decide +kernel
theorem dX11_poor_83 : decode cX11_poor 83 = .ok (.invokevirtual 363, 3) := by decide +kernel
theorem dX11_poor_86 : decode cX11_poor 86 = .ok (.iload_n 1, 1) := by decide +kernel
theorem dX11_poor_87 : decode cX11_poor 87 = .ok (.iconst (-1), 1) := by decide +kernel
theorem dX11_poor_88 : decode cX11_poor 88 = .ok (.ixor, 1) := by decide +kernel
theorem dX11_poor_89 : decode cX11_poor 89 = .ok (.iand, 1) := by decide +kernel
theorem dX11_poor_90 : decode cX11_poor 90 = .ok (.ireturn, 1) := by decide +kernel
set_option maxRecDepth 20000 in
theorem ggX11_crowded_X1_pitch : GoodIn wsX11_crowded wsX1_pitch := goodIn_r _ [8, 9, 10, 11, 12, 7, 13, 14, 15, 16, 17, 18, 19, 20, 21, 22, 23, 24, 25, 26, 132, 133, 134, 135, 136, 137, 138, 139, 140, 118, 119, 120, 121, 122, 123, 124, 125, 126, 127, 128, 129, 130, 131, 141, 142, 143, 144, 145, 146, 147] rfl (by decide +kernel)
set_option maxRecDepth 20000 in
theorem gX11_crowded_X1_pitch : GoodIn wsX11_crowded (wsV RX11 281 RX1 yX1_pitch wsX1_pitch) := goodIn_app (goodIn_of _ (by decide +kernel)) ggX11_crowded_X1_pitch
set_option maxRecDepth 20000 in
theorem ggX11_crowded_X1_listen : GoodIn wsX11_crowded wsX1_listen := goodIn_r _ [30, 9, 31, 32, 33, 34, 7, 35, 36, 37, 38, 39, 26, 24, 25, 40, 41, 42, 17, 43, 44, 45, 46, 47, 48, 49, 50, 51, 52, 53, 54, 55, 56, 57, 58, 59, 60, 61, 62, 63, 132, 133, 134, 135, 136, 137, 138, 139, 140, 118, 119, 120, 121, 122, 123, 124, 125, 126, 127, 128, 129, 130, 131] rfl (by decide +kernel)
set_option maxRecDepth 20000 in
theorem gX11_crowded_X1_listen : GoodIn wsX11_crowded (wsV RX11 291 RX1 yX1_listen wsX1_listen) := goodIn_app (goodIn_of _ (by decide +kernel)) ggX11_crowded_X1_listen
set_option maxRecDepth 20000 in
theorem ggX11_crowded_X1_countHonest : GoodIn wsX11_crowded wsX1_countHonest := goodIn_r _ [67, 31, 68, 69, 70, 7, 71, 9, 72, 73, 74, 75, 24, 51, 52, 53, 17, 54, 55, 76, 77, 78, 79, 80, 81, 82, 83, 84, 85, 86, 87, 132, 133, 134, 135, 136, 137, 138, 139, 140, 118, 119, 120, 121, 122, 123, 124, 125, 126, 127, 128, 129, 130, 131] rfl (by decide +kernel)
set_option maxRecDepth 20000 in
theorem gX11_crowded_X1_countHonest : GoodIn wsX11_crowded (wsV RX11 312 RX1 yX1_countHonest wsX1_countHonest) := goodIn_app (goodIn_of _ (by decide +kernel)) ggX11_crowded_X1_countHonest
set_option maxRecDepth 20000 in
theorem ggX11_crowded_X1_allSharers : GoodIn wsX11_crowded wsX1_allSharers := goodIn_r _ [91, 81, 132, 133, 134, 135, 136, 137, 138, 139, 140] rfl (by decide +kernel)
set_option maxRecDepth 20000 in
theorem gX11_crowded_X1_allSharers : GoodIn wsX11_crowded (wsV RX11 349 RX1 yX1_allSharers wsX1_allSharers) := goodIn_app (goodIn_of _ (by decide +kernel)) ggX11_crowded_X1_allSharers
set_option maxRecDepth 20000 in
theorem ggX11_crowded_J6_bitCount_0f7a4 : GoodIn wsX11_crowded wsJ6_bitCount_0f7a4 := goodIn_r _ [95, 96, 97, 98] rfl (by decide +kernel)
set_option maxRecDepth 20000 in
theorem gX11_crowded_J6_bitCount_0f7a4 : GoodIn wsX11_crowded (va_wsS RX11 366 yJ6_bitCount_0f7a4 wsJ6_bitCount_0f7a4) := goodIn_app (goodIn_of _ (by decide +kernel)) ggX11_crowded_J6_bitCount_0f7a4
theorem dX11_crowded_0 : decode cX11_crowded 0 = .ok (.aload_n 0, 1) := by decide +kernel
theorem dX11_crowded_1 : decode cX11_crowded 1 = .ok (.getfield 60, 3) := by decide +kernel
theorem dX11_crowded_4 : decode cX11_crowded 4 = .ok (.aload_n 0, 1) := by decide +kernel
theorem dX11_crowded_5 : decode cX11_crowded 5 = .ok (.getfield 38, 3) := by decide +kernel
theorem dX11_crowded_8 : decode cX11_crowded 8 = .ok (.invokevirtual 281, 3) := by decide +kernel
theorem dX11_crowded_11 : decode cX11_crowded 11 = .ok (.iconst (-1), 1) := by decide +kernel
theorem dX11_crowded_12 : decode cX11_crowded 12 = .ok (.istore_n 1, 1) := by decide +kernel
theorem dX11_crowded_13 : decode cX11_crowded 13 = .ok (.iconst (-1), 1) := by decide +kernel
theorem dX11_crowded_14 : decode cX11_crowded 14 = .ok (.istore_n 2, 1) := by decide +kernel
theorem dX11_crowded_15 : decode cX11_crowded 15 = .ok (.iconst 0, 1) := by decide +kernel
theorem dX11_crowded_16 : decode cX11_crowded 16 = .ok (.istore_n 3, 1) := by decide +kernel
theorem dX11_crowded_17 : decode cX11_crowded 17 = .ok (.iload_n 3, 1) := by decide +kernel
theorem dX11_crowded_18 : decode cX11_crowded 18 = .ok (.aload_n 0, 1) := by decide +kernel
theorem dX11_crowded_19 : decode cX11_crowded 19 = .ok (.getfield 19, 3) := by decide +kernel
theorem dX11_crowded_22 : decode cX11_crowded 22 = .ok (.getfield 238, 3) := by decide +kernel
theorem dX11_crowded_25 : decode cX11_crowded 25 = .ok (.if_icmp .ge 48, 3) := by decide +kernel
theorem dX11_crowded_28 : decode cX11_crowded 28 = .ok (.aload_n 0, 1) := by decide +kernel
theorem dX11_crowded_29 : decode cX11_crowded 29 = .ok (.getfield 60, 3) := by decide +kernel
theorem dX11_crowded_32 : decode cX11_crowded 32 = .ok (.iload_n 3, 1) := by decide +kernel
theorem dX11_crowded_33 : decode cX11_crowded 33 = .ok (.invokevirtual 291, 3) := by decide +kernel
theorem dX11_crowded_36 : decode cX11_crowded 36 = .ok (.aload_n 0, 1) := by decide +kernel
theorem dX11_crowded_37 : decode cX11_crowded 37 = .ok (.getfield 60, 3) := by decide +kernel
theorem dX11_crowded_40 : decode cX11_crowded 40 = .ok (.iload_n 3, 1) := by decide +kernel
theorem dX11_crowded_41 : decode cX11_crowded 41 = .ok (.invokevirtual 312, 3) := by decide +kernel
theorem dX11_crowded_44 : decode cX11_crowded 44 = .ok (.aload_n 0, 1) := by decide +kernel
theorem dX11_crowded_45 : decode cX11_crowded 45 = .ok (.getfield 60, 3) := by decide +kernel
theorem dX11_crowded_48 : decode cX11_crowded 48 = .ok (.invokevirtual 349, 3) := by decide +kernel
theorem dX11_crowded_51 : decode cX11_crowded 51 = .ok (.invokestatic 366, 3) := by decide +kernel
theorem dX11_crowded_54 : decode cX11_crowded 54 = .ok (.istore 4, 2) := by decide +kernel
theorem dX11_crowded_56 : decode cX11_crowded 56 = .ok (.iload 4, 2) := by decide +kernel
theorem dX11_crowded_58 : decode cX11_crowded 58 = .ok (.iload_n 2, 1) := by decide +kernel
theorem dX11_crowded_59 : decode cX11_crowded 59 = .ok (.if_icmp .le 8, 3) := by decide +kernel
theorem dX11_crowded_62 : decode cX11_crowded 62 = .ok (.iload 4, 2) := by decide +kernel
theorem dX11_crowded_64 : decode cX11_crowded 64 = .ok (.istore_n 2, 1) := by decide +kernel
theorem dX11_crowded_65 : decode cX11_crowded 65 = .ok (.iload_n 3, 1) := by decide +kernel
theorem dX11_crowded_66 : decode cX11_crowded 66 = .ok (.istore_n 1, 1) := by decide +kernel
theorem dX11_crowded_67 : decode cX11_crowded 67 = .ok (.iinc 3 1, 3) := by decide +kernel
theorem dX11_crowded_70 : decode cX11_crowded 70 = .ok (.goto (-53), 3) := by decide +kernel
theorem dX11_crowded_73 : decode cX11_crowded 73 = .ok (.iload_n 1, 1) := by decide +kernel
theorem dX11_crowded_74 : decode cX11_crowded 74 = .ok (.ireturn, 1) := by decide +kernel
set_option maxRecDepth 20000 in
theorem ggX11_swaps_X1_pitch : GoodIn wsX11_swaps wsX1_pitch := goodIn_r _ [8, 9, 10, 11, 12, 7, 13, 14, 15, 16, 17, 18, 19, 20, 21, 22, 23, 24, 25, 26, 154, 155, 156, 157, 158, 159, 160, 161, 162, 140, 141, 142, 143, 144, 145, 146, 147, 148, 149, 150, 151, 152, 153, 163, 164, 165, 166, 167, 168, 169] rfl (by decide +kernel)
set_option maxRecDepth 20000 in
theorem gX11_swaps_X1_pitch : GoodIn wsX11_swaps (wsV RX11 281 RX1 yX1_pitch wsX1_pitch) := goodIn_app (goodIn_of _ (by decide +kernel)) ggX11_swaps_X1_pitch
set_option maxRecDepth 20000 in
theorem ggX11_swaps_X1_listenToAll : GoodIn wsX11_swaps wsX1_listenToAll := goodIn_r _ [30, 9, 31, 32, 33, 7, 34, 35, 36, 37, 38, 39, 40, 41, 42, 43, 26, 24, 25, 44, 45, 46, 17, 47, 48, 49, 50, 51, 52, 53, 54, 55, 56, 57, 58, 59, 60, 61, 62, 63, 64, 65, 66, 67, 154, 155, 156, 157, 158, 159, 160, 161, 162, 140, 141, 142, 143, 144, 145, 146, 147, 148, 149, 150, 151, 152, 153] rfl (by decide +kernel)
set_option maxRecDepth 20000 in
theorem gX11_swaps_X1_listenToAll : GoodIn wsX11_swaps (wsV RX11 315 RX1 yX1_listenToAll wsX1_listenToAll) := goodIn_app (goodIn_of _ (by decide +kernel)) ggX11_swaps_X1_listenToAll
set_option maxRecDepth 20000 in
theorem ggX11_swaps_X1_noteShares : GoodIn wsX11_swaps wsX1_noteShares := goodIn_r _ [71, 9, 72, 73, 74, 75, 7, 76, 77, 78, 79, 80, 35, 81, 82, 83, 84, 85, 86, 87, 88, 24, 55, 56, 57, 17, 58, 59, 89, 90, 91, 92, 93, 94, 95, 96, 97, 98, 99, 100, 101, 102, 103, 104, 105, 106, 107, 108, 154, 155, 156, 157, 158, 159, 160, 161, 162, 140, 141, 142, 143, 144, 145, 146, 147, 148, 149, 150, 151, 152, 153] rfl (by decide +kernel)
set_option maxRecDepth 20000 in
theorem gX11_swaps_X1_noteShares : GoodIn wsX11_swaps (wsV RX11 371 RX1 yX1_noteShares wsX1_noteShares) := goodIn_app (goodIn_of _ (by decide +kernel)) ggX11_swaps_X1_noteShares
set_option maxRecDepth 20000 in
theorem ggX11_swaps_X1_bothGain : GoodIn wsX11_swaps wsX1_bothGain := goodIn_r _ [112, 72, 113, 114, 115, 7, 116, 10, 11, 12, 13, 9, 14, 15, 16, 17, 18, 19, 20, 21, 22, 23, 24, 25, 26, 117, 118, 119, 120, 35, 40, 41, 42, 43, 44, 45, 46, 47, 48, 49, 50, 51, 52, 53, 54, 55, 56, 57, 58, 59, 60, 61, 62, 63, 64, 65, 66, 67, 73, 74, 75, 76, 77, 78, 79, 80, 81, 82, 83, 84, 85, 86, 87, 88, 89, 90, 91, 92, 93, 94, 95, 96, 97, 98, 99, 100, 101, 102, 103, 104, 105, 106, 107, 108, 163, 164, 165, 166, 167, 168, 169, 154, 155, 156, 157, 158, 159, 160, 161, 162, 140, 141, 142, 143, 144, 145, 146, 147, 148, 149, 150, 151, 152, 153] rfl (by decide +kernel)
set_option maxRecDepth 20000 in
theorem gX11_swaps_X1_bothGain : GoodIn wsX11_swaps (wsV RX11 374 RX1 yX1_bothGain wsX1_bothGain) := goodIn_app (goodIn_of _ (by decide +kernel)) ggX11_swaps_X1_bothGain
theorem dX11_swaps_0 : decode cX11_swaps 0 = .ok (.aload_n 0, 1) := by decide +kernel
theorem dX11_swaps_1 : decode cX11_swaps 1 = .ok (.getfield 19, 3) := by decide +kernel
theorem dX11_swaps_4 : decode cX11_swaps 4 = .ok (.getfield 238, 3) := by decide +kernel
theorem dX11_swaps_7 : decode cX11_swaps 7 = .ok (.ifCond .eq 8, 3) := by decide +kernel
theorem dX11_swaps_10 : decode cX11_swaps 10 = .ok (.iload_n 1, 1) := by decide +kernel
theorem dX11_swaps_11 : decode cX11_swaps 11 = .ok (.iconst (-1), 1) := by decide +kernel
theorem dX11_swaps_12 : decode cX11_swaps 12 = .ok (.if_icmp .ge 5, 3) := by decide +kernel
theorem dX11_swaps_15 : decode cX11_swaps 15 = .ok (.iconst (-1), 1) := by decide +kernel
theorem dX11_swaps_16 : decode cX11_swaps 16 = .ok (.ireturn, 1) := by decide +kernel
theorem dX11_swaps_17 : decode cX11_swaps 17 = .ok (.aload_n 0, 1) := by decide +kernel
theorem dX11_swaps_18 : decode cX11_swaps 18 = .ok (.getfield 60, 3) := by decide +kernel
theorem dX11_swaps_21 : decode cX11_swaps 21 = .ok (.aload_n 0, 1) := by decide +kernel
theorem dX11_swaps_22 : decode cX11_swaps 22 = .ok (.getfield 38, 3) := by decide +kernel
theorem dX11_swaps_25 : decode cX11_swaps 25 = .ok (.invokevirtual 281, 3) := by decide +kernel
theorem dX11_swaps_28 : decode cX11_swaps 28 = .ok (.aload_n 0, 1) := by decide +kernel
theorem dX11_swaps_29 : decode cX11_swaps 29 = .ok (.getfield 60, 3) := by decide +kernel
theorem dX11_swaps_32 : decode cX11_swaps 32 = .ok (.invokevirtual 315, 3) := by decide +kernel
theorem dX11_swaps_35 : decode cX11_swaps 35 = .ok (.aload_n 0, 1) := by decide +kernel
theorem dX11_swaps_36 : decode cX11_swaps 36 = .ok (.getfield 60, 3) := by decide +kernel
theorem dX11_swaps_39 : decode cX11_swaps 39 = .ok (.invokevirtual 371, 3) := by decide +kernel
theorem dX11_swaps_42 : decode cX11_swaps 42 = .ok (.iconst 0, 1) := by decide +kernel
theorem dX11_swaps_43 : decode cX11_swaps 43 = .ok (.istore_n 2, 1) := by decide +kernel
theorem dX11_swaps_44 : decode cX11_swaps 44 = .ok (.iconst 0, 1) := by decide +kernel
theorem dX11_swaps_45 : decode cX11_swaps 45 = .ok (.istore_n 3, 1) := by decide +kernel
theorem dX11_swaps_46 : decode cX11_swaps 46 = .ok (.iload_n 3, 1) := by decide +kernel
theorem dX11_swaps_47 : decode cX11_swaps 47 = .ok (.aload_n 0, 1) := by decide +kernel
theorem dX11_swaps_48 : decode cX11_swaps 48 = .ok (.getfield 19, 3) := by decide +kernel
theorem dX11_swaps_51 : decode cX11_swaps 51 = .ok (.getfield 167, 3) := by decide +kernel
theorem dX11_swaps_54 : decode cX11_swaps 54 = .ok (.if_icmp .ge 65, 3) := by decide +kernel
theorem dX11_swaps_57 : decode cX11_swaps 57 = .ok (.iload_n 3, 1) := by decide +kernel
theorem dX11_swaps_58 : decode cX11_swaps 58 = .ok (.iconst 1, 1) := by decide +kernel
theorem dX11_swaps_59 : decode cX11_swaps 59 = .ok (.iadd, 1) := by decide +kernel
theorem dX11_swaps_60 : decode cX11_swaps 60 = .ok (.istore 4, 2) := by decide +kernel
theorem dX11_swaps_62 : decode cX11_swaps 62 = .ok (.iload 4, 2) := by decide +kernel
theorem dX11_swaps_64 : decode cX11_swaps 64 = .ok (.aload_n 0, 1) := by decide +kernel
theorem dX11_swaps_65 : decode cX11_swaps 65 = .ok (.getfield 19, 3) := by decide +kernel
theorem dX11_swaps_68 : decode cX11_swaps 68 = .ok (.getfield 167, 3) := by decide +kernel
theorem dX11_swaps_71 : decode cX11_swaps 71 = .ok (.if_icmp .ge 42, 3) := by decide +kernel
theorem dX11_swaps_74 : decode cX11_swaps 74 = .ok (.aload_n 0, 1) := by decide +kernel
theorem dX11_swaps_75 : decode cX11_swaps 75 = .ok (.getfield 60, 3) := by decide +kernel
theorem dX11_swaps_78 : decode cX11_swaps 78 = .ok (.iload_n 3, 1) := by decide +kernel
theorem dX11_swaps_79 : decode cX11_swaps 79 = .ok (.iload 4, 2) := by decide +kernel
theorem dX11_swaps_81 : decode cX11_swaps 81 = .ok (.aload_n 0, 1) := by decide +kernel
theorem dX11_swaps_82 : decode cX11_swaps 82 = .ok (.getfield 38, 3) := by decide +kernel
theorem dX11_swaps_85 : decode cX11_swaps 85 = .ok (.invokevirtual 374, 3) := by decide +kernel
theorem dX11_swaps_88 : decode cX11_swaps 88 = .ok (.ifCond .eq 19, 3) := by decide +kernel
theorem dX11_swaps_91 : decode cX11_swaps 91 = .ok (.iload_n 2, 1) := by decide +kernel
theorem dX11_swaps_92 : decode cX11_swaps 92 = .ok (.iload_n 1, 1) := by decide +kernel
theorem dX11_swaps_93 : decode cX11_swaps 93 = .ok (.if_icmp .ne 11, 3) := by decide +kernel
theorem dX11_swaps_96 : decode cX11_swaps 96 = .ok (.bipush 10, 2) := by decide +kernel
theorem dX11_swaps_98 : decode cX11_swaps 98 = .ok (.iload_n 3, 1) := by decide +kernel
theorem dX11_swaps_99 : decode cX11_swaps 99 = .ok (.imul, 1) := by decide +kernel
theorem dX11_swaps_100 : decode cX11_swaps 100 = .ok (.iload 4, 2) := by decide +kernel
theorem dX11_swaps_102 : decode cX11_swaps 102 = .ok (.iadd, 1) := by decide +kernel
theorem dX11_swaps_103 : decode cX11_swaps 103 = .ok (.ireturn, 1) := by decide +kernel
theorem dX11_swaps_104 : decode cX11_swaps 104 = .ok (.iinc 2 1, 3) := by decide +kernel
theorem dX11_swaps_107 : decode cX11_swaps 107 = .ok (.iinc 4 1, 3) := by decide +kernel
theorem dX11_swaps_110 : decode cX11_swaps 110 = .ok (.goto (-48), 3) := by decide +kernel
theorem dX11_swaps_113 : decode cX11_swaps 113 = .ok (.iinc 3 1, 3) := by decide +kernel
theorem dX11_swaps_116 : decode cX11_swaps 116 = .ok (.goto (-70), 3) := by decide +kernel
theorem dX11_swaps_119 : decode cX11_swaps 119 = .ok (.iload_n 1, 1) := by decide +kernel
theorem dX11_swaps_120 : decode cX11_swaps 120 = .ok (.iconst (-1), 1) := by decide +kernel
theorem dX11_swaps_121 : decode cX11_swaps 121 = .ok (.if_icmp .ne 7, 3) := by decide +kernel
theorem dX11_swaps_124 : decode cX11_swaps 124 = .ok (.iload_n 2, 1) := by decide +kernel
theorem dX11_swaps_125 : decode cX11_swaps 125 = .ok (.goto 4, 3) := by decide +kernel
theorem dX11_swaps_128 : decode cX11_swaps 128 = .ok (.iconst (-1), 1) := by decide +kernel
theorem dX11_swaps_129 : decode cX11_swaps 129 = .ok (.ireturn, 1) := by decide +kernel
set_option maxRecDepth 20000 in
theorem ggX11_drawn_X2_copyFrom : GoodIn wsX11_drawn wsX2_copyFrom := goodIn_r _ [10, 11, 12, 13, 14, 15, 16, 17, 18, 19, 20, 21, 204, 205, 206, 207, 208, 209, 210] rfl (by decide +kernel)
set_option maxRecDepth 20000 in
theorem gX11_drawn_X2_copyFrom : GoodIn wsX11_drawn (wsV RX11 248 RX2 yX2_copyFrom wsX2_copyFrom) := goodIn_app (goodIn_of _ (by decide +kernel)) ggX11_drawn_X2_copyFrom
set_option maxRecDepth 20000 in
theorem ggX11_drawn_X0_drawYears : GoodIn wsX11_drawn wsX0_drawYears := goodIn_r _ [26, 27, 28, 29, 30, 25, 31, 32, 33, 34, 35, 36, 37, 38, 39, 40, 41, 42, 43, 44, 45, 46, 47, 48, 49, 50, 51, 52, 53, 54, 55, 56, 57, 58, 59, 60, 61, 62, 63, 64, 65, 66, 67, 68, 69, 70, 71, 72, 73, 74, 75, 76, 77, 78, 79, 80, 81, 82, 83, 84, 85, 86, 87, 88, 89, 90, 91, 92, 93, 94, 95, 96, 97, 98, 99, 100, 101, 102, 103, 104, 105, 106, 107, 108, 109, 110, 111, 112, 113, 114, 115, 116, 117, 118, 119, 120, 121, 122, 123, 124, 125, 126, 127, 128, 129, 130, 131, 132, 133, 134, 135, 136, 137, 138, 139, 140, 141, 142, 143, 144, 145, 146, 147, 148, 149, 150, 151, 152, 153, 154, 155, 156, 157, 158, 159, 160, 9, 161, 11, 12, 13, 20, 211, 212, 213, 204, 205, 206, 207, 208, 209, 210, 190, 191, 192, 193, 194, 195, 196, 197, 198, 199, 200, 201, 202, 203, 214, 215, 216, 217, 218, 219, 220, 221, 222] rfl (by decide +kernel)
set_option maxRecDepth 20000 in
theorem gX11_drawn_X0_drawYears : GoodIn wsX11_drawn (wsV RX11 378 RX0 yX0_drawYears wsX0_drawYears) := goodIn_app (goodIn_of _ (by decide +kernel)) ggX11_drawn_X0_drawYears
set_option maxRecDepth 20000 in
theorem ggX11_drawn_X3_push : GoodIn wsX11_drawn wsX3_push := goodIn_r _ [166, 167, 168, 169, 170, 7, 8, 9, 10, 11, 12, 13, 14, 15, 16, 17, 18, 19, 20, 21, 223, 224, 225, 204, 205, 206, 207, 208, 209, 210] rfl (by decide +kernel)
set_option maxRecDepth 20000 in
theorem gX11_drawn_X3_push : GoodIn wsX11_drawn (wsV RX11 258 RX3 yX3_push wsX3_push) := goodIn_app (goodIn_of _ (by decide +kernel)) ggX11_drawn_X3_push
theorem dX11_drawn_0 : decode cX11_drawn 0 = .ok (.iload_n 1, 1) := by decide +kernel
theorem dX11_drawn_1 : decode cX11_drawn 1 = .ok (.iconst 1, 1) := by decide +kernel
theorem dX11_drawn_2 : decode cX11_drawn 2 = .ok (.if_icmp .lt 29, 3) := by decide +kernel
theorem dX11_drawn_5 : decode cX11_drawn 5 = .ok (.iload_n 1, 1) := by decide +kernel
theorem dX11_drawn_6 : decode cX11_drawn 6 = .ok (.bipush 40, 2) := by decide +kernel
theorem dX11_drawn_8 : decode cX11_drawn 8 = .ok (.if_icmp .gt 23, 3) := by decide +kernel
theorem dX11_drawn_11 : decode cX11_drawn 11 = .ok (.aload_n 0, 1) := by decide +kernel
theorem dX11_drawn_12 : decode cX11_drawn 12 = .ok (.getfield 19, 3) := by decide +kernel
theorem dX11_drawn_15 : decode cX11_drawn 15 = .ok (.getfield 235, 3) := by decide +kernel
theorem dX11_drawn_18 : decode cX11_drawn 18 = .ok (.ifCond .eq 13, 3) := by decide +kernel
theorem dX11_drawn_21 : decode cX11_drawn 21 = .ok (.aload_n 0, 1) := by decide +kernel
theorem dX11_drawn_22 : decode cX11_drawn 22 = .ok (.getfield 19, 3) := by decide +kernel
theorem dX11_drawn_25 : decode cX11_drawn 25 = .ok (.getfield 238, 3) := by decide +kernel
theorem dX11_drawn_28 : decode cX11_drawn 28 = .ok (.ifCond .ne 5, 3) := by decide +kernel
theorem dX11_drawn_31 : decode cX11_drawn 31 = .ok (.iconst (-1), 1) := by decide +kernel
theorem dX11_drawn_32 : decode cX11_drawn 32 = .ok (.ireturn, 1) := by decide +kernel
theorem dX11_drawn_33 : decode cX11_drawn 33 = .ok (.aload_n 0, 1) := by decide +kernel
theorem dX11_drawn_34 : decode cX11_drawn 34 = .ok (.getfield 42, 3) := by decide +kernel
theorem dX11_drawn_37 : decode cX11_drawn 37 = .ok (.aload_n 0, 1) := by decide +kernel
theorem dX11_drawn_38 : decode cX11_drawn 38 = .ok (.getfield 38, 3) := by decide +kernel
theorem dX11_drawn_41 : decode cX11_drawn 41 = .ok (.invokevirtual 248, 3) := by decide +kernel
theorem dX11_drawn_44 : decode cX11_drawn 44 = .ok (.aload_n 0, 1) := by decide +kernel
theorem dX11_drawn_45 : decode cX11_drawn 45 = .ok (.getfield 69, 3) := by decide +kernel
theorem dX11_drawn_48 : decode cX11_drawn 48 = .ok (.aload_n 0, 1) := by decide +kernel
theorem dX11_drawn_49 : decode cX11_drawn 49 = .ok (.getfield 38, 3) := by decide +kernel
theorem dX11_drawn_52 : decode cX11_drawn 52 = .ok (.iload_n 1, 1) := by decide +kernel
theorem dX11_drawn_53 : decode cX11_drawn 53 = .ok (.iload_n 2, 1) := by decide +kernel
theorem dX11_drawn_54 : decode cX11_drawn 54 = .ok (.invokevirtual 378, 3) := by decide +kernel
theorem dX11_drawn_57 : decode cX11_drawn 57 = .ok (.istore_n 3, 1) := by decide +kernel
theorem dX11_drawn_58 : decode cX11_drawn 58 = .ok (.iload_n 3, 1) := by decide +kernel
theorem dX11_drawn_59 : decode cX11_drawn 59 = .ok (.ifCond .le 14, 3) := by decide +kernel
theorem dX11_drawn_62 : decode cX11_drawn 62 = .ok (.aload_n 0, 1) := by decide +kernel
theorem dX11_drawn_63 : decode cX11_drawn 63 = .ok (.getfield 51, 3) := by decide +kernel
theorem dX11_drawn_66 : decode cX11_drawn 66 = .ok (.aload_n 0, 1) := by decide +kernel
theorem dX11_drawn_67 : decode cX11_drawn 67 = .ok (.getfield 42, 3) := by decide +kernel
theorem dX11_drawn_70 : decode cX11_drawn 70 = .ok (.invokevirtual 258, 3) := by decide +kernel
theorem dX11_drawn_73 : decode cX11_drawn 73 = .ok (.iload_n 3, 1) := by decide +kernel
theorem dX11_drawn_74 : decode cX11_drawn 74 = .ok (.ireturn, 1) := by decide +kernel
set_option maxRecDepth 20000 in
theorem ggX11_odds_X9_hasMan : GoodIn wsX11_odds wsX9_hasMan := goodIn_r _ [9, 10, 185, 186, 187, 188, 189, 190, 191, 192, 193, 194, 195, 196, 197, 198] rfl (by decide +kernel)
set_option maxRecDepth 20000 in
theorem gX11_odds_X9_hasMan : GoodIn wsX11_odds (wsV RX11 174 RX9 yX9_hasMan wsX9_hasMan) := goodIn_app (goodIn_of _ (by decide +kernel)) ggX11_odds_X9_hasMan
set_option maxRecDepth 20000 in
theorem ggX11_odds_X2_copyFrom : GoodIn wsX11_odds wsX2_copyFrom := goodIn_r _ [15, 16, 17, 18, 19, 20, 21, 22, 23, 24, 25, 26, 199, 200, 201, 202, 203, 204, 205] rfl (by decide +kernel)
set_option maxRecDepth 20000 in
theorem gX11_odds_X2_copyFrom : GoodIn wsX11_odds (wsV RX11 248 RX2 yX2_copyFrom wsX2_copyFrom) := goodIn_app (goodIn_of _ (by decide +kernel)) ggX11_odds_X2_copyFrom
set_option maxRecDepth 20000 in
theorem ggX11_odds_X0_drawYears : GoodIn wsX11_odds wsX0_drawYears := goodIn_r _ [31, 32, 33, 34, 35, 30, 36, 37, 38, 39, 40, 41, 42, 43, 44, 45, 46, 47, 48, 49, 50, 51, 52, 53, 54, 8, 55, 56, 57, 58, 59, 60, 61, 62, 63, 64, 65, 66, 67, 68, 69, 70, 71, 72, 73, 74, 75, 76, 77, 78, 79, 80, 81, 82, 83, 84, 85, 86, 87, 88, 89, 90, 91, 92, 93, 94, 95, 96, 97, 98, 99, 100, 101, 102, 103, 104, 105, 106, 107, 108, 109, 110, 111, 112, 113, 114, 115, 116, 117, 118, 119, 120, 121, 122, 123, 124, 125, 126, 127, 128, 129, 130, 131, 132, 133, 134, 135, 136, 137, 138, 139, 140, 141, 142, 143, 144, 145, 146, 147, 148, 149, 150, 151, 152, 153, 154, 155, 156, 157, 158, 159, 160, 161, 162, 163, 164, 14, 165, 16, 17, 18, 25, 206, 207, 208, 199, 200, 201, 202, 203, 204, 205, 185, 186, 187, 188, 189, 190, 191, 192, 193, 194, 195, 196, 197, 198, 209, 210, 211, 212, 213, 214, 215, 216, 217] rfl (by decide +kernel)
set_option maxRecDepth 20000 in
theorem gX11_odds_X0_drawYears : GoodIn wsX11_odds (wsV RX11 378 RX0 yX0_drawYears wsX0_drawYears) := goodIn_app (goodIn_of _ (by decide +kernel)) ggX11_odds_X0_drawYears
theorem dX11_odds_0 : decode cX11_odds 0 = .ok (.aload_n 0, 1) := by decide +kernel
theorem dX11_odds_1 : decode cX11_odds 1 = .ok (.getfield 19, 3) := by decide +kernel
theorem dX11_odds_4 : decode cX11_odds 4 = .ok (.iload_n 1, 1) := by decide +kernel
theorem dX11_odds_5 : decode cX11_odds 5 = .ok (.invokevirtual 174, 3) := by decide +kernel
theorem dX11_odds_8 : decode cX11_odds 8 = .ok (.ifCond .eq 35, 3) := by decide +kernel
theorem dX11_odds_11 : decode cX11_odds 11 = .ok (.iload_n 2, 1) := by decide +kernel
theorem dX11_odds_12 : decode cX11_odds 12 = .ok (.ifCond .lt 31, 3) := by decide +kernel
theorem dX11_odds_15 : decode cX11_odds 15 = .ok (.iload_n 2, 1) := by decide +kernel
theorem dX11_odds_16 : decode cX11_odds 16 = .ok (.sipush 999, 3) := by decide +kernel
theorem dX11_odds_19 : decode cX11_odds 19 = .ok (.if_icmp .gt 24, 3) := by decide +kernel
theorem dX11_odds_22 : decode cX11_odds 22 = .ok (.iload_n 3, 1) := by decide +kernel
theorem dX11_odds_23 : decode cX11_odds 23 = .ok (.iconst 1, 1) := by decide +kernel
theorem dX11_odds_24 : decode cX11_odds 24 = .ok (.if_icmp .lt 19, 3) := by decide +kernel
theorem dX11_odds_27 : decode cX11_odds 27 = .ok (.iload_n 3, 1) := by decide +kernel
theorem dX11_odds_28 : decode cX11_odds 28 = .ok (.bipush 30, 2) := by decide +kernel
theorem dX11_odds_30 : decode cX11_odds 30 = .ok (.if_icmp .gt 13, 3) := by decide +kernel
theorem dX11_odds_33 : decode cX11_odds 33 = .ok (.aload_n 0, 1) := by decide +kernel
theorem dX11_odds_34 : decode cX11_odds 34 = .ok (.getfield 19, 3) := by decide +kernel
theorem dX11_odds_37 : decode cX11_odds 37 = .ok (.getfield 238, 3) := by decide +kernel
theorem dX11_odds_40 : decode cX11_odds 40 = .ok (.ifCond .ne 5, 3) := by decide +kernel
theorem dX11_odds_43 : decode cX11_odds 43 = .ok (.iconst (-1), 1) := by decide +kernel
theorem dX11_odds_44 : decode cX11_odds 44 = .ok (.ireturn, 1) := by decide +kernel
theorem dX11_odds_45 : decode cX11_odds 45 = .ok (.iconst 0, 1) := by decide +kernel
theorem dX11_odds_46 : decode cX11_odds 46 = .ok (.istore 5, 2) := by decide +kernel
theorem dX11_odds_48 : decode cX11_odds 48 = .ok (.iconst 0, 1) := by decide +kernel
theorem dX11_odds_49 : decode cX11_odds 49 = .ok (.istore 6, 2) := by decide +kernel
theorem dX11_odds_51 : decode cX11_odds 51 = .ok (.iload 6, 2) := by decide +kernel
theorem dX11_odds_53 : decode cX11_odds 53 = .ok (.iload_n 3, 1) := by decide +kernel
theorem dX11_odds_54 : decode cX11_odds 54 = .ok (.if_icmp .ge 64, 3) := by decide +kernel
theorem dX11_odds_57 : decode cX11_odds 57 = .ok (.aload_n 0, 1) := by decide +kernel
theorem dX11_odds_58 : decode cX11_odds 58 = .ok (.getfield 45, 3) := by decide +kernel
theorem dX11_odds_61 : decode cX11_odds 61 = .ok (.aload_n 0, 1) := by decide +kernel
theorem dX11_odds_62 : decode cX11_odds 62 = .ok (.getfield 38, 3) := by decide +kernel
theorem dX11_odds_65 : decode cX11_odds 65 = .ok (.invokevirtual 248, 3) := by decide +kernel
theorem dX11_odds_68 : decode cX11_odds 68 = .ok (.aload_n 0, 1) := by decide +kernel
theorem dX11_odds_69 : decode cX11_odds 69 = .ok (.getfield 69, 3) := by decide +kernel
theorem dX11_odds_72 : decode cX11_odds 72 = .ok (.aload_n 0, 1) := by decide +kernel
theorem dX11_odds_73 : decode cX11_odds 73 = .ok (.getfield 45, 3) := by decide +kernel
theorem dX11_odds_76 : decode cX11_odds 76 = .ok (.iconst 5, 1) := by decide +kernel
theorem dX11_odds_77 : decode cX11_odds 77 = .ok (.iload 4, 2) := by decide +kernel
theorem dX11_odds_79 : decode cX11_odds 79 = .ok (.iload 6, 2) := by decide +kernel
theorem dX11_odds_81 : decode cX11_odds 81 = .ok (.iadd, 1) := by decide +kernel
theorem dX11_odds_82 : decode cX11_odds 82 = .ok (.invokevirtual 378, 3) := by decide +kernel
theorem dX11_odds_85 : decode cX11_odds 85 = .ok (.pop, 1) := by decide +kernel
theorem dX11_odds_86 : decode cX11_odds 86 = .ok (.aload_n 0, 1) := by decide +kernel
theorem dX11_odds_87 : decode cX11_odds 87 = .ok (.getfield 45, 3) := by decide +kernel
theorem dX11_odds_90 : decode cX11_odds 90 = .ok (.getfield 195, 3) := by decide +kernel
theorem dX11_odds_93 : decode cX11_odds 93 = .ok (.iload_n 1, 1) := by decide +kernel
theorem dX11_odds_94 : decode cX11_odds 94 = .ok (.iaload, 1) := by decide +kernel
theorem dX11_odds_95 : decode cX11_odds 95 = .ok (.aload_n 0, 1) := by decide +kernel
theorem dX11_odds_96 : decode cX11_odds 96 = .ok (.getfield 38, 3) := by decide +kernel
theorem dX11_odds_99 : decode cX11_odds 99 = .ok (.getfield 195, 3) := by decide +kernel
theorem dX11_odds_102 : decode cX11_odds 102 = .ok (.iload_n 1, 1) := by decide +kernel
theorem dX11_odds_103 : decode cX11_odds 103 = .ok (.iaload, 1) := by decide +kernel
theorem dX11_odds_104 : decode cX11_odds 104 = .ok (.isub, 1) := by decide +kernel
theorem dX11_odds_105 : decode cX11_odds 105 = .ok (.iload_n 2, 1) := by decide +kernel
theorem dX11_odds_106 : decode cX11_odds 106 = .ok (.if_icmp .le 6, 3) := by decide +kernel
theorem dX11_odds_109 : decode cX11_odds 109 = .ok (.iinc 5 1, 3) := by decide +kernel
theorem dX11_odds_112 : decode cX11_odds 112 = .ok (.iinc 6 1, 3) := by decide +kernel
theorem dX11_odds_115 : decode cX11_odds 115 = .ok (.goto (-64), 3) := by decide +kernel
theorem dX11_odds_118 : decode cX11_odds 118 = .ok (.iload 5, 2) := by decide +kernel
theorem dX11_odds_120 : decode cX11_odds 120 = .ok (.ireturn, 1) := by decide +kernel
set_option maxRecDepth 20000 in
theorem ggX11_roll_X8_scan : GoodIn wsX11_roll wsX8_scan := goodIn_r _ [13, 14, 15, 16, 17, 18, 19, 20, 21, 22, 23, 24, 25, 12, 26, 27, 28, 29, 30, 31, 32, 33, 34, 35, 36, 37, 38, 39, 40, 41, 42, 43, 44, 45, 46, 47, 48, 49, 50, 51, 52, 53, 54, 55, 56, 57, 58, 59, 60, 61, 62, 63, 64, 65, 66, 67, 68, 69, 70, 71, 72, 73, 74, 75, 76, 77, 78, 79, 80, 81, 82, 83, 84, 85, 86, 87, 88, 89, 90, 91, 92, 93, 94, 95, 96, 97, 98, 99, 100, 101, 102, 103, 104, 105, 106, 107, 108, 109, 110, 111, 112, 113, 114, 115, 116, 117, 118, 119, 120, 121, 122, 384, 385, 386, 387, 388, 389, 390, 391, 392, 393, 394, 395, 396, 397, 398] rfl (by decide +kernel)
set_option maxRecDepth 20000 in
theorem gX11_roll_X8_scan : GoodIn wsX11_roll (wsV RX11 123 RX8 yX8_scan wsX8_scan) := goodIn_app (goodIn_of _ (by decide +kernel)) ggX11_roll_X8_scan
set_option maxRecDepth 20000 in
theorem ggX11_roll_X5_read : GoodIn wsX11_roll wsX5_read := goodIn_r _ [127, 128, 129, 130, 131, 132, 126, 133, 134, 135, 136, 137, 12, 138, 122, 139, 140, 141, 142, 143, 144, 145, 146, 147, 119, 148, 149, 150, 151, 14, 120, 15, 152, 153, 116, 117, 118, 22, 16, 105, 106, 107, 121, 108, 154, 155, 156, 157, 158, 159, 160, 161, 162, 115, 163, 164, 165, 166, 167, 168, 169, 170, 171, 172, 173, 174, 175, 176, 177, 399, 400, 401, 402, 403, 404, 405, 406, 384, 385, 386, 387, 388, 389, 390, 391, 392, 393, 394, 395, 396, 397, 398, 414, 415, 416, 417, 418, 419, 420, 421, 422, 423, 424, 425, 426, 427] rfl (by decide +kernel)
set_option maxRecDepth 20000 in
theorem gX11_roll_X5_read : GoodIn wsX11_roll (wsV RX11 381 RX5 yX5_read wsX5_read) := goodIn_app (goodIn_of _ (by decide +kernel)) ggX11_roll_X5_read
set_option maxRecDepth 20000 in
theorem ggX11_roll_X11_emptyTape : GoodIn wsX11_roll wsX11_emptyTape := goodIn_r _ [182, 1, 183, 365, 366, 367, 368, 369, 370, 371, 372, 373, 374, 375, 376, 377, 378, 379, 380, 381, 382, 383, 384, 385, 386, 387, 388, 389, 390, 391, 392, 393, 394, 395, 396, 397, 398] rfl (by decide +kernel)
set_option maxRecDepth 20000 in
theorem gX11_roll_X11_emptyTape : GoodIn wsX11_roll (wsV RX11 130 RX11 yX11_emptyTape wsX11_emptyTape) := goodIn_app (goodIn_of _ (by decide +kernel)) ggX11_roll_X11_emptyTape
set_option maxRecDepth 20000 in
theorem ggX11_roll_X2_copyFrom : GoodIn wsX11_roll wsX2_copyFrom := goodIn_r _ [188, 189, 190, 191, 192, 193, 194, 195, 196, 197, 198, 199, 407, 408, 409, 410, 411, 412, 413] rfl (by decide +kernel)
set_option maxRecDepth 20000 in
theorem gX11_roll_X2_copyFrom : GoodIn wsX11_roll (wsV RX11 248 RX2 yX2_copyFrom wsX2_copyFrom) := goodIn_app (goodIn_of _ (by decide +kernel)) ggX11_roll_X2_copyFrom
set_option maxRecDepth 20000 in
theorem ggX11_roll_X5_live : GoodIn wsX11_roll wsX5_live := goodIn_r _ [203, 204, 128, 167, 168, 169, 205, 206, 207, 126, 208, 134, 209, 210, 211, 212, 142, 213, 214, 215, 216, 217, 218, 219, 220, 221, 222, 223, 224, 19, 20, 21, 225, 226, 227, 228, 229, 230, 231, 232, 233, 234, 235, 236, 237, 238, 239, 240, 241, 242, 243, 244, 245, 246, 247, 248, 249, 250, 251, 252, 253, 254, 255, 256, 257, 258, 259, 260, 261, 262, 263, 264, 265, 266, 267, 268, 269, 270, 271, 272, 273, 274, 275, 276, 277, 278, 279, 280, 281, 282, 283, 284, 285, 286, 287, 288, 289, 290, 291, 292, 293, 294, 295, 296, 297, 298, 299, 300, 301, 302, 303, 304, 305, 306, 307, 308, 309, 310, 311, 312, 313, 314, 315, 316, 317, 318, 319, 320, 321, 322, 323, 324, 325, 326, 327, 328, 329, 330, 331, 332, 333, 334, 335, 336, 337, 338, 339, 340, 341, 342, 343, 344, 345, 346, 347, 348, 349, 350, 187, 351, 189, 190, 191, 198, 399, 400, 401, 402, 403, 404, 405, 406, 414, 415, 416, 417, 418, 419, 420, 421, 422, 423, 424, 425, 426, 427, 407, 408, 409, 410, 411, 412, 413, 428, 429, 430, 431, 432, 433, 434, 435, 436, 437, 438, 439] rfl (by decide +kernel)
set_option maxRecDepth 20000 in
theorem gX11_roll_X5_live : GoodIn wsX11_roll (wsV RX11 382 RX5 yX5_live wsX5_live) := goodIn_app (goodIn_of _ (by decide +kernel)) ggX11_roll_X5_live
set_option maxRecDepth 20000 in
theorem ggX11_roll_X2_allStores : GoodIn wsX11_roll wsX2_allStores := goodIn_r _ [355, 199, 407, 408, 409, 410, 411, 412, 413] rfl (by decide +kernel)
set_option maxRecDepth 20000 in
theorem gX11_roll_X2_allStores : GoodIn wsX11_roll (wsV RX11 232 RX2 yX2_allStores wsX2_allStores) := goodIn_app (goodIn_of _ (by decide +kernel)) ggX11_roll_X2_allStores
set_option maxRecDepth 20000 in
theorem ggX11_roll_X3_push : GoodIn wsX11_roll wsX3_push := goodIn_r _ [360, 361, 362, 363, 364, 185, 186, 187, 188, 189, 190, 191, 192, 193, 194, 195, 196, 197, 198, 199, 440, 441, 442, 407, 408, 409, 410, 411, 412, 413] rfl (by decide +kernel)
set_option maxRecDepth 20000 in
theorem gX11_roll_X3_push : GoodIn wsX11_roll (wsV RX11 258 RX3 yX3_push wsX3_push) := goodIn_app (goodIn_of _ (by decide +kernel)) ggX11_roll_X3_push
theorem dX11_roll_0 : decode cX11_roll 0 = .ok (.iload_n 1, 1) := by decide +kernel
theorem dX11_roll_1 : decode cX11_roll 1 = .ok (.ifCond .eq 12, 3) := by decide +kernel
theorem dX11_roll_4 : decode cX11_roll 4 = .ok (.iload_n 1, 1) := by decide +kernel
theorem dX11_roll_5 : decode cX11_roll 5 = .ok (.iconst 1, 1) := by decide +kernel
theorem dX11_roll_6 : decode cX11_roll 6 = .ok (.if_icmp .eq 7, 3) := by decide +kernel
theorem dX11_roll_9 : decode cX11_roll 9 = .ok (.sipush (-1000), 3) := by decide +kernel
theorem dX11_roll_12 : decode cX11_roll 12 = .ok (.ireturn, 1) := by decide +kernel
theorem dX11_roll_13 : decode cX11_roll 13 = .ok (.aload_n 0, 1) := by decide +kernel
theorem dX11_roll_14 : decode cX11_roll 14 = .ok (.getfield 10, 3) := by decide +kernel
theorem dX11_roll_17 : decode cX11_roll 17 = .ok (.sipush 400, 3) := by decide +kernel
theorem dX11_roll_20 : decode cX11_roll 20 = .ok (.invokevirtual 123, 3) := by decide +kernel
theorem dX11_roll_23 : decode cX11_roll 23 = .ok (.aload_n 0, 1) := by decide +kernel
theorem dX11_roll_24 : decode cX11_roll 24 = .ok (.getfield 97, 3) := by decide +kernel
theorem dX11_roll_27 : decode cX11_roll 27 = .ok (.invokevirtual 381, 3) := by decide +kernel
theorem dX11_roll_30 : decode cX11_roll 30 = .ok (.istore_n 2, 1) := by decide +kernel
theorem dX11_roll_31 : decode cX11_roll 31 = .ok (.aload_n 0, 1) := by decide +kernel
theorem dX11_roll_32 : decode cX11_roll 32 = .ok (.invokevirtual 130, 3) := by decide +kernel
theorem dX11_roll_35 : decode cX11_roll 35 = .ok (.iload_n 2, 1) := by decide +kernel
theorem dX11_roll_36 : decode cX11_roll 36 = .ok (.ifCond .ne 14, 3) := by decide +kernel
theorem dX11_roll_39 : decode cX11_roll 39 = .ok (.bipush (-2), 2) := by decide +kernel
theorem dX11_roll_41 : decode cX11_roll 41 = .ok (.aload_n 0, 1) := by decide +kernel
theorem dX11_roll_42 : decode cX11_roll 42 = .ok (.getfield 10, 3) := by decide +kernel
theorem dX11_roll_45 : decode cX11_roll 45 = .ok (.getfield 133, 3) := by decide +kernel
theorem dX11_roll_48 : decode cX11_roll 48 = .ok (.isub, 1) := by decide +kernel
theorem dX11_roll_49 : decode cX11_roll 49 = .ok (.ireturn, 1) := by decide +kernel
theorem dX11_roll_50 : decode cX11_roll 50 = .ok (.aload_n 0, 1) := by decide +kernel
theorem dX11_roll_51 : decode cX11_roll 51 = .ok (.getfield 45, 3) := by decide +kernel
theorem dX11_roll_54 : decode cX11_roll 54 = .ok (.aload_n 0, 1) := by decide +kernel
theorem dX11_roll_55 : decode cX11_roll 55 = .ok (.getfield 38, 3) := by decide +kernel
theorem dX11_roll_58 : decode cX11_roll 58 = .ok (.invokevirtual 248, 3) := by decide +kernel
theorem dX11_roll_61 : decode cX11_roll 61 = .ok (.aload_n 0, 1) := by decide +kernel
theorem dX11_roll_62 : decode cX11_roll 62 = .ok (.getfield 97, 3) := by decide +kernel
theorem dX11_roll_65 : decode cX11_roll 65 = .ok (.aload_n 0, 1) := by decide +kernel
theorem dX11_roll_66 : decode cX11_roll 66 = .ok (.getfield 45, 3) := by decide +kernel
theorem dX11_roll_69 : decode cX11_roll 69 = .ok (.invokevirtual 382, 3) := by decide +kernel
theorem dX11_roll_72 : decode cX11_roll 72 = .ok (.istore_n 3, 1) := by decide +kernel
theorem dX11_roll_73 : decode cX11_roll 73 = .ok (.aload_n 0, 1) := by decide +kernel
theorem dX11_roll_74 : decode cX11_roll 74 = .ok (.getfield 112, 3) := by decide +kernel
theorem dX11_roll_77 : decode cX11_roll 77 = .ok (.iconst 0, 1) := by decide +kernel
theorem dX11_roll_78 : decode cX11_roll 78 = .ok (.aload_n 0, 1) := by decide +kernel
theorem dX11_roll_79 : decode cX11_roll 79 = .ok (.getfield 97, 3) := by decide +kernel
theorem dX11_roll_82 : decode cX11_roll 82 = .ok (.getfield 385, 3) := by decide +kernel
theorem dX11_roll_85 : decode cX11_roll 85 = .ok (.iastore, 1) := by decide +kernel
theorem dX11_roll_86 : decode cX11_roll 86 = .ok (.aload_n 0, 1) := by decide +kernel
theorem dX11_roll_87 : decode cX11_roll 87 = .ok (.getfield 112, 3) := by decide +kernel
theorem dX11_roll_90 : decode cX11_roll 90 = .ok (.iconst 1, 1) := by decide +kernel
theorem dX11_roll_91 : decode cX11_roll 91 = .ok (.iload_n 3, 1) := by decide +kernel
theorem dX11_roll_92 : decode cX11_roll 92 = .ok (.iconst (-1), 1) := by decide +kernel
theorem dX11_roll_93 : decode cX11_roll 93 = .ok (.if_icmp .ne 13, 3) := by decide +kernel
theorem dX11_roll_96 : decode cX11_roll 96 = .ok (.aload_n 0, 1) := by decide +kernel
theorem dX11_roll_97 : decode cX11_roll 97 = .ok (.getfield 97, 3) := by decide +kernel
theorem dX11_roll_100 : decode cX11_roll 100 = .ok (.getfield 388, 3) := by decide +kernel
theorem dX11_roll_103 : decode cX11_roll 103 = .ok (.goto 4, 3) := by decide +kernel
theorem dX11_roll_106 : decode cX11_roll 106 = .ok (.iload_n 3, 1) := by decide +kernel
theorem dX11_roll_107 : decode cX11_roll 107 = .ok (.iastore, 1) := by decide +kernel
theorem dX11_roll_108 : decode cX11_roll 108 = .ok (.aload_n 0, 1) := by decide +kernel
theorem dX11_roll_109 : decode cX11_roll 109 = .ok (.getfield 112, 3) := by decide +kernel
theorem dX11_roll_112 : decode cX11_roll 112 = .ok (.iconst 2, 1) := by decide +kernel
theorem dX11_roll_113 : decode cX11_roll 113 = .ok (.aload_n 0, 1) := by decide +kernel
theorem dX11_roll_114 : decode cX11_roll 114 = .ok (.getfield 45, 3) := by decide +kernel
theorem dX11_roll_117 : decode cX11_roll 117 = .ok (.getfield 214, 3) := by decide +kernel
theorem dX11_roll_120 : decode cX11_roll 120 = .ok (.iastore, 1) := by decide +kernel
theorem dX11_roll_121 : decode cX11_roll 121 = .ok (.aload_n 0, 1) := by decide +kernel
theorem dX11_roll_122 : decode cX11_roll 122 = .ok (.getfield 112, 3) := by decide +kernel
theorem dX11_roll_125 : decode cX11_roll 125 = .ok (.iconst 3, 1) := by decide +kernel
theorem dX11_roll_126 : decode cX11_roll 126 = .ok (.aload_n 0, 1) := by decide +kernel
theorem dX11_roll_127 : decode cX11_roll 127 = .ok (.getfield 45, 3) := by decide +kernel
theorem dX11_roll_130 : decode cX11_roll 130 = .ok (.aload_n 0, 1) := by decide +kernel
theorem dX11_roll_131 : decode cX11_roll 131 = .ok (.getfield 19, 3) := by decide +kernel
theorem dX11_roll_134 : decode cX11_roll 134 = .ok (.getfield 167, 3) := by decide +kernel
theorem dX11_roll_137 : decode cX11_roll 137 = .ok (.invokevirtual 232, 3) := by decide +kernel
theorem dX11_roll_140 : decode cX11_roll 140 = .ok (.aload_n 0, 1) := by decide +kernel
theorem dX11_roll_141 : decode cX11_roll 141 = .ok (.getfield 38, 3) := by decide +kernel
theorem dX11_roll_144 : decode cX11_roll 144 = .ok (.aload_n 0, 1) := by decide +kernel
theorem dX11_roll_145 : decode cX11_roll 145 = .ok (.getfield 19, 3) := by decide +kernel
theorem dX11_roll_148 : decode cX11_roll 148 = .ok (.getfield 167, 3) := by decide +kernel
theorem dX11_roll_151 : decode cX11_roll 151 = .ok (.invokevirtual 232, 3) := by decide +kernel
theorem dX11_roll_154 : decode cX11_roll 154 = .ok (.isub, 1) := by decide +kernel
theorem dX11_roll_155 : decode cX11_roll 155 = .ok (.iastore, 1) := by decide +kernel
theorem dX11_roll_156 : decode cX11_roll 156 = .ok (.aload_n 0, 1) := by decide +kernel
theorem dX11_roll_157 : decode cX11_roll 157 = .ok (.iconst 1, 1) := by decide +kernel
theorem dX11_roll_158 : decode cX11_roll 158 = .ok (.putfield 389, 3) := by decide +kernel
theorem dX11_roll_161 : decode cX11_roll 161 = .ok (.iload_n 1, 1) := by decide +kernel
theorem dX11_roll_162 : decode cX11_roll 162 = .ok (.iconst 1, 1) := by decide +kernel
theorem dX11_roll_163 : decode cX11_roll 163 = .ok (.if_icmp .ne 25, 3) := by decide +kernel
theorem dX11_roll_166 : decode cX11_roll 166 = .ok (.aload_n 0, 1) := by decide +kernel
theorem dX11_roll_167 : decode cX11_roll 167 = .ok (.getfield 51, 3) := by decide +kernel
theorem dX11_roll_170 : decode cX11_roll 170 = .ok (.aload_n 0, 1) := by decide +kernel
theorem dX11_roll_171 : decode cX11_roll 171 = .ok (.getfield 38, 3) := by decide +kernel
theorem dX11_roll_174 : decode cX11_roll 174 = .ok (.invokevirtual 258, 3) := by decide +kernel
theorem dX11_roll_177 : decode cX11_roll 177 = .ok (.aload_n 0, 1) := by decide +kernel
theorem dX11_roll_178 : decode cX11_roll 178 = .ok (.getfield 38, 3) := by decide +kernel
theorem dX11_roll_181 : decode cX11_roll 181 = .ok (.aload_n 0, 1) := by decide +kernel
theorem dX11_roll_182 : decode cX11_roll 182 = .ok (.getfield 45, 3) := by decide +kernel
theorem dX11_roll_185 : decode cX11_roll 185 = .ok (.invokevirtual 248, 3) := by decide +kernel
theorem dX11_roll_188 : decode cX11_roll 188 = .ok (.iload_n 3, 1) := by decide +kernel
theorem dX11_roll_189 : decode cX11_roll 189 = .ok (.ireturn, 1) := by decide +kernel
theorem dX11_rolled_0 : decode cX11_rolled 0 = .ok (.aload_n 0, 1) := by decide +kernel
theorem dX11_rolled_1 : decode cX11_rolled 1 = .ok (.getfield 389, 3) := by decide +kernel
theorem dX11_rolled_4 : decode cX11_rolled 4 = .ok (.ifCond .eq 16, 3) := by decide +kernel
theorem dX11_rolled_7 : decode cX11_rolled 7 = .ok (.iload_n 1, 1) := by decide +kernel
theorem dX11_rolled_8 : decode cX11_rolled 8 = .ok (.ifCond .lt 12, 3) := by decide +kernel
theorem dX11_rolled_11 : decode cX11_rolled 11 = .ok (.iload_n 1, 1) := by decide +kernel
theorem dX11_rolled_12 : decode cX11_rolled 12 = .ok (.aload_n 0, 1) := by decide +kernel
theorem dX11_rolled_13 : decode cX11_rolled 13 = .ok (.getfield 112, 3) := by decide +kernel
theorem dX11_rolled_16 : decode cX11_rolled 16 = .ok (.arraylength, 1) := by decide +kernel
theorem dX11_rolled_17 : decode cX11_rolled 17 = .ok (.if_icmp .lt 5, 3) := by decide +kernel
theorem dX11_rolled_20 : decode cX11_rolled 20 = .ok (.iconst (-1), 1) := by decide +kernel
theorem dX11_rolled_21 : decode cX11_rolled 21 = .ok (.ireturn, 1) := by decide +kernel
theorem dX11_rolled_22 : decode cX11_rolled 22 = .ok (.aload_n 0, 1) := by decide +kernel
theorem dX11_rolled_23 : decode cX11_rolled 23 = .ok (.getfield 112, 3) := by decide +kernel
theorem dX11_rolled_26 : decode cX11_rolled 26 = .ok (.iload_n 1, 1) := by decide +kernel
theorem dX11_rolled_27 : decode cX11_rolled 27 = .ok (.iaload, 1) := by decide +kernel
theorem dX11_rolled_28 : decode cX11_rolled 28 = .ok (.ireturn, 1) := by decide +kernel
set_option maxRecDepth 20000 in
theorem ggX11_sentence_X8_scan : GoodIn wsX11_sentence wsX8_scan := goodIn_r _ [9, 10, 11, 12, 13, 14, 15, 16, 17, 18, 19, 20, 21, 8, 22, 23, 24, 25, 26, 27, 28, 29, 30, 31, 32, 33, 34, 35, 36, 37, 38, 39, 40, 41, 42, 43, 44, 45, 46, 47, 48, 49, 50, 51, 52, 53, 54, 55, 56, 57, 58, 59, 60, 61, 62, 63, 64, 65, 66, 67, 68, 69, 70, 71, 72, 73, 74, 75, 76, 77, 78, 79, 80, 81, 82, 83, 84, 85, 86, 87, 88, 89, 90, 91, 92, 93, 94, 95, 96, 97, 98, 99, 100, 101, 102, 103, 104, 105, 106, 107, 108, 109, 110, 111, 112, 113, 114, 115, 116, 117, 118, 226, 227, 228, 229, 230, 231, 232, 233, 234, 235, 236, 237, 238, 239, 240] rfl (by decide +kernel)
set_option maxRecDepth 20000 in
theorem gX11_sentence_X8_scan : GoodIn wsX11_sentence (wsV RX11 123 RX8 yX8_scan wsX8_scan) := goodIn_app (goodIn_of _ (by decide +kernel)) ggX11_sentence_X8_scan
set_option maxRecDepth 20000 in
theorem ggX11_sentence_X7_read : GoodIn wsX11_sentence wsX7_read := goodIn_r _ [123, 124, 125, 126, 127, 128, 129, 130, 131, 132, 133, 134, 135, 136, 122, 137, 138, 139, 140, 141, 112, 113, 8, 114, 18, 12, 101, 115, 102, 116, 103, 117, 104, 118, 142, 143, 144, 145, 146, 147, 148, 149, 150, 151, 152, 153, 154, 155, 156, 157, 158, 159, 160, 10, 11, 161, 162, 163, 164, 165, 111, 166, 167, 168, 169, 170, 171, 172, 173, 174, 175, 176, 177, 178, 179, 180, 181, 182, 183, 184, 185, 186, 187, 188, 189, 190, 191, 192, 248, 249, 250, 226, 227, 228, 229, 230, 231, 232, 233, 234, 235, 236, 237, 238, 239, 240, 241, 242, 243, 244, 245, 246, 247, 251, 252, 253, 254, 255, 256, 257, 258, 259, 260, 261, 262, 263, 264] rfl (by decide +kernel)
set_option maxRecDepth 20000 in
theorem gX11_sentence_X7_read : GoodIn wsX11_sentence (wsV RX11 393 RX7 yX7_read wsX7_read) := goodIn_app (goodIn_of _ (by decide +kernel)) ggX11_sentence_X7_read
set_option maxRecDepth 20000 in
theorem ggX11_sentence_X11_emptyTape : GoodIn wsX11_sentence wsX11_emptyTape := goodIn_r _ [197, 1, 198, 207, 208, 209, 210, 211, 212, 213, 214, 215, 216, 217, 218, 219, 220, 221, 222, 223, 224, 225, 226, 227, 228, 229, 230, 231, 232, 233, 234, 235, 236, 237, 238, 239, 240] rfl (by decide +kernel)
set_option maxRecDepth 20000 in
theorem gX11_sentence_X11_emptyTape : GoodIn wsX11_sentence (wsV RX11 130 RX11 yX11_emptyTape wsX11_emptyTape) := goodIn_app (goodIn_of _ (by decide +kernel)) ggX11_sentence_X11_emptyTape
set_option maxRecDepth 20000 in
theorem ggX11_sentence_X6_copyFrom : GoodIn wsX11_sentence wsX6_copyFrom := goodIn_r _ [202, 131, 132, 133, 146, 203, 204, 205, 206, 147, 148, 241, 242, 243, 244, 245, 246, 247] rfl (by decide +kernel)
set_option maxRecDepth 20000 in
theorem gX11_sentence_X6_copyFrom : GoodIn wsX11_sentence (wsV RX11 394 RX6 yX6_copyFrom wsX6_copyFrom) := goodIn_app (goodIn_of _ (by decide +kernel)) ggX11_sentence_X6_copyFrom
theorem dX11_sentence_0 : decode cX11_sentence 0 = .ok (.aload_n 0, 1) := by decide +kernel
theorem dX11_sentence_1 : decode cX11_sentence 1 = .ok (.getfield 10, 3) := by decide +kernel
theorem dX11_sentence_4 : decode cX11_sentence 4 = .ok (.sipush 200, 3) := by decide +kernel
theorem dX11_sentence_7 : decode cX11_sentence 7 = .ok (.invokevirtual 123, 3) := by decide +kernel
theorem dX11_sentence_10 : decode cX11_sentence 10 = .ok (.aload_n 0, 1) := by decide +kernel
theorem dX11_sentence_11 : decode cX11_sentence 11 = .ok (.getfield 88, 3) := by decide +kernel
theorem dX11_sentence_14 : decode cX11_sentence 14 = .ok (.invokevirtual 393, 3) := by decide +kernel
theorem dX11_sentence_17 : decode cX11_sentence 17 = .ok (.istore_n 1, 1) := by decide +kernel
theorem dX11_sentence_18 : decode cX11_sentence 18 = .ok (.aload_n 0, 1) := by decide +kernel
theorem dX11_sentence_19 : decode cX11_sentence 19 = .ok (.invokevirtual 130, 3) := by decide +kernel
theorem dX11_sentence_22 : decode cX11_sentence 22 = .ok (.iload_n 1, 1) := by decide +kernel
theorem dX11_sentence_23 : decode cX11_sentence 23 = .ok (.ifCond .ne 13, 3) := by decide +kernel
theorem dX11_sentence_26 : decode cX11_sentence 26 = .ok (.iconst (-1), 1) := by decide +kernel
theorem dX11_sentence_27 : decode cX11_sentence 27 = .ok (.aload_n 0, 1) := by decide +kernel
theorem dX11_sentence_28 : decode cX11_sentence 28 = .ok (.getfield 10, 3) := by decide +kernel
theorem dX11_sentence_31 : decode cX11_sentence 31 = .ok (.getfield 133, 3) := by decide +kernel
theorem dX11_sentence_34 : decode cX11_sentence 34 = .ok (.isub, 1) := by decide +kernel
theorem dX11_sentence_35 : decode cX11_sentence 35 = .ok (.ireturn, 1) := by decide +kernel
theorem dX11_sentence_36 : decode cX11_sentence 36 = .ok (.aload_n 0, 1) := by decide +kernel
theorem dX11_sentence_37 : decode cX11_sentence 37 = .ok (.getfield 76, 3) := by decide +kernel
theorem dX11_sentence_40 : decode cX11_sentence 40 = .ok (.aload_n 0, 1) := by decide +kernel
theorem dX11_sentence_41 : decode cX11_sentence 41 = .ok (.getfield 80, 3) := by decide +kernel
theorem dX11_sentence_44 : decode cX11_sentence 44 = .ok (.invokevirtual 394, 3) := by decide +kernel
theorem dX11_sentence_47 : decode cX11_sentence 47 = .ok (.aload_n 0, 1) := by decide +kernel
theorem dX11_sentence_48 : decode cX11_sentence 48 = .ok (.getfield 76, 3) := by decide +kernel
theorem dX11_sentence_51 : decode cX11_sentence 51 = .ok (.getfield 397, 3) := by decide +kernel
theorem dX11_sentence_54 : decode cX11_sentence 54 = .ok (.ireturn, 1) := by decide +kernel
set_option maxRecDepth 20000 in
theorem ggX11_said_X6_menOfWhom : GoodIn wsX11_said wsX6_menOfWhom := goodIn_r _ [9, 10, 11, 12, 13, 14, 15, 16, 17, 18, 19, 20, 21, 8, 22, 23, 24, 25, 26, 27, 28, 29, 30, 31, 32, 33, 34, 35, 36, 37, 38, 39, 40, 41, 42, 43, 44, 45, 46, 47, 48, 49, 50, 51, 52, 53, 54, 55, 56, 57, 58, 59, 60, 61, 62, 63, 64, 65, 66, 67, 68, 69, 70, 71, 72, 73, 74, 75, 76, 77, 78, 79, 80, 81, 82, 83, 84, 85, 86, 87, 88, 89, 90, 91, 92, 93, 94, 95, 96, 97, 98, 99, 100, 101, 102, 103, 104, 105, 106, 107, 108, 109, 110, 111, 112, 113, 114, 115, 116, 117, 118, 119, 120, 121, 122, 123, 124, 125, 126, 127, 154, 155, 156, 157, 158, 159, 160, 161, 162, 163, 164, 165, 166, 167, 168, 169, 170, 171, 172, 173, 174, 175, 176, 177, 178, 179, 180, 181, 182, 183, 184, 185, 186, 187, 188, 189, 190, 191, 192, 193] rfl (by decide +kernel)
set_option maxRecDepth 20000 in
theorem gX11_said_X6_menOfWhom : GoodIn wsX11_said (wsV RX11 403 RX6 yX6_menOfWhom wsX6_menOfWhom) := goodIn_app (goodIn_of _ (by decide +kernel)) ggX11_said_X6_menOfWhom
set_option maxRecDepth 20000 in
theorem ggX11_said_J6_bitCount_0f7a4 : GoodIn wsX11_said wsJ6_bitCount_0f7a4 := goodIn_r _ [131, 132, 133, 134] rfl (by decide +kernel)
set_option maxRecDepth 20000 in
theorem gX11_said_J6_bitCount_0f7a4 : GoodIn wsX11_said (va_wsS RX11 366 yJ6_bitCount_0f7a4 wsJ6_bitCount_0f7a4) := goodIn_app (goodIn_of _ (by decide +kernel)) ggX11_said_J6_bitCount_0f7a4
theorem dX11_said_0 : decode cX11_said 0 = .ok (.aload_n 0, 1) := by decide +kernel
theorem dX11_said_1 : decode cX11_said 1 = .ok (.getfield 76, 3) := by decide +kernel
theorem dX11_said_4 : decode cX11_said 4 = .ok (.getfield 400, 3) := by decide +kernel
theorem dX11_said_7 : decode cX11_said 7 = .ok (.ifCond .eq 8, 3) := by decide +kernel
theorem dX11_said_10 : decode cX11_said 10 = .ok (.iload_n 1, 1) := by decide +kernel
theorem dX11_said_11 : decode cX11_said 11 = .ok (.iconst (-1), 1) := by decide +kernel
theorem dX11_said_12 : decode cX11_said 12 = .ok (.if_icmp .ge 5, 3) := by decide +kernel
theorem dX11_said_15 : decode cX11_said 15 = .ok (.iconst (-1), 1) := by decide +kernel
theorem dX11_said_16 : decode cX11_said 16 = .ok (.ireturn, 1) := by decide +kernel
theorem dX11_said_17 : decode cX11_said 17 = .ok (.aload_n 0, 1) := by decide +kernel
theorem dX11_said_18 : decode cX11_said 18 = .ok (.getfield 76, 3) := by decide +kernel
theorem dX11_said_21 : decode cX11_said 21 = .ok (.aload_n 0, 1) := by decide +kernel
theorem dX11_said_22 : decode cX11_said 22 = .ok (.getfield 19, 3) := by decide +kernel
theorem dX11_said_25 : decode cX11_said 25 = .ok (.aload_n 0, 1) := by decide +kernel
theorem dX11_said_26 : decode cX11_said 26 = .ok (.getfield 38, 3) := by decide +kernel
theorem dX11_said_29 : decode cX11_said 29 = .ok (.aload_n 0, 1) := by decide +kernel
theorem dX11_said_30 : decode cX11_said 30 = .ok (.getfield 69, 3) := by decide +kernel
theorem dX11_said_33 : decode cX11_said 33 = .ok (.invokevirtual 403, 3) := by decide +kernel
theorem dX11_said_36 : decode cX11_said 36 = .ok (.istore_n 2, 1) := by decide +kernel
theorem dX11_said_37 : decode cX11_said 37 = .ok (.iload_n 1, 1) := by decide +kernel
theorem dX11_said_38 : decode cX11_said 38 = .ok (.iconst (-1), 1) := by decide +kernel
theorem dX11_said_39 : decode cX11_said 39 = .ok (.if_icmp .ne 8, 3) := by decide +kernel
theorem dX11_said_42 : decode cX11_said 42 = .ok (.iload_n 2, 1) := by decide +kernel
theorem dX11_said_43 : decode cX11_said 43 = .ok (.invokestatic 366, 3) := by decide +kernel
theorem dX11_said_46 : decode cX11_said 46 = .ok (.ireturn, 1) := by decide +kernel
theorem dX11_said_47 : decode cX11_said 47 = .ok (.iconst 0, 1) := by decide +kernel
theorem dX11_said_48 : decode cX11_said 48 = .ok (.istore_n 3, 1) := by decide +kernel
theorem dX11_said_49 : decode cX11_said 49 = .ok (.iconst 0, 1) := by decide +kernel
theorem dX11_said_50 : decode cX11_said 50 = .ok (.istore 4, 2) := by decide +kernel
theorem dX11_said_52 : decode cX11_said 52 = .ok (.iload 4, 2) := by decide +kernel
theorem dX11_said_54 : decode cX11_said 54 = .ok (.aload_n 0, 1) := by decide +kernel
theorem dX11_said_55 : decode cX11_said 55 = .ok (.getfield 19, 3) := by decide +kernel
theorem dX11_said_58 : decode cX11_said 58 = .ok (.getfield 167, 3) := by decide +kernel
theorem dX11_said_61 : decode cX11_said 61 = .ok (.if_icmp .ge 30, 3) := by decide +kernel
theorem dX11_said_64 : decode cX11_said 64 = .ok (.iload_n 2, 1) := by decide +kernel
theorem dX11_said_65 : decode cX11_said 65 = .ok (.iload 4, 2) := by decide +kernel
theorem dX11_said_67 : decode cX11_said 67 = .ok (.ishr, 1) := by decide +kernel
theorem dX11_said_68 : decode cX11_said 68 = .ok (.iconst 1, 1) := by decide +kernel
theorem dX11_said_69 : decode cX11_said 69 = .ok (.iand, 1) := by decide +kernel
theorem dX11_said_70 : decode cX11_said 70 = .ok (.iconst 1, 1) := by decide +kernel
theorem dX11_said_71 : decode cX11_said 71 = .ok (.if_icmp .ne 14, 3) := by decide +kernel
theorem dX11_said_74 : decode cX11_said 74 = .ok (.iload_n 3, 1) := by decide +kernel
theorem dX11_said_75 : decode cX11_said 75 = .ok (.iload_n 1, 1) := by decide +kernel
theorem dX11_said_76 : decode cX11_said 76 = .ok (.if_icmp .ne 6, 3) := by decide +kernel
theorem dX11_said_79 : decode cX11_said 79 = .ok (.iload 4, 2) := by decide +kernel
theorem dX11_said_81 : decode cX11_said 81 = .ok (.ireturn, 1) := by decide +kernel
theorem dX11_said_82 : decode cX11_said 82 = .ok (.iinc 3 1, 3) := by decide +kernel
theorem dX11_said_85 : decode cX11_said 85 = .ok (.iinc 4 1, 3) := by decide +kernel
theorem dX11_said_88 : decode cX11_said 88 = .ok (.goto (-36), 3) := by decide +kernel
theorem dX11_said_91 : decode cX11_said 91 = .ok (.iconst (-1), 1) := by decide +kernel
theorem dX11_said_92 : decode cX11_said 92 = .ok (.ireturn, 1) := by decide +kernel
set_option maxRecDepth 20000 in
theorem ggX11_image_X4_keep : GoodIn wsX11_image wsX4_keep := goodIn_r _ [9, 10, 11, 12, 13, 14, 15, 16, 17, 18, 19, 20, 21, 22, 23, 24, 25, 26, 27, 28, 29, 30, 31, 32, 33, 34, 35, 36, 37, 38, 39, 40, 41, 42, 43, 44, 45, 46, 47, 48, 49, 50, 51, 52, 53, 54, 55, 56, 57, 58, 59, 60, 61, 62, 63, 64, 65, 66, 67, 68, 88, 89, 90, 91, 92, 93, 94, 95, 96, 97, 98, 99, 100, 101, 102, 103, 104, 105, 106, 107, 108, 109, 110, 111, 112, 113, 114, 115, 116, 117, 118, 119] rfl (by decide +kernel)
set_option maxRecDepth 20000 in
theorem gX11_image_X4_keep : GoodIn wsX11_image (wsV RX11 407 RX4 yX4_keep wsX4_keep) := goodIn_app (goodIn_of _ (by decide +kernel)) ggX11_image_X4_keep
theorem dX11_image_0 : decode cX11_image 0 = .ok (.iload_n 1, 1) := by decide +kernel
theorem dX11_image_1 : decode cX11_image 1 = .ok (.ifCond .lt 8, 3) := by decide +kernel
theorem dX11_image_4 : decode cX11_image 4 = .ok (.iload_n 1, 1) := by decide +kernel
theorem dX11_image_5 : decode cX11_image 5 = .ok (.iconst 2, 1) := by decide +kernel
theorem dX11_image_6 : decode cX11_image 6 = .ok (.if_icmp .lt 5, 3) := by decide +kernel
theorem dX11_image_9 : decode cX11_image 9 = .ok (.iconst 0, 1) := by decide +kernel
theorem dX11_image_10 : decode cX11_image 10 = .ok (.ireturn, 1) := by decide +kernel
theorem dX11_image_11 : decode cX11_image 11 = .ok (.aload_n 0, 1) := by decide +kernel
theorem dX11_image_12 : decode cX11_image 12 = .ok (.getfield 103, 3) := by decide +kernel
theorem dX11_image_15 : decode cX11_image 15 = .ok (.iload_n 1, 1) := by decide +kernel
theorem dX11_image_16 : decode cX11_image 16 = .ok (.aaload, 1) := by decide +kernel
theorem dX11_image_17 : decode cX11_image 17 = .ok (.aload_n 0, 1) := by decide +kernel
theorem dX11_image_18 : decode cX11_image 18 = .ok (.getfield 19, 3) := by decide +kernel
theorem dX11_image_21 : decode cX11_image 21 = .ok (.aload_n 0, 1) := by decide +kernel
theorem dX11_image_22 : decode cX11_image 22 = .ok (.getfield 38, 3) := by decide +kernel
theorem dX11_image_25 : decode cX11_image 25 = .ok (.aload_n 0, 1) := by decide +kernel
theorem dX11_image_26 : decode cX11_image 26 = .ok (.getfield 76, 3) := by decide +kernel
theorem dX11_image_29 : decode cX11_image 29 = .ok (.invokevirtual 407, 3) := by decide +kernel
theorem dX11_image_32 : decode cX11_image 32 = .ok (.iconst 1, 1) := by decide +kernel
theorem dX11_image_33 : decode cX11_image 33 = .ok (.ireturn, 1) := by decide +kernel
set_option maxRecDepth 20000 in
theorem ggX11_restore_X4_giveBack : GoodIn wsX11_restore wsX4_giveBack := goodIn_r _ [10, 11, 12, 13, 14, 15, 16, 17, 18, 19, 20, 21, 22, 23, 24, 25, 26, 27, 28, 29, 30, 31, 32, 33, 34, 35, 36, 37, 38, 39, 40, 41, 42, 43, 44, 45, 46, 47, 48, 49, 50, 51, 52, 53, 54, 55, 56, 57, 58, 59, 60, 61, 62, 63, 64, 65, 66, 67, 68, 94, 95, 96, 97, 98, 99, 100, 101, 102, 103, 104, 105, 106, 107, 108, 109, 110, 111, 112, 113, 114, 115, 116, 117, 118, 119, 120, 121, 122, 123, 124, 125] rfl (by decide +kernel)
set_option maxRecDepth 20000 in
theorem gX11_restore_X4_giveBack : GoodIn wsX11_restore (wsV RX11 414 RX4 yX4_giveBack wsX4_giveBack) := goodIn_app (goodIn_of _ (by decide +kernel)) ggX11_restore_X4_giveBack
set_option maxRecDepth 20000 in
theorem ggX11_restore_X3_clear : GoodIn wsX11_restore wsX3_clear := goodIn_r _ [73, 74, 126, 127, 128] rfl (by decide +kernel)
set_option maxRecDepth 20000 in
theorem gX11_restore_X3_clear : GoodIn wsX11_restore (wsV RX11 145 RX3 yX3_clear wsX3_clear) := goodIn_app (goodIn_of _ (by decide +kernel)) ggX11_restore_X3_clear
theorem dX11_restore_0 : decode cX11_restore 0 = .ok (.iload_n 1, 1) := by decide +kernel
theorem dX11_restore_1 : decode cX11_restore 1 = .ok (.ifCond .lt 20, 3) := by decide +kernel
theorem dX11_restore_4 : decode cX11_restore 4 = .ok (.iload_n 1, 1) := by decide +kernel
theorem dX11_restore_5 : decode cX11_restore 5 = .ok (.iconst 2, 1) := by decide +kernel
theorem dX11_restore_6 : decode cX11_restore 6 = .ok (.if_icmp .ge 15, 3) := by decide +kernel
theorem dX11_restore_9 : decode cX11_restore 9 = .ok (.aload_n 0, 1) := by decide +kernel
theorem dX11_restore_10 : decode cX11_restore 10 = .ok (.getfield 103, 3) := by decide +kernel
theorem dX11_restore_13 : decode cX11_restore 13 = .ok (.iload_n 1, 1) := by decide +kernel
theorem dX11_restore_14 : decode cX11_restore 14 = .ok (.aaload, 1) := by decide +kernel
theorem dX11_restore_15 : decode cX11_restore 15 = .ok (.getfield 411, 3) := by decide +kernel
theorem dX11_restore_18 : decode cX11_restore 18 = .ok (.ifCond .ne 5, 3) := by decide +kernel
theorem dX11_restore_21 : decode cX11_restore 21 = .ok (.iconst 0, 1) := by decide +kernel
theorem dX11_restore_22 : decode cX11_restore 22 = .ok (.ireturn, 1) := by decide +kernel
theorem dX11_restore_23 : decode cX11_restore 23 = .ok (.aload_n 0, 1) := by decide +kernel
theorem dX11_restore_24 : decode cX11_restore 24 = .ok (.getfield 103, 3) := by decide +kernel
theorem dX11_restore_27 : decode cX11_restore 27 = .ok (.iload_n 1, 1) := by decide +kernel
theorem dX11_restore_28 : decode cX11_restore 28 = .ok (.aaload, 1) := by decide +kernel
theorem dX11_restore_29 : decode cX11_restore 29 = .ok (.aload_n 0, 1) := by decide +kernel
theorem dX11_restore_30 : decode cX11_restore 30 = .ok (.getfield 19, 3) := by decide +kernel
theorem dX11_restore_33 : decode cX11_restore 33 = .ok (.aload_n 0, 1) := by decide +kernel
theorem dX11_restore_34 : decode cX11_restore 34 = .ok (.getfield 38, 3) := by decide +kernel
theorem dX11_restore_37 : decode cX11_restore 37 = .ok (.aload_n 0, 1) := by decide +kernel
theorem dX11_restore_38 : decode cX11_restore 38 = .ok (.getfield 76, 3) := by decide +kernel
theorem dX11_restore_41 : decode cX11_restore 41 = .ok (.invokevirtual 414, 3) := by decide +kernel
theorem dX11_restore_44 : decode cX11_restore 44 = .ok (.aload_n 0, 1) := by decide +kernel
theorem dX11_restore_45 : decode cX11_restore 45 = .ok (.getfield 51, 3) := by decide +kernel
theorem dX11_restore_48 : decode cX11_restore 48 = .ok (.invokevirtual 145, 3) := by decide +kernel
theorem dX11_restore_51 : decode cX11_restore 51 = .ok (.iconst 1, 1) := by decide +kernel
theorem dX11_restore_52 : decode cX11_restore 52 = .ok (.ireturn, 1) := by decide +kernel
