theorem dX12_rollLine_22 : decode cX12_rollLine 22 = .ok (.ldc2_w 125, 3) := by decide +kernel
theorem dX12_rollLine_25 : decode cX12_rollLine 25 = .ok (.invokevirtual 219, 3) := by decide +kernel
theorem dX12_rollLine_28 : decode cX12_rollLine 28 = .ok (.ifCond .eq 7, 3) := by decide +kernel
theorem dX12_rollLine_31 : decode cX12_rollLine 31 = .ok (.iconst 4, 1) := by decide +kernel
theorem dX12_rollLine_32 : decode cX12_rollLine 32 = .ok (.goto 18, 3) := by decide +kernel
theorem dX12_rollLine_35 : decode cX12_rollLine 35 = .ok (.aload_n 0, 1) := by decide +kernel
theorem dX12_rollLine_36 : decode cX12_rollLine 36 = .ok (.ldc2_w 117, 3) := by decide +kernel
theorem dX12_rollLine_39 : decode cX12_rollLine 39 = .ok (.invokevirtual 219, 3) := by decide +kernel
theorem dX12_rollLine_42 : decode cX12_rollLine 42 = .ok (.ifCond .eq 7, 3) := by decide +kernel
theorem dX12_rollLine_45 : decode cX12_rollLine 45 = .ok (.iconst 5, 1) := by decide +kernel
theorem dX12_rollLine_46 : decode cX12_rollLine 46 = .ok (.goto 4, 3) := by decide +kernel
theorem dX12_rollLine_49 : decode cX12_rollLine 49 = .ok (.iconst (-1), 1) := by decide +kernel
theorem dX12_rollLine_50 : decode cX12_rollLine 50 = .ok (.istore_n 2, 1) := by decide +kernel
theorem dX12_rollLine_51 : decode cX12_rollLine 51 = .ok (.iload_n 2, 1) := by decide +kernel
theorem dX12_rollLine_52 : decode cX12_rollLine 52 = .ok (.ifCond .lt 78, 3) := by decide +kernel
theorem dX12_rollLine_55 : decode cX12_rollLine 55 = .ok (.aload_n 0, 1) := by decide +kernel
theorem dX12_rollLine_56 : decode cX12_rollLine 56 = .ok (.getfield 416, 3) := by decide +kernel
theorem dX12_rollLine_59 : decode cX12_rollLine 59 = .ok (.bipush 40, 2) := by decide +kernel
theorem dX12_rollLine_61 : decode cX12_rollLine 61 = .ok (.if_icmp .ne 9, 3) := by decide +kernel
theorem dX12_rollLine_64 : decode cX12_rollLine 64 = .ok (.aload_n 0, 1) := by decide +kernel
theorem dX12_rollLine_65 : decode cX12_rollLine 65 = .ok (.iconst 4, 1) := by decide +kernel
theorem dX12_rollLine_66 : decode cX12_rollLine 66 = .ok (.invokevirtual 185, 3) := by decide +kernel
theorem dX12_rollLine_69 : decode cX12_rollLine 69 = .ok (.ireturn, 1) := by decide +kernel
theorem dX12_rollLine_70 : decode cX12_rollLine 70 = .ok (.aload_n 0, 1) := by decide +kernel
theorem dX12_rollLine_71 : decode cX12_rollLine 71 = .ok (.getfield 40, 3) := by decide +kernel
theorem dX12_rollLine_74 : decode cX12_rollLine 74 = .ok (.iload_n 1, 1) := by decide +kernel
theorem dX12_rollLine_75 : decode cX12_rollLine 75 = .ok (.iload_n 2, 1) := by decide +kernel
theorem dX12_rollLine_76 : decode cX12_rollLine 76 = .ok (.iastore, 1) := by decide +kernel
theorem dX12_rollLine_77 : decode cX12_rollLine 77 = .ok (.aload_n 0, 1) := by decide +kernel
theorem dX12_rollLine_78 : decode cX12_rollLine 78 = .ok (.invokevirtual 188, 3) := by decide +kernel
theorem dX12_rollLine_81 : decode cX12_rollLine 81 = .ok (.iload_n 2, 1) := by decide +kernel
theorem dX12_rollLine_82 : decode cX12_rollLine 82 = .ok (.iconst 4, 1) := by decide +kernel
theorem dX12_rollLine_83 : decode cX12_rollLine 83 = .ok (.if_icmp .ne 5, 3) := by decide +kernel
theorem dX12_rollLine_86 : decode cX12_rollLine 86 = .ok (.iconst 1, 1) := by decide +kernel
theorem dX12_rollLine_87 : decode cX12_rollLine 87 = .ok (.ireturn, 1) := by decide +kernel
theorem dX12_rollLine_88 : decode cX12_rollLine 88 = .ok (.aload_n 0, 1) := by decide +kernel
theorem dX12_rollLine_89 : decode cX12_rollLine 89 = .ok (.iload_n 2, 1) := by decide +kernel
theorem dX12_rollLine_90 : decode cX12_rollLine 90 = .ok (.ifCond .ne 7, 3) := by decide +kernel
theorem dX12_rollLine_93 : decode cX12_rollLine 93 = .ok (.iconst 0, 1) := by decide +kernel
theorem dX12_rollLine_94 : decode cX12_rollLine 94 = .ok (.goto 4, 3) := by decide +kernel
theorem dX12_rollLine_97 : decode cX12_rollLine 97 = .ok (.iconst 1, 1) := by decide +kernel
theorem dX12_rollLine_98 : decode cX12_rollLine 98 = .ok (.iload_n 2, 1) := by decide +kernel
theorem dX12_rollLine_99 : decode cX12_rollLine 99 = .ok (.ifCond .ne 7, 3) := by decide +kernel
theorem dX12_rollLine_102 : decode cX12_rollLine 102 = .ok (.iconst 3, 1) := by decide +kernel
theorem dX12_rollLine_103 : decode cX12_rollLine 103 = .ok (.goto 5, 3) := by decide +kernel
theorem dX12_rollLine_106 : decode cX12_rollLine 106 = .ok (.bipush 99, 2) := by decide +kernel
theorem dX12_rollLine_108 : decode cX12_rollLine 108 = .ok (.invokevirtual 198, 3) := by decide +kernel
theorem dX12_rollLine_111 : decode cX12_rollLine 111 = .ok (.ifCond .ne 5, 3) := by decide +kernel
theorem dX12_rollLine_114 : decode cX12_rollLine 114 = .ok (.iconst 0, 1) := by decide +kernel
theorem dX12_rollLine_115 : decode cX12_rollLine 115 = .ok (.ireturn, 1) := by decide +kernel
theorem dX12_rollLine_116 : decode cX12_rollLine 116 = .ok (.aload_n 0, 1) := by decide +kernel
theorem dX12_rollLine_117 : decode cX12_rollLine 117 = .ok (.getfield 40, 3) := by decide +kernel
theorem dX12_rollLine_120 : decode cX12_rollLine 120 = .ok (.iload_n 1, 1) := by decide +kernel
theorem dX12_rollLine_121 : decode cX12_rollLine 121 = .ok (.iconst 1, 1) := by decide +kernel
theorem dX12_rollLine_122 : decode cX12_rollLine 122 = .ok (.iadd, 1) := by decide +kernel
theorem dX12_rollLine_123 : decode cX12_rollLine 123 = .ok (.aload_n 0, 1) := by decide +kernel
theorem dX12_rollLine_124 : decode cX12_rollLine 124 = .ok (.getfield 195, 3) := by decide +kernel
theorem dX12_rollLine_127 : decode cX12_rollLine 127 = .ok (.iastore, 1) := by decide +kernel
theorem dX12_rollLine_128 : decode cX12_rollLine 128 = .ok (.iconst 1, 1) := by decide +kernel
theorem dX12_rollLine_129 : decode cX12_rollLine 129 = .ok (.ireturn, 1) := by decide +kernel
theorem dX12_rollLine_130 : decode cX12_rollLine 130 = .ok (.aload_n 0, 1) := by decide +kernel
theorem dX12_rollLine_131 : decode cX12_rollLine 131 = .ok (.bipush 8, 2) := by decide +kernel
theorem dX12_rollLine_133 : decode cX12_rollLine 133 = .ok (.aload_n 0, 1) := by decide +kernel
theorem dX12_rollLine_134 : decode cX12_rollLine 134 = .ok (.getfield 33, 3) := by decide +kernel
theorem dX12_rollLine_137 : decode cX12_rollLine 137 = .ok (.iconst 1, 1) := by decide +kernel
theorem dX12_rollLine_138 : decode cX12_rollLine 138 = .ok (.iaload, 1) := by decide +kernel
theorem dX12_rollLine_139 : decode cX12_rollLine 139 = .ok (.invokevirtual 210, 3) := by decide +kernel
theorem dX12_rollLine_142 : decode cX12_rollLine 142 = .ok (.ifCond .ne 5, 3) := by decide +kernel
theorem dX12_rollLine_145 : decode cX12_rollLine 145 = .ok (.iconst 0, 1) := by decide +kernel
theorem dX12_rollLine_146 : decode cX12_rollLine 146 = .ok (.ireturn, 1) := by decide +kernel
theorem dX12_rollLine_147 : decode cX12_rollLine 147 = .ok (.aload_n 0, 1) := by decide +kernel
theorem dX12_rollLine_148 : decode cX12_rollLine 148 = .ok (.getfield 416, 3) := by decide +kernel
theorem dX12_rollLine_151 : decode cX12_rollLine 151 = .ok (.bipush 40, 2) := by decide +kernel
theorem dX12_rollLine_153 : decode cX12_rollLine 153 = .ok (.if_icmp .ne 9, 3) := by decide +kernel
theorem dX12_rollLine_156 : decode cX12_rollLine 156 = .ok (.aload_n 0, 1) := by decide +kernel
theorem dX12_rollLine_157 : decode cX12_rollLine 157 = .ok (.iconst 4, 1) := by decide +kernel
theorem dX12_rollLine_158 : decode cX12_rollLine 158 = .ok (.invokevirtual 185, 3) := by decide +kernel
theorem dX12_rollLine_161 : decode cX12_rollLine 161 = .ok (.ireturn, 1) := by decide +kernel
theorem dX12_rollLine_162 : decode cX12_rollLine 162 = .ok (.aload_n 0, 1) := by decide +kernel
theorem dX12_rollLine_163 : decode cX12_rollLine 163 = .ok (.getfield 40, 3) := by decide +kernel
theorem dX12_rollLine_166 : decode cX12_rollLine 166 = .ok (.iload_n 1, 1) := by decide +kernel
theorem dX12_rollLine_167 : decode cX12_rollLine 167 = .ok (.iconst 1, 1) := by decide +kernel
theorem dX12_rollLine_168 : decode cX12_rollLine 168 = .ok (.iadd, 1) := by decide +kernel
theorem dX12_rollLine_169 : decode cX12_rollLine 169 = .ok (.aload_n 0, 1) := by decide +kernel
theorem dX12_rollLine_170 : decode cX12_rollLine 170 = .ok (.getfield 195, 3) := by decide +kernel
theorem dX12_rollLine_173 : decode cX12_rollLine 173 = .ok (.iastore, 1) := by decide +kernel
theorem dX12_rollLine_174 : decode cX12_rollLine 174 = .ok (.aload_n 0, 1) := by decide +kernel
theorem dX12_rollLine_175 : decode cX12_rollLine 175 = .ok (.invokevirtual 188, 3) := by decide +kernel
theorem dX12_rollLine_178 : decode cX12_rollLine 178 = .ok (.aload_n 0, 1) := by decide +kernel
theorem dX12_rollLine_179 : decode cX12_rollLine 179 = .ok (.ldc2_w 119, 3) := by decide +kernel
theorem dX12_rollLine_182 : decode cX12_rollLine 182 = .ok (.invokevirtual 219, 3) := by decide +kernel
theorem dX12_rollLine_185 : decode cX12_rollLine 185 = .ok (.ifCond .eq 7, 3) := by decide +kernel
theorem dX12_rollLine_188 : decode cX12_rollLine 188 = .ok (.iconst 1, 1) := by decide +kernel
theorem dX12_rollLine_189 : decode cX12_rollLine 189 = .ok (.goto 32, 3) := by decide +kernel
theorem dX12_rollLine_192 : decode cX12_rollLine 192 = .ok (.aload_n 0, 1) := by decide +kernel
theorem dX12_rollLine_193 : decode cX12_rollLine 193 = .ok (.ldc2_w 121, 3) := by decide +kernel
theorem dX12_rollLine_196 : decode cX12_rollLine 196 = .ok (.invokevirtual 219, 3) := by decide +kernel
theorem dX12_rollLine_199 : decode cX12_rollLine 199 = .ok (.ifCond .eq 7, 3) := by decide +kernel
theorem dX12_rollLine_202 : decode cX12_rollLine 202 = .ok (.iconst 2, 1) := by decide +kernel
theorem dX12_rollLine_203 : decode cX12_rollLine 203 = .ok (.goto 18, 3) := by decide +kernel
theorem dX12_rollLine_206 : decode cX12_rollLine 206 = .ok (.aload_n 0, 1) := by decide +kernel
theorem dX12_rollLine_207 : decode cX12_rollLine 207 = .ok (.ldc2_w 123, 3) := by decide +kernel
theorem dX12_rollLine_210 : decode cX12_rollLine 210 = .ok (.invokevirtual 219, 3) := by decide +kernel
theorem dX12_rollLine_213 : decode cX12_rollLine 213 = .ok (.ifCond .eq 7, 3) := by decide +kernel
theorem dX12_rollLine_216 : decode cX12_rollLine 216 = .ok (.iconst 3, 1) := by decide +kernel
theorem dX12_rollLine_217 : decode cX12_rollLine 217 = .ok (.goto 4, 3) := by decide +kernel
theorem dX12_rollLine_220 : decode cX12_rollLine 220 = .ok (.iconst (-1), 1) := by decide +kernel
theorem dX12_rollLine_221 : decode cX12_rollLine 221 = .ok (.istore_n 3, 1) := by decide +kernel
theorem dX12_rollLine_222 : decode cX12_rollLine 222 = .ok (.iload_n 3, 1) := by decide +kernel
theorem dX12_rollLine_223 : decode cX12_rollLine 223 = .ok (.ifCond .ge 9, 3) := by decide +kernel
theorem dX12_rollLine_226 : decode cX12_rollLine 226 = .ok (.aload_n 0, 1) := by decide +kernel
theorem dX12_rollLine_227 : decode cX12_rollLine 227 = .ok (.iconst 1, 1) := by decide +kernel
theorem dX12_rollLine_228 : decode cX12_rollLine 228 = .ok (.invokevirtual 185, 3) := by decide +kernel
theorem dX12_rollLine_231 : decode cX12_rollLine 231 = .ok (.ireturn, 1) := by decide +kernel
theorem dX12_rollLine_232 : decode cX12_rollLine 232 = .ok (.aload_n 0, 1) := by decide +kernel
theorem dX12_rollLine_233 : decode cX12_rollLine 233 = .ok (.getfield 40, 3) := by decide +kernel
theorem dX12_rollLine_236 : decode cX12_rollLine 236 = .ok (.iload_n 1, 1) := by decide +kernel
theorem dX12_rollLine_237 : decode cX12_rollLine 237 = .ok (.iload_n 3, 1) := by decide +kernel
theorem dX12_rollLine_238 : decode cX12_rollLine 238 = .ok (.iastore, 1) := by decide +kernel
theorem dX12_rollLine_239 : decode cX12_rollLine 239 = .ok (.aload_n 0, 1) := by decide +kernel
theorem dX12_rollLine_240 : decode cX12_rollLine 240 = .ok (.invokevirtual 188, 3) := by decide +kernel
theorem dX12_rollLine_243 : decode cX12_rollLine 243 = .ok (.iload_n 3, 1) := by decide +kernel
theorem dX12_rollLine_244 : decode cX12_rollLine 244 = .ok (.iconst 2, 1) := by decide +kernel
theorem dX12_rollLine_245 : decode cX12_rollLine 245 = .ok (.if_icmp .ne 16, 3) := by decide +kernel
theorem dX12_rollLine_248 : decode cX12_rollLine 248 = .ok (.aload_n 0, 1) := by decide +kernel
theorem dX12_rollLine_249 : decode cX12_rollLine 249 = .ok (.iconst 0, 1) := by decide +kernel
theorem dX12_rollLine_250 : decode cX12_rollLine 250 = .ok (.bipush 9, 2) := by decide +kernel
theorem dX12_rollLine_252 : decode cX12_rollLine 252 = .ok (.invokevirtual 198, 3) := by decide +kernel
theorem dX12_rollLine_255 : decode cX12_rollLine 255 = .ok (.ifCond .ne 41, 3) := by decide +kernel
theorem dX12_rollLine_258 : decode cX12_rollLine 258 = .ok (.goto 36, 3) := by decide +kernel
theorem dX12_rollLine_261 : decode cX12_rollLine 261 = .ok (.aload_n 0, 1) := by decide +kernel
theorem dX12_rollLine_262 : decode cX12_rollLine 262 = .ok (.iload_n 3, 1) := by decide +kernel
theorem dX12_rollLine_263 : decode cX12_rollLine 263 = .ok (.iconst 1, 1) := by decide +kernel
theorem dX12_rollLine_264 : decode cX12_rollLine 264 = .ok (.if_icmp .ne 7, 3) := by decide +kernel
theorem dX12_rollLine_267 : decode cX12_rollLine 267 = .ok (.iconst 0, 1) := by decide +kernel
theorem dX12_rollLine_268 : decode cX12_rollLine 268 = .ok (.goto 5, 3) := by decide +kernel
theorem dX12_rollLine_271 : decode cX12_rollLine 271 = .ok (.bipush 8, 2) := by decide +kernel
theorem dX12_rollLine_273 : decode cX12_rollLine 273 = .ok (.aload_n 0, 1) := by decide +kernel
theorem dX12_rollLine_274 : decode cX12_rollLine 274 = .ok (.getfield 33, 3) := by decide +kernel
theorem dX12_rollLine_277 : decode cX12_rollLine 277 = .ok (.iload_n 3, 1) := by decide +kernel
theorem dX12_rollLine_278 : decode cX12_rollLine 278 = .ok (.iconst 1, 1) := by decide +kernel
theorem dX12_rollLine_279 : decode cX12_rollLine 279 = .ok (.if_icmp .ne 7, 3) := by decide +kernel
theorem dX12_rollLine_282 : decode cX12_rollLine 282 = .ok (.iconst 0, 1) := by decide +kernel
theorem dX12_rollLine_283 : decode cX12_rollLine 283 = .ok (.goto 4, 3) := by decide +kernel
theorem dX12_rollLine_286 : decode cX12_rollLine 286 = .ok (.iconst 1, 1) := by decide +kernel
theorem dX12_rollLine_287 : decode cX12_rollLine 287 = .ok (.iaload, 1) := by decide +kernel
theorem dX12_rollLine_288 : decode cX12_rollLine 288 = .ok (.invokevirtual 235, 3) := by decide +kernel
theorem dX12_rollLine_291 : decode cX12_rollLine 291 = .ok (.ifCond .ne 5, 3) := by decide +kernel
theorem dX12_rollLine_294 : decode cX12_rollLine 294 = .ok (.iconst 0, 1) := by decide +kernel
theorem dX12_rollLine_295 : decode cX12_rollLine 295 = .ok (.ireturn, 1) := by decide +kernel
theorem dX12_rollLine_296 : decode cX12_rollLine 296 = .ok (.aload_n 0, 1) := by decide +kernel
theorem dX12_rollLine_297 : decode cX12_rollLine 297 = .ok (.getfield 40, 3) := by decide +kernel
theorem dX12_rollLine_300 : decode cX12_rollLine 300 = .ok (.iload_n 1, 1) := by decide +kernel
theorem dX12_rollLine_301 : decode cX12_rollLine 301 = .ok (.iconst 2, 1) := by decide +kernel
theorem dX12_rollLine_302 : decode cX12_rollLine 302 = .ok (.iadd, 1) := by decide +kernel
theorem dX12_rollLine_303 : decode cX12_rollLine 303 = .ok (.aload_n 0, 1) := by decide +kernel
theorem dX12_rollLine_304 : decode cX12_rollLine 304 = .ok (.getfield 195, 3) := by decide +kernel
theorem dX12_rollLine_307 : decode cX12_rollLine 307 = .ok (.iastore, 1) := by decide +kernel
theorem dX12_rollLine_308 : decode cX12_rollLine 308 = .ok (.iconst 1, 1) := by decide +kernel
theorem dX12_rollLine_309 : decode cX12_rollLine 309 = .ok (.ireturn, 1) := by decide +kernel
set_option maxRecDepth 20000 in
theorem ggX12_whyLine_X12_isFlight : GoodIn wsX12_whyLine wsX12_isFlight := goodIn_r _ [6, 1, 7, 8, 5, 9, 52, 53, 54, 55, 56, 57, 58, 59, 60, 61, 62, 63, 64, 65, 66, 67, 68, 69, 70, 71, 72, 73, 74, 75, 76, 77, 78, 79, 80, 81, 82, 83, 84, 85, 86, 87, 88, 89, 90, 91, 92, 93, 94, 95, 96, 97, 98] rfl (by decide +kernel)
set_option maxRecDepth 20000 in
theorem gX12_whyLine_X12_isFlight : GoodIn wsX12_whyLine (wsV RX12 259 RX12 yX12_isFlight wsX12_isFlight) := goodIn_app (goodIn_of _ (by decide +kernel)) ggX12_whyLine_X12_isFlight
set_option maxRecDepth 20000 in
theorem ggX12_whyLine_X12_whyMove : GoodIn wsX12_whyLine wsX12_whyMove := goodIn_r _ [13, 1, 14, 15, 16, 5, 17, 18, 19, 20, 21, 52, 53, 54, 55, 56, 57, 58, 59, 60, 61, 62, 63, 64, 65, 66, 67, 68, 69, 70, 71, 72, 73, 74, 75, 76, 77, 78, 79, 80, 81, 82, 83, 84, 85, 86, 87, 88, 89, 90, 91, 92, 93, 94, 95, 96, 97, 98] rfl (by decide +kernel)
set_option maxRecDepth 20000 in
theorem gX12_whyLine_X12_whyMove : GoodIn wsX12_whyLine (wsV RX12 342 RX12 yX12_whyMove wsX12_whyMove) := goodIn_app (goodIn_of _ (by decide +kernel)) ggX12_whyLine_X12_whyMove
set_option maxRecDepth 20000 in
theorem ggX12_whyLine_X12_whySwear : GoodIn wsX12_whyLine wsX12_whySwear := goodIn_r _ [25, 1, 18, 19, 20, 5, 21, 52, 53, 54, 55, 56, 57, 58, 59, 60, 61, 62, 63, 64, 65, 66, 67, 68, 69, 70, 71, 72, 73, 74, 75, 76, 77, 78, 79, 80, 81, 82, 83, 84, 85, 86, 87, 88, 89, 90, 91, 92, 93, 94, 95, 96, 97, 98] rfl (by decide +kernel)
set_option maxRecDepth 20000 in
theorem gX12_whyLine_X12_whySwear : GoodIn wsX12_whyLine (wsV RX12 345 RX12 yX12_whySwear wsX12_whySwear) := goodIn_app (goodIn_of _ (by decide +kernel)) ggX12_whyLine_X12_whySwear
set_option maxRecDepth 20000 in
theorem ggX12_whyLine_X12_whyAccuse : GoodIn wsX12_whyLine wsX12_whyAccuse := goodIn_r _ [29, 1, 30, 31, 32, 5, 33, 34, 35, 36, 37, 38, 39, 40, 41, 42, 43, 44, 45, 46, 47, 52, 53, 54, 55, 56, 57, 58, 59, 60, 61, 62, 63, 64, 65, 66, 67, 68, 69, 70, 71, 72, 73, 74, 75, 76, 77, 78, 79, 80, 81, 82, 83, 84, 85, 86, 87, 88, 89, 90, 91, 92, 93, 94, 95, 96, 97, 98] rfl (by decide +kernel)
set_option maxRecDepth 20000 in
theorem gX12_whyLine_X12_whyAccuse : GoodIn wsX12_whyLine (wsV RX12 351 RX12 yX12_whyAccuse wsX12_whyAccuse) := goodIn_app (goodIn_of _ (by decide +kernel)) ggX12_whyLine_X12_whyAccuse
set_option maxRecDepth 20000 in
theorem ggX12_whyLine_X12_whyShare : GoodIn wsX12_whyLine wsX12_whyShare := goodIn_r _ [51, 1, 52, 53, 54, 55, 56, 57, 58, 59, 60, 61, 62, 63, 64, 65, 66, 67, 68, 69, 70, 71, 72, 73, 74, 75, 76, 77, 78, 79, 80, 81, 82, 83, 84, 85, 86, 87, 88, 89, 90, 91, 92, 93, 94, 95, 96, 97, 98] rfl (by decide +kernel)
set_option maxRecDepth 20000 in
theorem gX12_whyLine_X12_whyShare : GoodIn wsX12_whyLine (wsV RX12 357 RX12 yX12_whyShare wsX12_whyShare) := goodIn_app (goodIn_of _ (by decide +kernel)) ggX12_whyLine_X12_whyShare
theorem dX12_whyLine_0 : decode cX12_whyLine 0 = .ok (.iload_n 1, 1) := by decide +kernel
theorem dX12_whyLine_1 : decode cX12_whyLine 1 = .ok (.tableswitch 101 0 4 #[35, 65, 72, 79, 96], 35) := by decide +kernel
theorem dX12_whyLine_36 : decode cX12_whyLine 36 = .ok (.aload_n 0, 1) := by decide +kernel
theorem dX12_whyLine_37 : decode cX12_whyLine 37 = .ok (.iload_n 2, 1) := by decide +kernel
theorem dX12_whyLine_38 : decode cX12_whyLine 38 = .ok (.invokevirtual 259, 3) := by decide +kernel
theorem dX12_whyLine_41 : decode cX12_whyLine 41 = .ok (.ifCond .ne 8, 3) := by decide +kernel
theorem dX12_whyLine_44 : decode cX12_whyLine 44 = .ok (.bipush 9, 2) := by decide +kernel
theorem dX12_whyLine_46 : decode cX12_whyLine 46 = .ok (.goto 19, 3) := by decide +kernel
theorem dX12_whyLine_49 : decode cX12_whyLine 49 = .ok (.aload_n 0, 1) := by decide +kernel
theorem dX12_whyLine_50 : decode cX12_whyLine 50 = .ok (.getfield 33, 3) := by decide +kernel
theorem dX12_whyLine_53 : decode cX12_whyLine 53 = .ok (.sipush 212, 3) := by decide +kernel
theorem dX12_whyLine_56 : decode cX12_whyLine 56 = .ok (.iaload, 1) := by decide +kernel
theorem dX12_whyLine_57 : decode cX12_whyLine 57 = .ok (.ifCond .le 7, 3) := by decide +kernel
theorem dX12_whyLine_60 : decode cX12_whyLine 60 = .ok (.iconst 1, 1) := by decide +kernel
theorem dX12_whyLine_61 : decode cX12_whyLine 61 = .ok (.goto 4, 3) := by decide +kernel
theorem dX12_whyLine_64 : decode cX12_whyLine 64 = .ok (.iconst 0, 1) := by decide +kernel
theorem dX12_whyLine_65 : decode cX12_whyLine 65 = .ok (.ireturn, 1) := by decide +kernel
theorem dX12_whyLine_66 : decode cX12_whyLine 66 = .ok (.aload_n 0, 1) := by decide +kernel
theorem dX12_whyLine_67 : decode cX12_whyLine 67 = .ok (.iload_n 2, 1) := by decide +kernel
theorem dX12_whyLine_68 : decode cX12_whyLine 68 = .ok (.iload_n 3, 1) := by decide +kernel
theorem dX12_whyLine_69 : decode cX12_whyLine 69 = .ok (.invokevirtual 342, 3) := by decide +kernel
theorem dX12_whyLine_72 : decode cX12_whyLine 72 = .ok (.ireturn, 1) := by decide +kernel
theorem dX12_whyLine_73 : decode cX12_whyLine 73 = .ok (.aload_n 0, 1) := by decide +kernel
theorem dX12_whyLine_74 : decode cX12_whyLine 74 = .ok (.iload_n 2, 1) := by decide +kernel
theorem dX12_whyLine_75 : decode cX12_whyLine 75 = .ok (.iload_n 3, 1) := by decide +kernel
theorem dX12_whyLine_76 : decode cX12_whyLine 76 = .ok (.invokevirtual 345, 3) := by decide +kernel
theorem dX12_whyLine_79 : decode cX12_whyLine 79 = .ok (.ireturn, 1) := by decide +kernel
theorem dX12_whyLine_80 : decode cX12_whyLine 80 = .ok (.iload_n 2, 1) := by decide +kernel
theorem dX12_whyLine_81 : decode cX12_whyLine 81 = .ok (.iload_n 3, 1) := by decide +kernel
theorem dX12_whyLine_82 : decode cX12_whyLine 82 = .ok (.if_icmp .ne 8, 3) := by decide +kernel
theorem dX12_whyLine_85 : decode cX12_whyLine 85 = .ok (.bipush 9, 2) := by decide +kernel
theorem dX12_whyLine_87 : decode cX12_whyLine 87 = .ok (.goto 9, 3) := by decide +kernel
theorem dX12_whyLine_90 : decode cX12_whyLine 90 = .ok (.aload_n 0, 1) := by decide +kernel
theorem dX12_whyLine_91 : decode cX12_whyLine 91 = .ok (.iload_n 2, 1) := by decide +kernel
theorem dX12_whyLine_92 : decode cX12_whyLine 92 = .ok (.iload_n 3, 1) := by decide +kernel
theorem dX12_whyLine_93 : decode cX12_whyLine 93 = .ok (.invokevirtual 351, 3) := by decide +kernel
theorem dX12_whyLine_96 : decode cX12_whyLine 96 = .ok (.ireturn, 1) := by decide +kernel
theorem dX12_whyLine_97 : decode cX12_whyLine 97 = .ok (.aload_n 0, 1) := by decide +kernel
theorem dX12_whyLine_98 : decode cX12_whyLine 98 = .ok (.invokevirtual 357, 3) := by decide +kernel
theorem dX12_whyLine_101 : decode cX12_whyLine 101 = .ok (.ireturn, 1) := by decide +kernel
theorem dX12_whyLine_102 : decode cX12_whyLine 102 = .ok (.iconst 0, 1) := by decide +kernel
theorem dX12_whyLine_103 : decode cX12_whyLine 103 = .ok (.ireturn, 1) := by decide +kernel
set_option maxRecDepth 20000 in
theorem ggX12_livesLine_X12_swearsTo : GoodIn wsX12_livesLine wsX12_swearsTo := goodIn_r _ [6, 1, 73, 74, 75, 76, 77, 78, 79, 80, 81, 82, 83, 84, 85, 86, 87, 88, 89, 90, 91, 92, 93, 94, 95, 96, 97, 98, 99, 100, 101, 102, 103, 104, 105, 106, 107, 108, 109, 110, 111, 112, 113, 114, 115, 116, 117, 118, 119] rfl (by decide +kernel)
set_option maxRecDepth 20000 in
theorem gX12_livesLine_X12_swearsTo : GoodIn wsX12_livesLine (wsV RX12 348 RX12 yX12_swearsTo wsX12_swearsTo) := goodIn_app (goodIn_of _ (by decide +kernel)) ggX12_livesLine_X12_swearsTo
set_option maxRecDepth 20000 in
theorem ggX12_livesLine_X12_accuses : GoodIn wsX12_livesLine wsX12_accuses := goodIn_r _ [10, 1, 11, 12, 13, 5, 14, 15, 16, 17, 18, 19, 20, 21, 22, 23, 24, 25, 26, 27, 28, 29, 30, 31, 32, 33, 34, 35, 36, 37, 38, 39, 40, 41, 42, 43, 44, 73, 74, 75, 76, 77, 78, 79, 80, 81, 82, 83, 84, 85, 86, 87, 88, 89, 90, 91, 92, 93, 94, 95, 96, 97, 98, 99, 100, 101, 102, 103, 104, 105, 106, 107, 108, 109, 110, 111, 112, 113, 114, 115, 116, 117, 118, 119] rfl (by decide +kernel)
set_option maxRecDepth 20000 in
theorem gX12_livesLine_X12_accuses : GoodIn wsX12_livesLine (wsV RX12 354 RX12 yX12_accuses wsX12_accuses) := goodIn_app (goodIn_of _ (by decide +kernel)) ggX12_livesLine_X12_accuses
set_option maxRecDepth 20000 in
theorem ggX12_livesLine_X12_sharesNow : GoodIn wsX12_livesLine wsX12_sharesNow := goodIn_r _ [48, 1, 23, 49, 50, 51, 5, 52, 53, 54, 15, 16, 17, 18, 19, 20, 21, 22, 24, 25, 34, 35, 36, 37, 55, 56, 57, 58, 59, 60, 61, 62, 63, 64, 65, 73, 74, 75, 76, 77, 78, 79, 80, 81, 82, 83, 84, 85, 86, 87, 88, 89, 90, 91, 92, 93, 94, 95, 96, 97, 98, 99, 100, 101, 102, 103, 104, 105, 106, 107, 108, 109, 110, 111, 112, 113, 114, 115, 116, 117, 118, 119] rfl (by decide +kernel)
set_option maxRecDepth 20000 in
theorem gX12_livesLine_X12_sharesNow : GoodIn wsX12_livesLine (wsV RX12 360 RX12 yX12_sharesNow wsX12_sharesNow) := goodIn_app (goodIn_of _ (by decide +kernel)) ggX12_livesLine_X12_sharesNow
