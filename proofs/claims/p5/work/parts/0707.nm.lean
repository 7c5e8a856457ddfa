theorem dX12_valley_110 : decode cX12_valley 110 = .ok (.iadd, 1) := by decide +kernel
theorem dX12_valley_111 : decode cX12_valley 111 = .ok (.putfield 247, 3) := by decide +kernel
theorem dX12_valley_114 : decode cX12_valley 114 = .ok (.goto (-40), 3) := by decide +kernel
theorem dX12_valley_117 : decode cX12_valley 117 = .ok (.iconst 0, 1) := by decide +kernel
theorem dX12_valley_118 : decode cX12_valley 118 = .ok (.istore_n 1, 1) := by decide +kernel
theorem dX12_valley_119 : decode cX12_valley 119 = .ok (.iload_n 1, 1) := by decide +kernel
theorem dX12_valley_120 : decode cX12_valley 120 = .ok (.sipush 427, 3) := by decide +kernel
theorem dX12_valley_123 : decode cX12_valley 123 = .ok (.if_icmp .ge 32, 3) := by decide +kernel
theorem dX12_valley_126 : decode cX12_valley 126 = .ok (.aload_n 0, 1) := by decide +kernel
theorem dX12_valley_127 : decode cX12_valley 127 = .ok (.getfield 33, 3) := by decide +kernel
theorem dX12_valley_130 : decode cX12_valley 130 = .ok (.iload_n 1, 1) := by decide +kernel
theorem dX12_valley_131 : decode cX12_valley 131 = .ok (.iload_n 1, 1) := by decide +kernel
theorem dX12_valley_132 : decode cX12_valley 132 = .ok (.sipush 211, 3) := by decide +kernel
theorem dX12_valley_135 : decode cX12_valley 135 = .ok (.if_icmp .ge 12, 3) := by decide +kernel
theorem dX12_valley_138 : decode cX12_valley 138 = .ok (.aload_n 0, 1) := by decide +kernel
theorem dX12_valley_139 : decode cX12_valley 139 = .ok (.getfield 37, 3) := by decide +kernel
theorem dX12_valley_142 : decode cX12_valley 142 = .ok (.iload_n 1, 1) := by decide +kernel
theorem dX12_valley_143 : decode cX12_valley 143 = .ok (.iaload, 1) := by decide +kernel
theorem dX12_valley_144 : decode cX12_valley 144 = .ok (.goto 4, 3) := by decide +kernel
theorem dX12_valley_147 : decode cX12_valley 147 = .ok (.iconst 0, 1) := by decide +kernel
theorem dX12_valley_148 : decode cX12_valley 148 = .ok (.iastore, 1) := by decide +kernel
theorem dX12_valley_149 : decode cX12_valley 149 = .ok (.iinc 1 1, 3) := by decide +kernel
theorem dX12_valley_152 : decode cX12_valley 152 = .ok (.goto (-33), 3) := by decide +kernel
theorem dX12_valley_155 : decode cX12_valley 155 = .ok (.iconst 0, 1) := by decide +kernel
theorem dX12_valley_156 : decode cX12_valley 156 = .ok (.istore_n 1, 1) := by decide +kernel
theorem dX12_valley_157 : decode cX12_valley 157 = .ok (.iload_n 1, 1) := by decide +kernel
theorem dX12_valley_158 : decode cX12_valley 158 = .ok (.bipush 16, 2) := by decide +kernel
theorem dX12_valley_160 : decode cX12_valley 160 = .ok (.if_icmp .ge 24, 3) := by decide +kernel
theorem dX12_valley_163 : decode cX12_valley 163 = .ok (.aload_n 0, 1) := by decide +kernel
theorem dX12_valley_164 : decode cX12_valley 164 = .ok (.getfield 43, 3) := by decide +kernel
theorem dX12_valley_167 : decode cX12_valley 167 = .ok (.iload_n 1, 1) := by decide +kernel
theorem dX12_valley_168 : decode cX12_valley 168 = .ok (.aload_n 0, 1) := by decide +kernel
theorem dX12_valley_169 : decode cX12_valley 169 = .ok (.getfield 43, 3) := by decide +kernel
theorem dX12_valley_172 : decode cX12_valley 172 = .ok (.bipush 16, 2) := by decide +kernel
theorem dX12_valley_174 : decode cX12_valley 174 = .ok (.iload_n 1, 1) := by decide +kernel
theorem dX12_valley_175 : decode cX12_valley 175 = .ok (.iadd, 1) := by decide +kernel
theorem dX12_valley_176 : decode cX12_valley 176 = .ok (.laload, 1) := by decide +kernel
theorem dX12_valley_177 : decode cX12_valley 177 = .ok (.lastore, 1) := by decide +kernel
theorem dX12_valley_178 : decode cX12_valley 178 = .ok (.iinc 1 1, 3) := by decide +kernel
theorem dX12_valley_181 : decode cX12_valley 181 = .ok (.goto (-24), 3) := by decide +kernel
theorem dX12_valley_184 : decode cX12_valley 184 = .ok (.iconst 0, 1) := by decide +kernel
theorem dX12_valley_185 : decode cX12_valley 185 = .ok (.istore_n 1, 1) := by decide +kernel
theorem dX12_valley_186 : decode cX12_valley 186 = .ok (.iload_n 1, 1) := by decide +kernel
theorem dX12_valley_187 : decode cX12_valley 187 = .ok (.bipush 8, 2) := by decide +kernel
theorem dX12_valley_189 : decode cX12_valley 189 = .ok (.if_icmp .ge 47, 3) := by decide +kernel
theorem dX12_valley_192 : decode cX12_valley 192 = .ok (.aload_n 0, 1) := by decide +kernel
theorem dX12_valley_193 : decode cX12_valley 193 = .ok (.getfield 33, 3) := by decide +kernel
theorem dX12_valley_196 : decode cX12_valley 196 = .ok (.sipush 214, 3) := by decide +kernel
theorem dX12_valley_199 : decode cX12_valley 199 = .ok (.iload_n 1, 1) := by decide +kernel
theorem dX12_valley_200 : decode cX12_valley 200 = .ok (.iadd, 1) := by decide +kernel
theorem dX12_valley_201 : decode cX12_valley 201 = .ok (.aload_n 0, 1) := by decide +kernel
theorem dX12_valley_202 : decode cX12_valley 202 = .ok (.getfield 33, 3) := by decide +kernel
theorem dX12_valley_205 : decode cX12_valley 205 = .ok (.bipush 31, 2) := by decide +kernel
theorem dX12_valley_207 : decode cX12_valley 207 = .ok (.iload_n 1, 1) := by decide +kernel
theorem dX12_valley_208 : decode cX12_valley 208 = .ok (.iadd, 1) := by decide +kernel
theorem dX12_valley_209 : decode cX12_valley 209 = .ok (.iaload, 1) := by decide +kernel
theorem dX12_valley_210 : decode cX12_valley 210 = .ok (.iastore, 1) := by decide +kernel
theorem dX12_valley_211 : decode cX12_valley 211 = .ok (.aload_n 0, 1) := by decide +kernel
theorem dX12_valley_212 : decode cX12_valley 212 = .ok (.getfield 33, 3) := by decide +kernel
theorem dX12_valley_215 : decode cX12_valley 215 = .ok (.sipush 222, 3) := by decide +kernel
theorem dX12_valley_218 : decode cX12_valley 218 = .ok (.iload_n 1, 1) := by decide +kernel
theorem dX12_valley_219 : decode cX12_valley 219 = .ok (.iadd, 1) := by decide +kernel
theorem dX12_valley_220 : decode cX12_valley 220 = .ok (.aload_n 0, 1) := by decide +kernel
theorem dX12_valley_221 : decode cX12_valley 221 = .ok (.getfield 33, 3) := by decide +kernel
theorem dX12_valley_224 : decode cX12_valley 224 = .ok (.bipush 47, 2) := by decide +kernel
theorem dX12_valley_226 : decode cX12_valley 226 = .ok (.iload_n 1, 1) := by decide +kernel
theorem dX12_valley_227 : decode cX12_valley 227 = .ok (.iadd, 1) := by decide +kernel
theorem dX12_valley_228 : decode cX12_valley 228 = .ok (.iaload, 1) := by decide +kernel
theorem dX12_valley_229 : decode cX12_valley 229 = .ok (.iastore, 1) := by decide +kernel
theorem dX12_valley_230 : decode cX12_valley 230 = .ok (.iinc 1 1, 3) := by decide +kernel
theorem dX12_valley_233 : decode cX12_valley 233 = .ok (.goto (-47), 3) := by decide +kernel
theorem dX12_valley_236 : decode cX12_valley 236 = .ok (.aload_n 0, 1) := by decide +kernel
theorem dX12_valley_237 : decode cX12_valley 237 = .ok (.iconst 0, 1) := by decide +kernel
theorem dX12_valley_238 : decode cX12_valley 238 = .ok (.putfield 256, 3) := by decide +kernel
theorem dX12_valley_241 : decode cX12_valley 241 = .ok (.aload_n 0, 1) := by decide +kernel
theorem dX12_valley_242 : decode cX12_valley 242 = .ok (.getfield 247, 3) := by decide +kernel
theorem dX12_valley_245 : decode cX12_valley 245 = .ok (.ireturn, 1) := by decide +kernel
theorem dX12_fault_0 : decode cX12_fault 0 = .ok (.aload_n 0, 1) := by decide +kernel
theorem dX12_fault_1 : decode cX12_fault 1 = .ok (.iconst 0, 1) := by decide +kernel
theorem dX12_fault_2 : decode cX12_fault 2 = .ok (.putfield 1, 3) := by decide +kernel
theorem dX12_fault_5 : decode cX12_fault 5 = .ok (.aload_n 0, 1) := by decide +kernel
theorem dX12_fault_6 : decode cX12_fault 6 = .ok (.getfield 176, 3) := by decide +kernel
theorem dX12_fault_9 : decode cX12_fault 9 = .ok (.ireturn, 1) := by decide +kernel
set_option maxRecDepth 20000 in
theorem ggX12_isHill_X12_isIn : GoodIn wsX12_isHill wsX12_isIn := goodIn_r _ [5] rfl (by decide +kernel)
set_option maxRecDepth 20000 in
theorem gX12_isHill_X12_isIn : GoodIn wsX12_isHill (va_wsS RX12 191 yX12_isIn wsX12_isIn) := goodIn_app (goodIn_of _ (by decide +kernel)) ggX12_isHill_X12_isIn
theorem dX12_isHill_0 : decode cX12_isHill 0 = .ok (.iload_n 1, 1) := by decide +kernel
theorem dX12_isHill_1 : decode cX12_isHill 1 = .ok (.iconst 0, 1) := by decide +kernel
theorem dX12_isHill_2 : decode cX12_isHill 2 = .ok (.aload_n 0, 1) := by decide +kernel
theorem dX12_isHill_3 : decode cX12_isHill 3 = .ok (.getfield 33, 3) := by decide +kernel
theorem dX12_isHill_6 : decode cX12_isHill 6 = .ok (.iconst 0, 1) := by decide +kernel
theorem dX12_isHill_7 : decode cX12_isHill 7 = .ok (.iaload, 1) := by decide +kernel
theorem dX12_isHill_8 : decode cX12_isHill 8 = .ok (.iconst 1, 1) := by decide +kernel
theorem dX12_isHill_9 : decode cX12_isHill 9 = .ok (.isub, 1) := by decide +kernel
theorem dX12_isHill_10 : decode cX12_isHill 10 = .ok (.invokestatic 191, 3) := by decide +kernel
theorem dX12_isHill_13 : decode cX12_isHill 13 = .ok (.ireturn, 1) := by decide +kernel
set_option maxRecDepth 20000 in
theorem ggX12_isMan_X12_isIn : GoodIn wsX12_isMan wsX12_isIn := goodIn_r _ [5] rfl (by decide +kernel)
set_option maxRecDepth 20000 in
theorem gX12_isMan_X12_isIn : GoodIn wsX12_isMan (va_wsS RX12 191 yX12_isIn wsX12_isIn) := goodIn_app (goodIn_of _ (by decide +kernel)) ggX12_isMan_X12_isIn
theorem dX12_isMan_0 : decode cX12_isMan 0 = .ok (.iload_n 1, 1) := by decide +kernel
theorem dX12_isMan_1 : decode cX12_isMan 1 = .ok (.iconst 0, 1) := by decide +kernel
theorem dX12_isMan_2 : decode cX12_isMan 2 = .ok (.aload_n 0, 1) := by decide +kernel
theorem dX12_isMan_3 : decode cX12_isMan 3 = .ok (.getfield 33, 3) := by decide +kernel
theorem dX12_isMan_6 : decode cX12_isMan 6 = .ok (.iconst 1, 1) := by decide +kernel
theorem dX12_isMan_7 : decode cX12_isMan 7 = .ok (.iaload, 1) := by decide +kernel
theorem dX12_isMan_8 : decode cX12_isMan 8 = .ok (.iconst 1, 1) := by decide +kernel
theorem dX12_isMan_9 : decode cX12_isMan 9 = .ok (.isub, 1) := by decide +kernel
theorem dX12_isMan_10 : decode cX12_isMan 10 = .ok (.invokestatic 191, 3) := by decide +kernel
theorem dX12_isMan_13 : decode cX12_isMan 13 = .ok (.ireturn, 1) := by decide +kernel
set_option maxRecDepth 20000 in
theorem ggX12_isFlight_X12_isIn : GoodIn wsX12_isFlight wsX12_isIn := goodIn_r _ [5] rfl (by decide +kernel)
set_option maxRecDepth 20000 in
theorem gX12_isFlight_X12_isIn : GoodIn wsX12_isFlight (va_wsS RX12 191 yX12_isIn wsX12_isIn) := goodIn_app (goodIn_of _ (by decide +kernel)) ggX12_isFlight_X12_isIn
theorem dX12_isFlight_0 : decode cX12_isFlight 0 = .ok (.iload_n 1, 1) := by decide +kernel
theorem dX12_isFlight_1 : decode cX12_isFlight 1 = .ok (.iconst 0, 1) := by decide +kernel
theorem dX12_isFlight_2 : decode cX12_isFlight 2 = .ok (.aload_n 0, 1) := by decide +kernel
theorem dX12_isFlight_3 : decode cX12_isFlight 3 = .ok (.getfield 33, 3) := by decide +kernel
theorem dX12_isFlight_6 : decode cX12_isFlight 6 = .ok (.iconst 2, 1) := by decide +kernel
theorem dX12_isFlight_7 : decode cX12_isFlight 7 = .ok (.iaload, 1) := by decide +kernel
theorem dX12_isFlight_8 : decode cX12_isFlight 8 = .ok (.iconst 1, 1) := by decide +kernel
theorem dX12_isFlight_9 : decode cX12_isFlight 9 = .ok (.isub, 1) := by decide +kernel
theorem dX12_isFlight_10 : decode cX12_isFlight 10 = .ok (.invokestatic 191, 3) := by decide +kernel
theorem dX12_isFlight_13 : decode cX12_isFlight 13 = .ok (.ireturn, 1) := by decide +kernel
set_option maxRecDepth 20000 in
theorem ggX12_isCall_X12_isFlight : GoodIn wsX12_isCall wsX12_isFlight := goodIn_r _ [6, 1, 7, 8, 5, 9, 10, 11, 12, 13, 14, 15, 16, 17, 18, 19, 20, 21, 22, 23, 24, 25, 26, 27, 28, 29, 30, 31, 32, 33, 34, 35, 36, 37, 38, 39, 40, 41, 42, 43, 44, 45, 46, 47, 48, 49, 50, 51, 52, 53, 54, 55, 56] rfl (by decide +kernel)
set_option maxRecDepth 20000 in
theorem gX12_isCall_X12_isFlight : GoodIn wsX12_isCall (wsV RX12 259 RX12 yX12_isFlight wsX12_isFlight) := goodIn_app (goodIn_of _ (by decide +kernel)) ggX12_isCall_X12_isFlight
set_option maxRecDepth 20000 in
theorem ggX12_isCall_X12_isIn : GoodIn wsX12_isCall wsX12_isIn := goodIn_r _ [9] rfl (by decide +kernel)
set_option maxRecDepth 20000 in
theorem gX12_isCall_X12_isIn : GoodIn wsX12_isCall (va_wsS RX12 191 yX12_isIn wsX12_isIn) := goodIn_app (goodIn_of _ (by decide +kernel)) ggX12_isCall_X12_isIn
theorem dX12_isCall_0 : decode cX12_isCall 0 = .ok (.aload_n 0, 1) := by decide +kernel
theorem dX12_isCall_1 : decode cX12_isCall 1 = .ok (.iload_n 1, 1) := by decide +kernel
theorem dX12_isCall_2 : decode cX12_isCall 2 = .ok (.invokevirtual 259, 3) := by decide +kernel
theorem dX12_isCall_5 : decode cX12_isCall 5 = .ok (.ifCond .eq 26, 3) := by decide +kernel
theorem dX12_isCall_8 : decode cX12_isCall 8 = .ok (.iload_n 2, 1) := by decide +kernel
theorem dX12_isCall_9 : decode cX12_isCall 9 = .ok (.iconst 0, 1) := by decide +kernel
theorem dX12_isCall_10 : decode cX12_isCall 10 = .ok (.aload_n 0, 1) := by decide +kernel
theorem dX12_isCall_11 : decode cX12_isCall 11 = .ok (.getfield 33, 3) := by decide +kernel
theorem dX12_isCall_14 : decode cX12_isCall 14 = .ok (.bipush 87, 2) := by decide +kernel
theorem dX12_isCall_16 : decode cX12_isCall 16 = .ok (.iload_n 1, 1) := by decide +kernel
theorem dX12_isCall_17 : decode cX12_isCall 17 = .ok (.iadd, 1) := by decide +kernel
theorem dX12_isCall_18 : decode cX12_isCall 18 = .ok (.iaload, 1) := by decide +kernel
theorem dX12_isCall_19 : decode cX12_isCall 19 = .ok (.iconst 1, 1) := by decide +kernel
theorem dX12_isCall_20 : decode cX12_isCall 20 = .ok (.isub, 1) := by decide +kernel
theorem dX12_isCall_21 : decode cX12_isCall 21 = .ok (.invokestatic 191, 3) := by decide +kernel
theorem dX12_isCall_24 : decode cX12_isCall 24 = .ok (.ifCond .eq 7, 3) := by decide +kernel
theorem dX12_isCall_27 : decode cX12_isCall 27 = .ok (.iconst 1, 1) := by decide +kernel
theorem dX12_isCall_28 : decode cX12_isCall 28 = .ok (.goto 4, 3) := by decide +kernel
theorem dX12_isCall_31 : decode cX12_isCall 31 = .ok (.iconst 0, 1) := by decide +kernel
theorem dX12_isCall_32 : decode cX12_isCall 32 = .ok (.ireturn, 1) := by decide +kernel
theorem dX12_valleyOf_0 : decode cX12_valleyOf 0 = .ok (.iload_n 1, 1) := by decide +kernel
theorem dX12_valleyOf_1 : decode cX12_valleyOf 1 = .ok (.aload_n 0, 1) := by decide +kernel
theorem dX12_valleyOf_2 : decode cX12_valleyOf 2 = .ok (.getfield 33, 3) := by decide +kernel
theorem dX12_valleyOf_5 : decode cX12_valleyOf 5 = .ok (.iconst 3, 1) := by decide +kernel
theorem dX12_valleyOf_6 : decode cX12_valleyOf 6 = .ok (.iaload, 1) := by decide +kernel
theorem dX12_valleyOf_7 : decode cX12_valleyOf 7 = .ok (.if_icmp .le 7, 3) := by decide +kernel
theorem dX12_valleyOf_10 : decode cX12_valleyOf 10 = .ok (.iconst 1, 1) := by decide +kernel
theorem dX12_valleyOf_11 : decode cX12_valleyOf 11 = .ok (.goto 4, 3) := by decide +kernel
theorem dX12_valleyOf_14 : decode cX12_valleyOf 14 = .ok (.iconst 0, 1) := by decide +kernel
theorem dX12_valleyOf_15 : decode cX12_valleyOf 15 = .ok (.ireturn, 1) := by decide +kernel
set_option maxRecDepth 20000 in
theorem ggX12_hill_X12_isHill : GoodIn wsX12_hill wsX12_isHill := goodIn_r _ [7, 2, 8, 9, 6, 10, 15, 16, 17, 18, 19, 20, 21, 22, 23, 24, 25, 26, 27, 28, 29, 30, 31, 32, 33, 34, 35, 36, 37, 38, 39, 40, 41, 42, 43, 44, 45, 46, 47, 48, 49, 50, 51, 52, 53, 54, 55, 56, 57, 58, 59, 60, 61] rfl (by decide +kernel)
set_option maxRecDepth 20000 in
theorem gX12_hill_X12_isHill : GoodIn wsX12_hill (wsV RX12 262 RX12 yX12_isHill wsX12_isHill) := goodIn_app (goodIn_of _ (by decide +kernel)) ggX12_hill_X12_isHill
set_option maxRecDepth 20000 in
theorem ggX12_hill_X12_valleyOf : GoodIn wsX12_hill wsX12_valleyOf := goodIn_r _ [14, 2, 15, 16, 17, 18, 19, 20, 21, 22, 23, 24, 25, 26, 27, 28, 29, 30, 31, 32, 33, 34, 35, 36, 37, 38, 39, 40, 41, 42, 43, 44, 45, 46, 47, 48, 49, 50, 51, 52, 53, 54, 55, 56, 57, 58, 59, 60, 61] rfl (by decide +kernel)
set_option maxRecDepth 20000 in
theorem gX12_hill_X12_valleyOf : GoodIn wsX12_hill (wsV RX12 265 RX12 yX12_valleyOf wsX12_valleyOf) := goodIn_app (goodIn_of _ (by decide +kernel)) ggX12_hill_X12_valleyOf
theorem dX12_hill_0 : decode cX12_hill 0 = .ok (.aload_n 0, 1) := by decide +kernel
theorem dX12_hill_1 : decode cX12_hill 1 = .ok (.iconst 0, 1) := by decide +kernel
theorem dX12_hill_2 : decode cX12_hill 2 = .ok (.putfield 1, 3) := by decide +kernel
theorem dX12_hill_5 : decode cX12_hill 5 = .ok (.aload_n 0, 1) := by decide +kernel
theorem dX12_hill_6 : decode cX12_hill 6 = .ok (.iload_n 1, 1) := by decide +kernel
theorem dX12_hill_7 : decode cX12_hill 7 = .ok (.invokevirtual 262, 3) := by decide +kernel
theorem dX12_hill_10 : decode cX12_hill 10 = .ok (.ifCond .ne 5, 3) := by decide +kernel
theorem dX12_hill_13 : decode cX12_hill 13 = .ok (.iconst (-1), 1) := by decide +kernel
theorem dX12_hill_14 : decode cX12_hill 14 = .ok (.ireturn, 1) := by decide +kernel
theorem dX12_hill_15 : decode cX12_hill 15 = .ok (.iconst 0, 1) := by decide +kernel
theorem dX12_hill_16 : decode cX12_hill 16 = .ok (.istore_n 3, 1) := by decide +kernel
theorem dX12_hill_17 : decode cX12_hill 17 = .ok (.iconst 0, 1) := by decide +kernel
theorem dX12_hill_18 : decode cX12_hill 18 = .ok (.istore 4, 2) := by decide +kernel
theorem dX12_hill_20 : decode cX12_hill 20 = .ok (.iload 4, 2) := by decide +kernel
theorem dX12_hill_22 : decode cX12_hill 22 = .ok (.aload_n 0, 1) := by decide +kernel
theorem dX12_hill_23 : decode cX12_hill 23 = .ok (.getfield 33, 3) := by decide +kernel
theorem dX12_hill_26 : decode cX12_hill 26 = .ok (.iconst 1, 1) := by decide +kernel
theorem dX12_hill_27 : decode cX12_hill 27 = .ok (.iaload, 1) := by decide +kernel
theorem dX12_hill_28 : decode cX12_hill 28 = .ok (.if_icmp .ge 35, 3) := by decide +kernel
theorem dX12_hill_31 : decode cX12_hill 31 = .ok (.iload_n 3, 1) := by decide +kernel
theorem dX12_hill_32 : decode cX12_hill 32 = .ok (.aload_n 0, 1) := by decide +kernel
theorem dX12_hill_33 : decode cX12_hill 33 = .ok (.getfield 33, 3) := by decide +kernel
theorem dX12_hill_36 : decode cX12_hill 36 = .ok (.sipush 214, 3) := by decide +kernel
theorem dX12_hill_39 : decode cX12_hill 39 = .ok (.iload 4, 2) := by decide +kernel
theorem dX12_hill_41 : decode cX12_hill 41 = .ok (.iadd, 1) := by decide +kernel
theorem dX12_hill_42 : decode cX12_hill 42 = .ok (.iaload, 1) := by decide +kernel
theorem dX12_hill_43 : decode cX12_hill 43 = .ok (.iload_n 1, 1) := by decide +kernel
theorem dX12_hill_44 : decode cX12_hill 44 = .ok (.if_icmp .ne 10, 3) := by decide +kernel
theorem dX12_hill_47 : decode cX12_hill 47 = .ok (.iconst 1, 1) := by decide +kernel
theorem dX12_hill_48 : decode cX12_hill 48 = .ok (.iload 4, 2) := by decide +kernel
theorem dX12_hill_50 : decode cX12_hill 50 = .ok (.ishl, 1) := by decide +kernel
theorem dX12_hill_51 : decode cX12_hill 51 = .ok (.goto 4, 3) := by decide +kernel
theorem dX12_hill_54 : decode cX12_hill 54 = .ok (.iconst 0, 1) := by decide +kernel
theorem dX12_hill_55 : decode cX12_hill 55 = .ok (.ior, 1) := by decide +kernel
theorem dX12_hill_56 : decode cX12_hill 56 = .ok (.istore_n 3, 1) := by decide +kernel
theorem dX12_hill_57 : decode cX12_hill 57 = .ok (.iinc 4 1, 3) := by decide +kernel
theorem dX12_hill_60 : decode cX12_hill 60 = .ok (.goto (-40), 3) := by decide +kernel
theorem dX12_hill_63 : decode cX12_hill 63 = .ok (.iload_n 2, 1) := by decide +kernel
theorem dX12_hill_64 : decode cX12_hill 64 = .ok (.tableswitch 82 0 4 #[36, 46, 56, 66, 80], 36) := by decide +kernel
theorem dX12_hill_100 : decode cX12_hill 100 = .ok (.aload_n 0, 1) := by decide +kernel
theorem dX12_hill_101 : decode cX12_hill 101 = .ok (.getfield 33, 3) := by decide +kernel
theorem dX12_hill_104 : decode cX12_hill 104 = .ok (.bipush 7, 2) := by decide +kernel
theorem dX12_hill_106 : decode cX12_hill 106 = .ok (.iload_n 1, 1) := by decide +kernel
theorem dX12_hill_107 : decode cX12_hill 107 = .ok (.iadd, 1) := by decide +kernel
theorem dX12_hill_108 : decode cX12_hill 108 = .ok (.iaload, 1) := by decide +kernel
theorem dX12_hill_109 : decode cX12_hill 109 = .ok (.ireturn, 1) := by decide +kernel
theorem dX12_hill_110 : decode cX12_hill 110 = .ok (.aload_n 0, 1) := by decide +kernel
theorem dX12_hill_111 : decode cX12_hill 111 = .ok (.getfield 33, 3) := by decide +kernel
theorem dX12_hill_114 : decode cX12_hill 114 = .ok (.bipush 15, 2) := by decide +kernel
theorem dX12_hill_116 : decode cX12_hill 116 = .ok (.iload_n 1, 1) := by decide +kernel
theorem dX12_hill_117 : decode cX12_hill 117 = .ok (.iadd, 1) := by decide +kernel
theorem dX12_hill_118 : decode cX12_hill 118 = .ok (.iaload, 1) := by decide +kernel
theorem dX12_hill_119 : decode cX12_hill 119 = .ok (.ireturn, 1) := by decide +kernel
theorem dX12_hill_120 : decode cX12_hill 120 = .ok (.aload_n 0, 1) := by decide +kernel
theorem dX12_hill_121 : decode cX12_hill 121 = .ok (.getfield 33, 3) := by decide +kernel
theorem dX12_hill_124 : decode cX12_hill 124 = .ok (.bipush 23, 2) := by decide +kernel
theorem dX12_hill_126 : decode cX12_hill 126 = .ok (.iload_n 1, 1) := by decide +kernel
theorem dX12_hill_127 : decode cX12_hill 127 = .ok (.iadd, 1) := by decide +kernel
theorem dX12_hill_128 : decode cX12_hill 128 = .ok (.iaload, 1) := by decide +kernel
theorem dX12_hill_129 : decode cX12_hill 129 = .ok (.ireturn, 1) := by decide +kernel
theorem dX12_hill_130 : decode cX12_hill 130 = .ok (.aload_n 0, 1) := by decide +kernel
