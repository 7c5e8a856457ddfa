theorem dX12_ofMan_179 : decode cX12_ofMan 179 = .ok (.iconst 1, 1) := by decide +kernel
theorem dX12_ofMan_180 : decode cX12_ofMan 180 = .ok (.iaload, 1) := by decide +kernel
theorem dX12_ofMan_181 : decode cX12_ofMan 181 = .ok (.invokevirtual 210, 3) := by decide +kernel
theorem dX12_ofMan_184 : decode cX12_ofMan 184 = .ok (.ifCond .ne 5, 3) := by decide +kernel
theorem dX12_ofMan_187 : decode cX12_ofMan 187 = .ok (.iconst 0, 1) := by decide +kernel
theorem dX12_ofMan_188 : decode cX12_ofMan 188 = .ok (.ireturn, 1) := by decide +kernel
theorem dX12_ofMan_189 : decode cX12_ofMan 189 = .ok (.aload_n 0, 1) := by decide +kernel
theorem dX12_ofMan_190 : decode cX12_ofMan 190 = .ok (.getfield 195, 3) := by decide +kernel
theorem dX12_ofMan_193 : decode cX12_ofMan 193 = .ok (.iload_n 2, 1) := by decide +kernel
theorem dX12_ofMan_194 : decode cX12_ofMan 194 = .ok (.if_icmp .ne 9, 3) := by decide +kernel
theorem dX12_ofMan_197 : decode cX12_ofMan 197 = .ok (.aload_n 0, 1) := by decide +kernel
theorem dX12_ofMan_198 : decode cX12_ofMan 198 = .ok (.iconst 3, 1) := by decide +kernel
theorem dX12_ofMan_199 : decode cX12_ofMan 199 = .ok (.invokevirtual 185, 3) := by decide +kernel
theorem dX12_ofMan_202 : decode cX12_ofMan 202 = .ok (.ireturn, 1) := by decide +kernel
theorem dX12_ofMan_203 : decode cX12_ofMan 203 = .ok (.aload_n 0, 1) := by decide +kernel
theorem dX12_ofMan_204 : decode cX12_ofMan 204 = .ok (.getfield 37, 3) := by decide +kernel
theorem dX12_ofMan_207 : decode cX12_ofMan 207 = .ok (.bipush 63, 2) := by decide +kernel
theorem dX12_ofMan_209 : decode cX12_ofMan 209 = .ok (.iload_n 2, 1) := by decide +kernel
theorem dX12_ofMan_210 : decode cX12_ofMan 210 = .ok (.iadd, 1) := by decide +kernel
theorem dX12_ofMan_211 : decode cX12_ofMan 211 = .ok (.aload_n 0, 1) := by decide +kernel
theorem dX12_ofMan_212 : decode cX12_ofMan 212 = .ok (.getfield 195, 3) := by decide +kernel
theorem dX12_ofMan_215 : decode cX12_ofMan 215 = .ok (.iconst 1, 1) := by decide +kernel
theorem dX12_ofMan_216 : decode cX12_ofMan 216 = .ok (.iadd, 1) := by decide +kernel
theorem dX12_ofMan_217 : decode cX12_ofMan 217 = .ok (.iastore, 1) := by decide +kernel
theorem dX12_ofMan_218 : decode cX12_ofMan 218 = .ok (.aload_n 0, 1) := by decide +kernel
theorem dX12_ofMan_219 : decode cX12_ofMan 219 = .ok (.invokevirtual 188, 3) := by decide +kernel
theorem dX12_ofMan_222 : decode cX12_ofMan 222 = .ok (.iconst 1, 1) := by decide +kernel
theorem dX12_ofMan_223 : decode cX12_ofMan 223 = .ok (.ireturn, 1) := by decide +kernel
set_option maxRecDepth 20000 in
theorem ggX12_readFlight_X12_bad : GoodIn wsX12_readFlight wsX12_bad := goodIn_r _ [8, 9, 10, 11, 48, 49, 50, 51, 52, 53, 54, 55, 56, 57, 58, 59, 60, 61, 62, 63, 64, 65, 66, 67, 68, 69, 70, 71, 72, 73, 74, 75, 76, 77, 78, 79, 80, 81, 82, 83, 84, 85, 86, 87, 88, 89, 90, 91, 92, 93, 94] rfl (by decide +kernel)
set_option maxRecDepth 20000 in
theorem gX12_readFlight_X12_bad : GoodIn wsX12_readFlight (wsV RX12 185 RX12 yX12_bad wsX12_bad) := goodIn_app (goodIn_of _ (by decide +kernel)) ggX12_readFlight_X12_bad
set_option maxRecDepth 20000 in
theorem ggX12_readFlight_X12_next : GoodIn wsX12_readFlight wsX12_next := goodIn_r _ [15, 16, 10, 17, 18, 19, 2, 20, 21, 22, 23, 24, 7, 25, 26, 27, 28, 29, 30, 31, 32, 48, 49, 50, 51, 52, 53, 54, 55, 56, 57, 58, 59, 60, 61, 62, 63, 64, 65, 66, 67, 68, 69, 70, 71, 72, 73, 74, 75, 76, 77, 78, 79, 80, 81, 82, 83, 84, 85, 86, 87, 88, 89, 90, 91, 92, 93, 94] rfl (by decide +kernel)
set_option maxRecDepth 20000 in
theorem gX12_readFlight_X12_next : GoodIn wsX12_readFlight (wsV RX12 188 RX12 yX12_next wsX12_next) := goodIn_app (goodIn_of _ (by decide +kernel)) ggX12_readFlight_X12_next
set_option maxRecDepth 20000 in
theorem ggX12_readFlight_X12_puts : GoodIn wsX12_readFlight wsX12_puts := goodIn_r _ [36, 1, 3, 37, 38, 39, 7, 40, 2, 20, 4, 5, 6, 8, 9, 10, 11, 41, 42, 43, 12, 13, 14, 15, 16, 17, 18, 19, 21, 22, 23, 24, 25, 26, 27, 28, 29, 30, 31, 32, 48, 49, 50, 51, 52, 53, 54, 55, 56, 57, 58, 59, 60, 61, 62, 63, 64, 65, 66, 67, 68, 69, 70, 71, 72, 73, 74, 75, 76, 77, 78, 79, 80, 81, 82, 83, 84, 85, 86, 87, 88, 89, 90, 91, 92, 93, 94] rfl (by decide +kernel)
set_option maxRecDepth 20000 in
theorem gX12_readFlight_X12_puts : GoodIn wsX12_readFlight (wsV RX12 226 RX12 yX12_puts wsX12_puts) := goodIn_app (goodIn_of _ (by decide +kernel)) ggX12_readFlight_X12_puts
set_option maxRecDepth 20000 in
theorem ggX12_readFlight_X12_isSign : GoodIn wsX12_readFlight wsX12_isSign := goodIn_r _ [47, 2, 20, 48, 49, 50, 51, 52, 53, 54, 55, 56, 57, 58, 59, 60, 61, 62, 63, 64, 65, 66, 67, 68, 69, 70, 71, 72, 73, 74, 75, 76, 77, 78, 79, 80, 81, 82, 83, 84, 85, 86, 87, 88, 89, 90, 91, 92, 93, 94] rfl (by decide +kernel)
set_option maxRecDepth 20000 in
theorem gX12_readFlight_X12_isSign : GoodIn wsX12_readFlight (wsV RX12 182 RX12 yX12_isSign wsX12_isSign) := goodIn_app (goodIn_of _ (by decide +kernel)) ggX12_readFlight_X12_isSign
theorem dX12_readFlight_0 : decode cX12_readFlight 0 = .ok (.aload_n 0, 1) := by decide +kernel
theorem dX12_readFlight_1 : decode cX12_readFlight 1 = .ok (.getfield 37, 3) := by decide +kernel
theorem dX12_readFlight_4 : decode cX12_readFlight 4 = .ok (.iconst 2, 1) := by decide +kernel
theorem dX12_readFlight_5 : decode cX12_readFlight 5 = .ok (.iaload, 1) := by decide +kernel
theorem dX12_readFlight_6 : decode cX12_readFlight 6 = .ok (.istore_n 1, 1) := by decide +kernel
theorem dX12_readFlight_7 : decode cX12_readFlight 7 = .ok (.iload_n 1, 1) := by decide +kernel
theorem dX12_readFlight_8 : decode cX12_readFlight 8 = .ok (.iconst 4, 1) := by decide +kernel
theorem dX12_readFlight_9 : decode cX12_readFlight 9 = .ok (.if_icmp .ne 9, 3) := by decide +kernel
theorem dX12_readFlight_12 : decode cX12_readFlight 12 = .ok (.aload_n 0, 1) := by decide +kernel
theorem dX12_readFlight_13 : decode cX12_readFlight 13 = .ok (.iconst 4, 1) := by decide +kernel
theorem dX12_readFlight_14 : decode cX12_readFlight 14 = .ok (.invokevirtual 185, 3) := by decide +kernel
theorem dX12_readFlight_17 : decode cX12_readFlight 17 = .ok (.ireturn, 1) := by decide +kernel
theorem dX12_readFlight_18 : decode cX12_readFlight 18 = .ok (.aload_n 0, 1) := by decide +kernel
theorem dX12_readFlight_19 : decode cX12_readFlight 19 = .ok (.invokevirtual 188, 3) := by decide +kernel
theorem dX12_readFlight_22 : decode cX12_readFlight 22 = .ok (.aload_n 0, 1) := by decide +kernel
theorem dX12_readFlight_23 : decode cX12_readFlight 23 = .ok (.bipush 79, 2) := by decide +kernel
theorem dX12_readFlight_25 : decode cX12_readFlight 25 = .ok (.iload_n 1, 1) := by decide +kernel
theorem dX12_readFlight_26 : decode cX12_readFlight 26 = .ok (.iadd, 1) := by decide +kernel
theorem dX12_readFlight_27 : decode cX12_readFlight 27 = .ok (.iconst 1, 1) := by decide +kernel
theorem dX12_readFlight_28 : decode cX12_readFlight 28 = .ok (.bipush 9, 2) := by decide +kernel
theorem dX12_readFlight_30 : decode cX12_readFlight 30 = .ok (.invokevirtual 226, 3) := by decide +kernel
theorem dX12_readFlight_33 : decode cX12_readFlight 33 = .ok (.ifCond .eq 17, 3) := by decide +kernel
theorem dX12_readFlight_36 : decode cX12_readFlight 36 = .ok (.aload_n 0, 1) := by decide +kernel
theorem dX12_readFlight_37 : decode cX12_readFlight 37 = .ok (.bipush 83, 2) := by decide +kernel
theorem dX12_readFlight_39 : decode cX12_readFlight 39 = .ok (.iload_n 1, 1) := by decide +kernel
theorem dX12_readFlight_40 : decode cX12_readFlight 40 = .ok (.iadd, 1) := by decide +kernel
theorem dX12_readFlight_41 : decode cX12_readFlight 41 = .ok (.iconst 0, 1) := by decide +kernel
theorem dX12_readFlight_42 : decode cX12_readFlight 42 = .ok (.bipush 20, 2) := by decide +kernel
theorem dX12_readFlight_44 : decode cX12_readFlight 44 = .ok (.invokevirtual 226, 3) := by decide +kernel
theorem dX12_readFlight_47 : decode cX12_readFlight 47 = .ok (.ifCond .ne 5, 3) := by decide +kernel
theorem dX12_readFlight_50 : decode cX12_readFlight 50 = .ok (.iconst 0, 1) := by decide +kernel
theorem dX12_readFlight_51 : decode cX12_readFlight 51 = .ok (.ireturn, 1) := by decide +kernel
theorem dX12_readFlight_52 : decode cX12_readFlight 52 = .ok (.iconst 0, 1) := by decide +kernel
theorem dX12_readFlight_53 : decode cX12_readFlight 53 = .ok (.istore_n 2, 1) := by decide +kernel
theorem dX12_readFlight_54 : decode cX12_readFlight 54 = .ok (.iconst (-1), 1) := by decide +kernel
theorem dX12_readFlight_55 : decode cX12_readFlight 55 = .ok (.istore_n 3, 1) := by decide +kernel
theorem dX12_readFlight_56 : decode cX12_readFlight 56 = .ok (.aload_n 0, 1) := by decide +kernel
theorem dX12_readFlight_57 : decode cX12_readFlight 57 = .ok (.bipush 59, 2) := by decide +kernel
theorem dX12_readFlight_59 : decode cX12_readFlight 59 = .ok (.invokevirtual 182, 3) := by decide +kernel
theorem dX12_readFlight_62 : decode cX12_readFlight 62 = .ok (.ifCond .ne 101, 3) := by decide +kernel
theorem dX12_readFlight_65 : decode cX12_readFlight 65 = .ok (.aload_n 0, 1) := by decide +kernel
theorem dX12_readFlight_66 : decode cX12_readFlight 66 = .ok (.getfield 159, 3) := by decide +kernel
theorem dX12_readFlight_69 : decode cX12_readFlight 69 = .ok (.iconst 2, 1) := by decide +kernel
theorem dX12_readFlight_70 : decode cX12_readFlight 70 = .ok (.if_icmp .eq 9, 3) := by decide +kernel
theorem dX12_readFlight_73 : decode cX12_readFlight 73 = .ok (.aload_n 0, 1) := by decide +kernel
theorem dX12_readFlight_74 : decode cX12_readFlight 74 = .ok (.iconst 1, 1) := by decide +kernel
theorem dX12_readFlight_75 : decode cX12_readFlight 75 = .ok (.invokevirtual 185, 3) := by decide +kernel
theorem dX12_readFlight_78 : decode cX12_readFlight 78 = .ok (.ireturn, 1) := by decide +kernel
theorem dX12_readFlight_79 : decode cX12_readFlight 79 = .ok (.iload_n 2, 1) := by decide +kernel
theorem dX12_readFlight_80 : decode cX12_readFlight 80 = .ok (.bipush 10, 2) := by decide +kernel
theorem dX12_readFlight_82 : decode cX12_readFlight 82 = .ok (.if_icmp .ne 9, 3) := by decide +kernel
theorem dX12_readFlight_85 : decode cX12_readFlight 85 = .ok (.aload_n 0, 1) := by decide +kernel
theorem dX12_readFlight_86 : decode cX12_readFlight 86 = .ok (.iconst 4, 1) := by decide +kernel
theorem dX12_readFlight_87 : decode cX12_readFlight 87 = .ok (.invokevirtual 185, 3) := by decide +kernel
theorem dX12_readFlight_90 : decode cX12_readFlight 90 = .ok (.ireturn, 1) := by decide +kernel
theorem dX12_readFlight_91 : decode cX12_readFlight 91 = .ok (.bipush 10, 2) := by decide +kernel
theorem dX12_readFlight_93 : decode cX12_readFlight 93 = .ok (.iload_n 1, 1) := by decide +kernel
theorem dX12_readFlight_94 : decode cX12_readFlight 94 = .ok (.imul, 1) := by decide +kernel
theorem dX12_readFlight_95 : decode cX12_readFlight 95 = .ok (.iload_n 2, 1) := by decide +kernel
theorem dX12_readFlight_96 : decode cX12_readFlight 96 = .ok (.iadd, 1) := by decide +kernel
theorem dX12_readFlight_97 : decode cX12_readFlight 97 = .ok (.istore 4, 2) := by decide +kernel
theorem dX12_readFlight_99 : decode cX12_readFlight 99 = .ok (.aload_n 0, 1) := by decide +kernel
theorem dX12_readFlight_100 : decode cX12_readFlight 100 = .ok (.bipush 91, 2) := by decide +kernel
theorem dX12_readFlight_102 : decode cX12_readFlight 102 = .ok (.iload 4, 2) := by decide +kernel
theorem dX12_readFlight_104 : decode cX12_readFlight 104 = .ok (.iadd, 1) := by decide +kernel
theorem dX12_readFlight_105 : decode cX12_readFlight 105 = .ok (.iload_n 3, 1) := by decide +kernel
theorem dX12_readFlight_106 : decode cX12_readFlight 106 = .ok (.iconst 1, 1) := by decide +kernel
theorem dX12_readFlight_107 : decode cX12_readFlight 107 = .ok (.iadd, 1) := by decide +kernel
theorem dX12_readFlight_108 : decode cX12_readFlight 108 = .ok (.bipush 99, 2) := by decide +kernel
theorem dX12_readFlight_110 : decode cX12_readFlight 110 = .ok (.invokevirtual 226, 3) := by decide +kernel
theorem dX12_readFlight_113 : decode cX12_readFlight 113 = .ok (.ifCond .ne 5, 3) := by decide +kernel
theorem dX12_readFlight_116 : decode cX12_readFlight 116 = .ok (.iconst 0, 1) := by decide +kernel
theorem dX12_readFlight_117 : decode cX12_readFlight 117 = .ok (.ireturn, 1) := by decide +kernel
theorem dX12_readFlight_118 : decode cX12_readFlight 118 = .ok (.aload_n 0, 1) := by decide +kernel
theorem dX12_readFlight_119 : decode cX12_readFlight 119 = .ok (.getfield 195, 3) := by decide +kernel
theorem dX12_readFlight_122 : decode cX12_readFlight 122 = .ok (.istore_n 3, 1) := by decide +kernel
theorem dX12_readFlight_123 : decode cX12_readFlight 123 = .ok (.aload_n 0, 1) := by decide +kernel
theorem dX12_readFlight_124 : decode cX12_readFlight 124 = .ok (.sipush 131, 3) := by decide +kernel
theorem dX12_readFlight_127 : decode cX12_readFlight 127 = .ok (.iload 4, 2) := by decide +kernel
theorem dX12_readFlight_129 : decode cX12_readFlight 129 = .ok (.iadd, 1) := by decide +kernel
theorem dX12_readFlight_130 : decode cX12_readFlight 130 = .ok (.iconst 0, 1) := by decide +kernel
theorem dX12_readFlight_131 : decode cX12_readFlight 131 = .ok (.bipush 20, 2) := by decide +kernel
theorem dX12_readFlight_133 : decode cX12_readFlight 133 = .ok (.invokevirtual 226, 3) := by decide +kernel
theorem dX12_readFlight_136 : decode cX12_readFlight 136 = .ok (.ifCond .eq 19, 3) := by decide +kernel
theorem dX12_readFlight_139 : decode cX12_readFlight 139 = .ok (.aload_n 0, 1) := by decide +kernel
theorem dX12_readFlight_140 : decode cX12_readFlight 140 = .ok (.sipush 171, 3) := by decide +kernel
theorem dX12_readFlight_143 : decode cX12_readFlight 143 = .ok (.iload 4, 2) := by decide +kernel
theorem dX12_readFlight_145 : decode cX12_readFlight 145 = .ok (.iadd, 1) := by decide +kernel
theorem dX12_readFlight_146 : decode cX12_readFlight 146 = .ok (.iconst 0, 1) := by decide +kernel
theorem dX12_readFlight_147 : decode cX12_readFlight 147 = .ok (.bipush 20, 2) := by decide +kernel
theorem dX12_readFlight_149 : decode cX12_readFlight 149 = .ok (.invokevirtual 226, 3) := by decide +kernel
theorem dX12_readFlight_152 : decode cX12_readFlight 152 = .ok (.ifCond .ne 5, 3) := by decide +kernel
theorem dX12_readFlight_155 : decode cX12_readFlight 155 = .ok (.iconst 0, 1) := by decide +kernel
theorem dX12_readFlight_156 : decode cX12_readFlight 156 = .ok (.ireturn, 1) := by decide +kernel
theorem dX12_readFlight_157 : decode cX12_readFlight 157 = .ok (.iinc 2 1, 3) := by decide +kernel
theorem dX12_readFlight_160 : decode cX12_readFlight 160 = .ok (.goto (-104), 3) := by decide +kernel
theorem dX12_readFlight_163 : decode cX12_readFlight 163 = .ok (.aload_n 0, 1) := by decide +kernel
theorem dX12_readFlight_164 : decode cX12_readFlight 164 = .ok (.getfield 37, 3) := by decide +kernel
theorem dX12_readFlight_167 : decode cX12_readFlight 167 = .ok (.bipush 87, 2) := by decide +kernel
theorem dX12_readFlight_169 : decode cX12_readFlight 169 = .ok (.iload_n 1, 1) := by decide +kernel
theorem dX12_readFlight_170 : decode cX12_readFlight 170 = .ok (.iadd, 1) := by decide +kernel
theorem dX12_readFlight_171 : decode cX12_readFlight 171 = .ok (.iload_n 2, 1) := by decide +kernel
theorem dX12_readFlight_172 : decode cX12_readFlight 172 = .ok (.iastore, 1) := by decide +kernel
theorem dX12_readFlight_173 : decode cX12_readFlight 173 = .ok (.aload_n 0, 1) := by decide +kernel
theorem dX12_readFlight_174 : decode cX12_readFlight 174 = .ok (.getfield 37, 3) := by decide +kernel
theorem dX12_readFlight_177 : decode cX12_readFlight 177 = .ok (.iconst 2, 1) := by decide +kernel
theorem dX12_readFlight_178 : decode cX12_readFlight 178 = .ok (.dup2, 1) := by decide +kernel
theorem dX12_readFlight_179 : decode cX12_readFlight 179 = .ok (.iaload, 1) := by decide +kernel
theorem dX12_readFlight_180 : decode cX12_readFlight 180 = .ok (.iconst 1, 1) := by decide +kernel
theorem dX12_readFlight_181 : decode cX12_readFlight 181 = .ok (.iadd, 1) := by decide +kernel
theorem dX12_readFlight_182 : decode cX12_readFlight 182 = .ok (.iastore, 1) := by decide +kernel
theorem dX12_readFlight_183 : decode cX12_readFlight 183 = .ok (.iconst 1, 1) := by decide +kernel
theorem dX12_readFlight_184 : decode cX12_readFlight 184 = .ok (.ireturn, 1) := by decide +kernel
set_option maxRecDepth 20000 in
theorem ggX12_valley_X12_taken : GoodIn wsX12_valley wsX12_taken := goodIn_r _ [16, 17, 18, 19, 20, 122, 123, 124, 125, 126, 127, 128, 129, 130, 131, 132, 133, 134, 135, 136, 137, 138, 139, 140, 141, 142, 143, 144, 145, 146, 147, 148, 149, 150, 151, 152, 153, 154, 155, 156, 157, 158, 159, 160, 161, 162, 163, 164, 165, 166, 167, 168] rfl (by decide +kernel)
set_option maxRecDepth 20000 in
theorem gX12_valley_X12_taken : GoodIn wsX12_valley (wsV RX12 244 RX12 yX12_taken wsX12_taken) := goodIn_app (goodIn_of _ (by decide +kernel)) ggX12_valley_X12_taken
set_option maxRecDepth 20000 in
theorem ggX12_valley_X12_next : GoodIn wsX12_valley wsX12_next := goodIn_r _ [24, 19, 25, 26, 18, 20, 7, 27, 28, 29, 30, 31, 15, 32, 33, 34, 35, 36, 37, 38, 39, 122, 123, 124, 125, 126, 127, 128, 129, 130, 131, 132, 133, 134, 135, 136, 137, 138, 139, 140, 141, 142, 143, 144, 145, 146, 147, 148, 149, 150, 151, 152, 153, 154, 155, 156, 157, 158, 159, 160, 161, 162, 163, 164, 165, 166, 167, 168] rfl (by decide +kernel)
set_option maxRecDepth 20000 in
theorem gX12_valley_X12_next : GoodIn wsX12_valley (wsV RX12 188 RX12 yX12_next wsX12_next) := goodIn_app (goodIn_of _ (by decide +kernel)) ggX12_valley_X12_next
set_option maxRecDepth 20000 in
theorem ggX12_valley_X12_line : GoodIn wsX12_valley wsX12_line := goodIn_r _ [43, 44, 45, 46, 47, 48, 49, 50, 6, 51, 52, 5, 53, 54, 55, 56, 57, 58, 15, 59, 7, 28, 60, 61, 62, 63, 4, 64, 65, 66, 67, 68, 69, 70, 2, 25, 8, 21, 22, 23, 24, 19, 26, 18, 20, 27, 29, 30, 31, 32, 33, 34, 35, 36, 37, 38, 39, 71, 72, 73, 74, 75, 76, 77, 78, 79, 80, 81, 82, 83, 84, 85, 10, 86, 87, 88, 89, 90, 91, 92, 93, 94, 95, 96, 97, 98, 99, 100, 101, 102, 103, 104, 105, 106, 107, 108, 109, 110, 111, 112, 113, 114, 115, 116, 117, 122, 123, 124, 125, 126, 127, 128, 129, 130, 131, 132, 133, 134, 135, 136, 137, 138, 139, 140, 141, 142, 143, 144, 145, 146, 147, 148, 149, 150, 151, 152, 153, 154, 155, 156, 157, 158, 159, 160, 161, 162, 163, 164, 165, 166, 167, 168] rfl (by decide +kernel)
set_option maxRecDepth 20000 in
theorem gX12_valley_X12_line : GoodIn wsX12_valley (wsV RX12 250 RX12 yX12_line wsX12_line) := goodIn_app (goodIn_of _ (by decide +kernel)) ggX12_valley_X12_line
set_option maxRecDepth 20000 in
theorem ggX12_valley_X12_sign : GoodIn wsX12_valley wsX12_sign := goodIn_r _ [121, 107, 108, 109, 15, 110, 7, 27, 67, 68, 69, 70, 2, 25, 8, 21, 22, 23, 24, 19, 26, 18, 20, 28, 29, 30, 31, 32, 33, 34, 35, 36, 37, 38, 39, 122, 123, 124, 125, 126, 127, 128, 129, 130, 131, 132, 133, 134, 135, 136, 137, 138, 139, 140, 141, 142, 143, 144, 145, 146, 147, 148, 149, 150, 151, 152, 153, 154, 155, 156, 157, 158, 159, 160, 161, 162, 163, 164, 165, 166, 167, 168] rfl (by decide +kernel)
set_option maxRecDepth 20000 in
theorem gX12_valley_X12_sign : GoodIn wsX12_valley (wsV RX12 253 RX12 yX12_sign wsX12_sign) := goodIn_app (goodIn_of _ (by decide +kernel)) ggX12_valley_X12_sign
theorem dX12_valley_0 : decode cX12_valley 0 = .ok (.aload_n 0, 1) := by decide +kernel
theorem dX12_valley_1 : decode cX12_valley 1 = .ok (.iconst 0, 1) := by decide +kernel
theorem dX12_valley_2 : decode cX12_valley 2 = .ok (.putfield 1, 3) := by decide +kernel
theorem dX12_valley_5 : decode cX12_valley 5 = .ok (.aload_n 0, 1) := by decide +kernel
theorem dX12_valley_6 : decode cX12_valley 6 = .ok (.sipush 900, 3) := by decide +kernel
theorem dX12_valley_9 : decode cX12_valley 9 = .ok (.invokevirtual 244, 3) := by decide +kernel
theorem dX12_valley_12 : decode cX12_valley 12 = .ok (.aload_n 0, 1) := by decide +kernel
theorem dX12_valley_13 : decode cX12_valley 13 = .ok (.iconst 0, 1) := by decide +kernel
theorem dX12_valley_14 : decode cX12_valley 14 = .ok (.putfield 176, 3) := by decide +kernel
theorem dX12_valley_17 : decode cX12_valley 17 = .ok (.aload_n 0, 1) := by decide +kernel
theorem dX12_valley_18 : decode cX12_valley 18 = .ok (.iconst 0, 1) := by decide +kernel
theorem dX12_valley_19 : decode cX12_valley 19 = .ok (.putfield 247, 3) := by decide +kernel
theorem dX12_valley_22 : decode cX12_valley 22 = .ok (.aload_n 0, 1) := by decide +kernel
theorem dX12_valley_23 : decode cX12_valley 23 = .ok (.iconst 0, 1) := by decide +kernel
theorem dX12_valley_24 : decode cX12_valley 24 = .ok (.putfield 213, 3) := by decide +kernel
theorem dX12_valley_27 : decode cX12_valley 27 = .ok (.aload_n 0, 1) := by decide +kernel
theorem dX12_valley_28 : decode cX12_valley 28 = .ok (.iconst 0, 1) := by decide +kernel
theorem dX12_valley_29 : decode cX12_valley 29 = .ok (.putfield 232, 3) := by decide +kernel
theorem dX12_valley_32 : decode cX12_valley 32 = .ok (.iconst 0, 1) := by decide +kernel
theorem dX12_valley_33 : decode cX12_valley 33 = .ok (.istore_n 1, 1) := by decide +kernel
theorem dX12_valley_34 : decode cX12_valley 34 = .ok (.iload_n 1, 1) := by decide +kernel
theorem dX12_valley_35 : decode cX12_valley 35 = .ok (.sipush 211, 3) := by decide +kernel
theorem dX12_valley_38 : decode cX12_valley 38 = .ok (.if_icmp .ge 16, 3) := by decide +kernel
theorem dX12_valley_41 : decode cX12_valley 41 = .ok (.aload_n 0, 1) := by decide +kernel
theorem dX12_valley_42 : decode cX12_valley 42 = .ok (.getfield 37, 3) := by decide +kernel
theorem dX12_valley_45 : decode cX12_valley 45 = .ok (.iload_n 1, 1) := by decide +kernel
theorem dX12_valley_46 : decode cX12_valley 46 = .ok (.iconst 0, 1) := by decide +kernel
theorem dX12_valley_47 : decode cX12_valley 47 = .ok (.iastore, 1) := by decide +kernel
theorem dX12_valley_48 : decode cX12_valley 48 = .ok (.iinc 1 1, 3) := by decide +kernel
theorem dX12_valley_51 : decode cX12_valley 51 = .ok (.goto (-17), 3) := by decide +kernel
theorem dX12_valley_54 : decode cX12_valley 54 = .ok (.aload_n 0, 1) := by decide +kernel
theorem dX12_valley_55 : decode cX12_valley 55 = .ok (.getfield 37, 3) := by decide +kernel
theorem dX12_valley_58 : decode cX12_valley 58 = .ok (.iconst 3, 1) := by decide +kernel
theorem dX12_valley_59 : decode cX12_valley 59 = .ok (.bipush 99, 2) := by decide +kernel
theorem dX12_valley_61 : decode cX12_valley 61 = .ok (.iastore, 1) := by decide +kernel
theorem dX12_valley_62 : decode cX12_valley 62 = .ok (.aload_n 0, 1) := by decide +kernel
theorem dX12_valley_63 : decode cX12_valley 63 = .ok (.getfield 37, 3) := by decide +kernel
theorem dX12_valley_66 : decode cX12_valley 66 = .ok (.iconst 4, 1) := by decide +kernel
theorem dX12_valley_67 : decode cX12_valley 67 = .ok (.bipush 99, 2) := by decide +kernel
theorem dX12_valley_69 : decode cX12_valley 69 = .ok (.iastore, 1) := by decide +kernel
theorem dX12_valley_70 : decode cX12_valley 70 = .ok (.aload_n 0, 1) := by decide +kernel
theorem dX12_valley_71 : decode cX12_valley 71 = .ok (.invokevirtual 188, 3) := by decide +kernel
theorem dX12_valley_74 : decode cX12_valley 74 = .ok (.aload_n 0, 1) := by decide +kernel
theorem dX12_valley_75 : decode cX12_valley 75 = .ok (.getfield 159, 3) := by decide +kernel
theorem dX12_valley_78 : decode cX12_valley 78 = .ok (.ifCond .eq 39, 3) := by decide +kernel
theorem dX12_valley_81 : decode cX12_valley 81 = .ok (.aload_n 0, 1) := by decide +kernel
theorem dX12_valley_82 : decode cX12_valley 82 = .ok (.invokevirtual 250, 3) := by decide +kernel
theorem dX12_valley_85 : decode cX12_valley 85 = .ok (.ifCond .eq 12, 3) := by decide +kernel
theorem dX12_valley_88 : decode cX12_valley 88 = .ok (.aload_n 0, 1) := by decide +kernel
theorem dX12_valley_89 : decode cX12_valley 89 = .ok (.bipush 59, 2) := by decide +kernel
theorem dX12_valley_91 : decode cX12_valley 91 = .ok (.invokevirtual 253, 3) := by decide +kernel
theorem dX12_valley_94 : decode cX12_valley 94 = .ok (.ifCond .ne 10, 3) := by decide +kernel
theorem dX12_valley_97 : decode cX12_valley 97 = .ok (.iconst (-1), 1) := by decide +kernel
theorem dX12_valley_98 : decode cX12_valley 98 = .ok (.aload_n 0, 1) := by decide +kernel
theorem dX12_valley_99 : decode cX12_valley 99 = .ok (.getfield 179, 3) := by decide +kernel
theorem dX12_valley_102 : decode cX12_valley 102 = .ok (.isub, 1) := by decide +kernel
theorem dX12_valley_103 : decode cX12_valley 103 = .ok (.ireturn, 1) := by decide +kernel
theorem dX12_valley_104 : decode cX12_valley 104 = .ok (.aload_n 0, 1) := by decide +kernel
theorem dX12_valley_105 : decode cX12_valley 105 = .ok (.dup, 1) := by decide +kernel
theorem dX12_valley_106 : decode cX12_valley 106 = .ok (.getfield 247, 3) := by decide +kernel
theorem dX12_valley_109 : decode cX12_valley 109 = .ok (.iconst 1, 1) := by decide +kernel
