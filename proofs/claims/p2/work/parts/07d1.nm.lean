set_option maxRecDepth 20000 in
theorem gX12_ofMan_X12_bad : GoodIn wsX12_ofMan (wsV RX12 185 RX12 yX12_bad wsX12_bad) := goodIn_app (goodIn_of _ (by decide +kernel)) ggX12_ofMan_X12_bad
set_option maxRecDepth 20000 in
theorem ggX12_ofMan_X12_next : GoodIn wsX12_ofMan wsX12_next := goodIn_r _ [23, 24, 18, 25, 26, 27, 11, 28, 12, 29, 30, 31, 9, 32, 33, 34, 35, 36, 37, 38, 39, 61, 62, 63, 64, 65, 66, 67, 68, 69, 70, 71, 72, 73, 74, 75, 76, 77, 78, 79, 80, 81, 82, 83, 84, 85, 86, 87, 88, 89, 90, 91, 92, 93, 94, 95, 96, 97, 98, 99, 100, 101, 102, 103, 104, 105, 106, 107] rfl (by decide +kernel)
set_option maxRecDepth 20000 in
theorem gX12_ofMan_X12_next : GoodIn wsX12_ofMan (wsV RX12 188 RX12 yX12_next wsX12_next) := goodIn_app (goodIn_of _ (by decide +kernel)) ggX12_ofMan_X12_next
set_option maxRecDepth 20000 in
theorem ggX12_ofMan_X12_looksAt : GoodIn wsX12_ofMan wsX12_looksAt := goodIn_r _ [43, 5, 44, 45, 46, 9, 47, 11, 12, 48, 13, 14, 15, 16, 17, 18, 19, 49, 50, 51, 52, 53, 61, 62, 63, 64, 65, 66, 67, 68, 69, 70, 71, 72, 73, 74, 75, 76, 77, 78, 79, 80, 81, 82, 83, 84, 85, 86, 87, 88, 89, 90, 91, 92, 93, 94, 95, 96, 97, 98, 99, 100, 101, 102, 103, 104, 105, 106, 107] rfl (by decide +kernel)
set_option maxRecDepth 20000 in
theorem gX12_ofMan_X12_looksAt : GoodIn wsX12_ofMan (wsV RX12 210 RX12 yX12_looksAt wsX12_looksAt) := goodIn_app (goodIn_of _ (by decide +kernel)) ggX12_ofMan_X12_looksAt
set_option maxRecDepth 20000 in
theorem ggX12_ofMan_X12_takes : GoodIn wsX12_ofMan wsX12_takes := goodIn_r _ [57, 11, 28, 5, 13, 14, 15, 9, 16, 17, 18, 19, 58, 59, 60, 20, 21, 22, 23, 24, 25, 26, 27, 12, 29, 30, 31, 32, 33, 34, 35, 36, 37, 38, 39, 61, 62, 63, 64, 65, 66, 67, 68, 69, 70, 71, 72, 73, 74, 75, 76, 77, 78, 79, 80, 81, 82, 83, 84, 85, 86, 87, 88, 89, 90, 91, 92, 93, 94, 95, 96, 97, 98, 99, 100, 101, 102, 103, 104, 105, 106, 107] rfl (by decide +kernel)
set_option maxRecDepth 20000 in
theorem gX12_ofMan_X12_takes : GoodIn wsX12_ofMan (wsV RX12 198 RX12 yX12_takes wsX12_takes) := goodIn_app (goodIn_of _ (by decide +kernel)) ggX12_ofMan_X12_takes
theorem dX12_ofMan_0 : decode cX12_ofMan 0 = .ok (.aload_n 0, 1) := by decide +kernel
theorem dX12_ofMan_1 : decode cX12_ofMan 1 = .ok (.ldc2_w 107, 3) := by decide +kernel
theorem dX12_ofMan_4 : decode cX12_ofMan 4 = .ok (.invokevirtual 219, 3) := by decide +kernel
theorem dX12_ofMan_7 : decode cX12_ofMan 7 = .ok (.ifCond .eq 7, 3) := by decide +kernel
theorem dX12_ofMan_10 : decode cX12_ofMan 10 = .ok (.iconst 0, 1) := by decide +kernel
theorem dX12_ofMan_11 : decode cX12_ofMan 11 = .ok (.goto 32, 3) := by decide +kernel
theorem dX12_ofMan_14 : decode cX12_ofMan 14 = .ok (.aload_n 0, 1) := by decide +kernel
theorem dX12_ofMan_15 : decode cX12_ofMan 15 = .ok (.ldc2_w 109, 3) := by decide +kernel
theorem dX12_ofMan_18 : decode cX12_ofMan 18 = .ok (.invokevirtual 219, 3) := by decide +kernel
theorem dX12_ofMan_21 : decode cX12_ofMan 21 = .ok (.ifCond .eq 7, 3) := by decide +kernel
theorem dX12_ofMan_24 : decode cX12_ofMan 24 = .ok (.iconst 1, 1) := by decide +kernel
theorem dX12_ofMan_25 : decode cX12_ofMan 25 = .ok (.goto 18, 3) := by decide +kernel
theorem dX12_ofMan_28 : decode cX12_ofMan 28 = .ok (.aload_n 0, 1) := by decide +kernel
theorem dX12_ofMan_29 : decode cX12_ofMan 29 = .ok (.ldc2_w 111, 3) := by decide +kernel
theorem dX12_ofMan_32 : decode cX12_ofMan 32 = .ok (.invokevirtual 219, 3) := by decide +kernel
theorem dX12_ofMan_35 : decode cX12_ofMan 35 = .ok (.ifCond .eq 7, 3) := by decide +kernel
theorem dX12_ofMan_38 : decode cX12_ofMan 38 = .ok (.iconst 2, 1) := by decide +kernel
theorem dX12_ofMan_39 : decode cX12_ofMan 39 = .ok (.goto 4, 3) := by decide +kernel
theorem dX12_ofMan_42 : decode cX12_ofMan 42 = .ok (.iconst (-1), 1) := by decide +kernel
theorem dX12_ofMan_43 : decode cX12_ofMan 43 = .ok (.istore_n 1, 1) := by decide +kernel
theorem dX12_ofMan_44 : decode cX12_ofMan 44 = .ok (.iload_n 1, 1) := by decide +kernel
theorem dX12_ofMan_45 : decode cX12_ofMan 45 = .ok (.ifCond .ge 9, 3) := by decide +kernel
theorem dX12_ofMan_48 : decode cX12_ofMan 48 = .ok (.aload_n 0, 1) := by decide +kernel
theorem dX12_ofMan_49 : decode cX12_ofMan 49 = .ok (.iconst 1, 1) := by decide +kernel
theorem dX12_ofMan_50 : decode cX12_ofMan 50 = .ok (.invokevirtual 185, 3) := by decide +kernel
theorem dX12_ofMan_53 : decode cX12_ofMan 53 = .ok (.ireturn, 1) := by decide +kernel
theorem dX12_ofMan_54 : decode cX12_ofMan 54 = .ok (.aload_n 0, 1) := by decide +kernel
theorem dX12_ofMan_55 : decode cX12_ofMan 55 = .ok (.invokevirtual 188, 3) := by decide +kernel
theorem dX12_ofMan_58 : decode cX12_ofMan 58 = .ok (.aload_n 0, 1) := by decide +kernel
theorem dX12_ofMan_59 : decode cX12_ofMan 59 = .ok (.bipush 24, 2) := by decide +kernel
theorem dX12_ofMan_61 : decode cX12_ofMan 61 = .ok (.aload_n 0, 1) := by decide +kernel
theorem dX12_ofMan_62 : decode cX12_ofMan 62 = .ok (.getfield 37, 3) := by decide +kernel
theorem dX12_ofMan_65 : decode cX12_ofMan 65 = .ok (.iconst 1, 1) := by decide +kernel
theorem dX12_ofMan_66 : decode cX12_ofMan 66 = .ok (.iaload, 1) := by decide +kernel
theorem dX12_ofMan_67 : decode cX12_ofMan 67 = .ok (.invokevirtual 210, 3) := by decide +kernel
theorem dX12_ofMan_70 : decode cX12_ofMan 70 = .ok (.ifCond .ne 5, 3) := by decide +kernel
theorem dX12_ofMan_73 : decode cX12_ofMan 73 = .ok (.iconst 0, 1) := by decide +kernel
theorem dX12_ofMan_74 : decode cX12_ofMan 74 = .ok (.ireturn, 1) := by decide +kernel
theorem dX12_ofMan_75 : decode cX12_ofMan 75 = .ok (.aload_n 0, 1) := by decide +kernel
theorem dX12_ofMan_76 : decode cX12_ofMan 76 = .ok (.getfield 195, 3) := by decide +kernel
theorem dX12_ofMan_79 : decode cX12_ofMan 79 = .ok (.istore_n 2, 1) := by decide +kernel
theorem dX12_ofMan_80 : decode cX12_ofMan 80 = .ok (.aload_n 0, 1) := by decide +kernel
theorem dX12_ofMan_81 : decode cX12_ofMan 81 = .ok (.getfield 37, 3) := by decide +kernel
theorem dX12_ofMan_84 : decode cX12_ofMan 84 = .ok (.iload_n 1, 1) := by decide +kernel
theorem dX12_ofMan_85 : decode cX12_ofMan 85 = .ok (.ifCond .ne 8, 3) := by decide +kernel
theorem dX12_ofMan_88 : decode cX12_ofMan 88 = .ok (.bipush 55, 2) := by decide +kernel
theorem dX12_ofMan_90 : decode cX12_ofMan 90 = .ok (.goto 15, 3) := by decide +kernel
theorem dX12_ofMan_93 : decode cX12_ofMan 93 = .ok (.iload_n 1, 1) := by decide +kernel
theorem dX12_ofMan_94 : decode cX12_ofMan 94 = .ok (.iconst 1, 1) := by decide +kernel
theorem dX12_ofMan_95 : decode cX12_ofMan 95 = .ok (.if_icmp .ne 8, 3) := by decide +kernel
theorem dX12_ofMan_98 : decode cX12_ofMan 98 = .ok (.bipush 63, 2) := by decide +kernel
theorem dX12_ofMan_100 : decode cX12_ofMan 100 = .ok (.goto 5, 3) := by decide +kernel
theorem dX12_ofMan_103 : decode cX12_ofMan 103 = .ok (.bipush 71, 2) := by decide +kernel
theorem dX12_ofMan_105 : decode cX12_ofMan 105 = .ok (.iload_n 2, 1) := by decide +kernel
theorem dX12_ofMan_106 : decode cX12_ofMan 106 = .ok (.iadd, 1) := by decide +kernel
theorem dX12_ofMan_107 : decode cX12_ofMan 107 = .ok (.iaload, 1) := by decide +kernel
theorem dX12_ofMan_108 : decode cX12_ofMan 108 = .ok (.ifCond .le 9, 3) := by decide +kernel
theorem dX12_ofMan_111 : decode cX12_ofMan 111 = .ok (.aload_n 0, 1) := by decide +kernel
theorem dX12_ofMan_112 : decode cX12_ofMan 112 = .ok (.iconst 3, 1) := by decide +kernel
theorem dX12_ofMan_113 : decode cX12_ofMan 113 = .ok (.invokevirtual 185, 3) := by decide +kernel
theorem dX12_ofMan_116 : decode cX12_ofMan 116 = .ok (.ireturn, 1) := by decide +kernel
theorem dX12_ofMan_117 : decode cX12_ofMan 117 = .ok (.aload_n 0, 1) := by decide +kernel
theorem dX12_ofMan_118 : decode cX12_ofMan 118 = .ok (.invokevirtual 188, 3) := by decide +kernel
theorem dX12_ofMan_121 : decode cX12_ofMan 121 = .ok (.iload_n 1, 1) := by decide +kernel
theorem dX12_ofMan_122 : decode cX12_ofMan 122 = .ok (.ifCond .ne 15, 3) := by decide +kernel
theorem dX12_ofMan_125 : decode cX12_ofMan 125 = .ok (.aload_n 0, 1) := by decide +kernel
theorem dX12_ofMan_126 : decode cX12_ofMan 126 = .ok (.getfield 37, 3) := by decide +kernel
theorem dX12_ofMan_129 : decode cX12_ofMan 129 = .ok (.bipush 55, 2) := by decide +kernel
theorem dX12_ofMan_131 : decode cX12_ofMan 131 = .ok (.iload_n 2, 1) := by decide +kernel
theorem dX12_ofMan_132 : decode cX12_ofMan 132 = .ok (.iadd, 1) := by decide +kernel
theorem dX12_ofMan_133 : decode cX12_ofMan 133 = .ok (.iconst 1, 1) := by decide +kernel
theorem dX12_ofMan_134 : decode cX12_ofMan 134 = .ok (.iastore, 1) := by decide +kernel
theorem dX12_ofMan_135 : decode cX12_ofMan 135 = .ok (.iconst 1, 1) := by decide +kernel
theorem dX12_ofMan_136 : decode cX12_ofMan 136 = .ok (.ireturn, 1) := by decide +kernel
theorem dX12_ofMan_137 : decode cX12_ofMan 137 = .ok (.iload_n 1, 1) := by decide +kernel
theorem dX12_ofMan_138 : decode cX12_ofMan 138 = .ok (.iconst 2, 1) := by decide +kernel
theorem dX12_ofMan_139 : decode cX12_ofMan 139 = .ok (.if_icmp .ne 33, 3) := by decide +kernel
theorem dX12_ofMan_142 : decode cX12_ofMan 142 = .ok (.aload_n 0, 1) := by decide +kernel
theorem dX12_ofMan_143 : decode cX12_ofMan 143 = .ok (.iconst 0, 1) := by decide +kernel
theorem dX12_ofMan_144 : decode cX12_ofMan 144 = .ok (.sipush 999, 3) := by decide +kernel
theorem dX12_ofMan_147 : decode cX12_ofMan 147 = .ok (.invokevirtual 198, 3) := by decide +kernel
theorem dX12_ofMan_150 : decode cX12_ofMan 150 = .ok (.ifCond .ne 5, 3) := by decide +kernel
theorem dX12_ofMan_153 : decode cX12_ofMan 153 = .ok (.iconst 0, 1) := by decide +kernel
theorem dX12_ofMan_154 : decode cX12_ofMan 154 = .ok (.ireturn, 1) := by decide +kernel
theorem dX12_ofMan_155 : decode cX12_ofMan 155 = .ok (.aload_n 0, 1) := by decide +kernel
theorem dX12_ofMan_156 : decode cX12_ofMan 156 = .ok (.getfield 37, 3) := by decide +kernel
theorem dX12_ofMan_159 : decode cX12_ofMan 159 = .ok (.bipush 71, 2) := by decide +kernel
theorem dX12_ofMan_161 : decode cX12_ofMan 161 = .ok (.iload_n 2, 1) := by decide +kernel
theorem dX12_ofMan_162 : decode cX12_ofMan 162 = .ok (.iadd, 1) := by decide +kernel
theorem dX12_ofMan_163 : decode cX12_ofMan 163 = .ok (.aload_n 0, 1) := by decide +kernel
theorem dX12_ofMan_164 : decode cX12_ofMan 164 = .ok (.getfield 195, 3) := by decide +kernel
theorem dX12_ofMan_167 : decode cX12_ofMan 167 = .ok (.iconst 1, 1) := by decide +kernel
theorem dX12_ofMan_168 : decode cX12_ofMan 168 = .ok (.iadd, 1) := by decide +kernel
theorem dX12_ofMan_169 : decode cX12_ofMan 169 = .ok (.iastore, 1) := by decide +kernel
theorem dX12_ofMan_170 : decode cX12_ofMan 170 = .ok (.iconst 1, 1) := by decide +kernel
theorem dX12_ofMan_171 : decode cX12_ofMan 171 = .ok (.ireturn, 1) := by decide +kernel
theorem dX12_ofMan_172 : decode cX12_ofMan 172 = .ok (.aload_n 0, 1) := by decide +kernel
theorem dX12_ofMan_173 : decode cX12_ofMan 173 = .ok (.bipush 24, 2) := by decide +kernel
theorem dX12_ofMan_175 : decode cX12_ofMan 175 = .ok (.aload_n 0, 1) := by decide +kernel
theorem dX12_ofMan_176 : decode cX12_ofMan 176 = .ok (.getfield 37, 3) := by decide +kernel
theorem dX12_ofMan_179 : decode cX12_ofMan 179 = .ok (.iconst 1, 1) := by decide +kernel
theorem dX12_ofMan_180 : decode cX12_ofMan 180 = .ok (.iaload, 1) := by decide +kernel
theorem dX12_ofMan_181 : decode cX12_ofMan 181 = .ok (.invokevirtual 210, 3) := by decide +kernel
theorem dX12_ofMan_184 : decode cX12_ofMan 184 = .ok (.ifCond .ne 5, 3) := by decide +kernel
theorem dX12_ofMan_187 : decode cX12_ofMan 187 = .ok (.iconst 0, 1) := by decide +kernel
theorem dX12_ofMan_188 : decode cX12_ofMan 188 = .ok (.ireturn, 1) := by decide +kernel
theorem dX12_ofMan_189 : decode cX12_ofMan 189 = .ok (.aload_n 0, 1) := by decide +kernel
theorem dX12_ofMan_190 : decode cX12_ofMan 190 = .ok (.getfield 195, 3) := by decide +kernel
theorem dX12_ofMan_193 : decode cX12_ofMan 193 = .ok (.iload_n 2, 1) := by decide +kernel
theorem dX12_ofMan_194 : decode cX12_ofMan 194 = .ok (.if_icmp .ne 9, 3) := by decide +kernel
theorem dX12_ofMan_197 : decode cX12_ofMan 197 = .ok (.aload_n 0, 1) := by decide +kernel
theorem dX12_ofMan_198 : decode cX12_ofMan 198 = .ok (.iconst 3, 1) := by decide +kernel
theorem dX12_ofMan_199 : decode cX12_ofMan 199 = .ok (.invokevirtual 185, 3) := by decide +kernel
theorem dX12_ofMan_202 : decode cX12_ofMan 202 = .ok (.ireturn, 1) := by decide +kernel
theorem dX12_ofMan_203 : decode cX12_ofMan 203 = .ok (.aload_n 0, 1) := by decide +kernel
theorem dX12_ofMan_204 : decode cX12_ofMan 204 = .ok (.getfield 37, 3) := by decide +kernel
theorem dX12_ofMan_207 : decode cX12_ofMan 207 = .ok (.bipush 63, 2) := by decide +kernel
theorem dX12_ofMan_209 : decode cX12_ofMan 209 = .ok (.iload_n 2, 1) := by decide +kernel
theorem dX12_ofMan_210 : decode cX12_ofMan 210 = .ok (.iadd, 1) := by decide +kernel
theorem dX12_ofMan_211 : decode cX12_ofMan 211 = .ok (.aload_n 0, 1) := by decide +kernel
theorem dX12_ofMan_212 : decode cX12_ofMan 212 = .ok (.getfield 195, 3) := by decide +kernel
theorem dX12_ofMan_215 : decode cX12_ofMan 215 = .ok (.iconst 1, 1) := by decide +kernel
theorem dX12_ofMan_216 : decode cX12_ofMan 216 = .ok (.iadd, 1) := by decide +kernel
theorem dX12_ofMan_217 : decode cX12_ofMan 217 = .ok (.iastore, 1) := by decide +kernel
theorem dX12_ofMan_218 : decode cX12_ofMan 218 = .ok (.aload_n 0, 1) := by decide +kernel
theorem dX12_ofMan_219 : decode cX12_ofMan 219 = .ok (.invokevirtual 188, 3) := by decide +kernel
theorem dX12_ofMan_222 : decode cX12_ofMan 222 = .ok (.iconst 1, 1) := by decide +kernel
theorem dX12_ofMan_223 : decode cX12_ofMan 223 = .ok (.ireturn, 1) := by decide +kernel
set_option maxRecDepth 20000 in
theorem ggX12_readFlight_X12_bad : GoodIn wsX12_readFlight wsX12_bad := goodIn_r _ [8, 9, 10, 11, 48, 49, 50, 51, 52, 53, 54, 55, 56, 57, 58, 59, 60, 61, 62, 63, 64, 65, 66, 67, 68, 69, 70, 71, 72, 73, 74, 75, 76, 77, 78, 79, 80, 81, 82, 83, 84, 85, 86, 87, 88, 89, 90, 91, 92, 93, 94] rfl (by decide +kernel)
set_option maxRecDepth 20000 in
theorem gX12_readFlight_X12_bad : GoodIn wsX12_readFlight (wsV RX12 185 RX12 yX12_bad wsX12_bad) := goodIn_app (goodIn_of _ (by decide +kernel)) ggX12_readFlight_X12_bad
set_option maxRecDepth 20000 in
theorem ggX12_readFlight_X12_next : GoodIn wsX12_readFlight wsX12_next := goodIn_r _ [15, 16, 10, 17, 18, 19, 2, 20, 21, 22, 23, 24, 7, 25, 26, 27, 28, 29, 30, 31, 32, 48, 49, 50, 51, 52, 53, 54, 55, 56, 57, 58, 59, 60, 61, 62, 63, 64, 65, 66, 67, 68, 69, 70, 71, 72, 73, 74, 75, 76, 77, 78, 79, 80, 81, 82, 83, 84, 85, 86, 87, 88, 89, 90, 91, 92, 93, 94] rfl (by decide +kernel)
set_option maxRecDepth 20000 in
theorem gX12_readFlight_X12_next : GoodIn wsX12_readFlight (wsV RX12 188 RX12 yX12_next wsX12_next) := goodIn_app (goodIn_of _ (by decide +kernel)) ggX12_readFlight_X12_next
set_option maxRecDepth 20000 in
theorem ggX12_readFlight_X12_puts : GoodIn wsX12_readFlight wsX12_puts := goodIn_r _ [36, 1, 3, 37, 38, 39, 7, 40, 2, 20, 4, 5, 6, 8, 9, 10, 11, 41, 42, 43, 12, 13, 14, 15, 16, 17, 18, 19, 21, 22, 23, 24, 25, 26, 27, 28, 29, 30, 31, 32, 48, 49, 50, 51, 52, 53, 54, 55, 56, 57, 58, 59, 60, 61, 62, 63, 64, 65, 66, 67, 68, 69, 70, 71, 72, 73, 74, 75, 76, 77, 78, 79, 80, 81, 82, 83, 84, 85, 86, 87, 88, 89, 90, 91, 92, 93, 94] rfl (by decide +kernel)
set_option maxRecDepth 20000 in
theorem gX12_readFlight_X12_puts : GoodIn wsX12_readFlight (wsV RX12 226 RX12 yX12_puts wsX12_puts) := goodIn_app (goodIn_of _ (by decide +kernel)) ggX12_readFlight_X12_puts
set_option maxRecDepth 20000 in
theorem ggX12_readFlight_X12_isSign : GoodIn wsX12_readFlight wsX12_isSign := goodIn_r _ [47, 2, 20, 48, 49, 50, 51, 52, 53, 54, 55, 56, 57, 58, 59, 60, 61, 62, 63, 64, 65, 66, 67, 68, 69, 70, 71, 72, 73, 74, 75, 76, 77, 78, 79, 80, 81, 82, 83, 84, 85, 86, 87, 88, 89, 90, 91, 92, 93, 94] rfl (by decide +kernel)
set_option maxRecDepth 20000 in
theorem gX12_readFlight_X12_isSign : GoodIn wsX12_readFlight (wsV RX12 182 RX12 yX12_isSign wsX12_isSign) := goodIn_app (goodIn_of _ (by decide +kernel)) ggX12_readFlight_X12_isSign
theorem dX12_readFlight_0 : decode cX12_readFlight 0 = .ok (.aload_n 0, 1) := by decide +kernel
theorem dX12_readFlight_1 : decode cX12_readFlight 1 = .ok (.getfield 37, 3) := by decide +kernel
theorem dX12_readFlight_4 : decode cX12_readFlight 4 = .ok (.iconst 2, 1) := by decide +kernel
theorem dX12_readFlight_5 : decode cX12_readFlight 5 = .ok (.iaload, 1) := by decide +kernel
theorem dX12_readFlight_6 : decode cX12_readFlight 6 = .ok (.istore_n 1, 1) := by decide +kernel
theorem dX12_readFlight_7 : decode cX12_readFlight 7 = .ok (.iload_n 1, 1) := by decide +kernel
theorem dX12_readFlight_8 : decode cX12_readFlight 8 = .ok (.iconst 4, 1) := by decide +kernel
theorem dX12_readFlight_9 : decode cX12_readFlight 9 = .ok (.if_icmp .ne 9, 3) := by decide +kernel
theorem dX12_readFlight_12 : decode cX12_readFlight 12 = .ok (.aload_n 0, 1) := by decide +kernel
theorem dX12_readFlight_13 : decode cX12_readFlight 13 = .ok (.iconst 4, 1) := by decide +kernel
theorem dX12_readFlight_14 : decode cX12_readFlight 14 = .ok (.invokevirtual 185, 3) := by decide +kernel
theorem dX12_readFlight_17 : decode cX12_readFlight 17 = .ok (.ireturn, 1) := by decide +kernel
theorem dX12_readFlight_18 : decode cX12_readFlight 18 = .ok (.aload_n 0, 1) := by decide +kernel
theorem dX12_readFlight_19 : decode cX12_readFlight 19 = .ok (.invokevirtual 188, 3) := by decide +kernel
theorem dX12_readFlight_22 : decode cX12_readFlight 22 = .ok (.aload_n 0, 1) := by decide +kernel
theorem dX12_readFlight_23 : decode cX12_readFlight 23 = .ok (.bipush 79, 2) := by decide +kernel
theorem dX12_readFlight_25 : decode cX12_readFlight 25 = .ok (.iload_n 1, 1) := by decide +kernel
theorem dX12_readFlight_26 : decode cX12_readFlight 26 = .ok (.iadd, 1) := by decide +kernel
theorem dX12_readFlight_27 : decode cX12_readFlight 27 = .ok (.iconst 1, 1) := by decide +kernel
theorem dX12_readFlight_28 : decode cX12_readFlight 28 = .ok (.bipush 9, 2) := by decide +kernel
theorem dX12_readFlight_30 : decode cX12_readFlight 30 = .ok (.invokevirtual 226, 3) := by decide +kernel
theorem dX12_readFlight_33 : decode cX12_readFlight 33 = .ok (.ifCond .eq 17, 3) := by decide +kernel
theorem dX12_readFlight_36 : decode cX12_readFlight 36 = .ok (.aload_n 0, 1) := by decide +kernel
theorem dX12_readFlight_37 : decode cX12_readFlight 37 = .ok (.bipush 83, 2) := by decide +kernel
theorem dX12_readFlight_39 : decode cX12_readFlight 39 = .ok (.iload_n 1, 1) := by decide +kernel
theorem dX12_readFlight_40 : decode cX12_readFlight 40 = .ok (.iadd, 1) := by decide +kernel
theorem dX12_readFlight_41 : decode cX12_readFlight 41 = .ok (.iconst 0, 1) := by decide +kernel
theorem dX12_readFlight_42 : decode cX12_readFlight 42 = .ok (.bipush 20, 2) := by decide +kernel
theorem dX12_readFlight_44 : decode cX12_readFlight 44 = .ok (.invokevirtual 226, 3) := by decide +kernel
theorem dX12_readFlight_47 : decode cX12_readFlight 47 = .ok (.ifCond .ne 5, 3) := by decide +kernel
theorem dX12_readFlight_50 : decode cX12_readFlight 50 = .ok (.iconst 0, 1) := by decide +kernel
theorem dX12_readFlight_51 : decode cX12_readFlight 51 = .ok (.ireturn, 1) := by decide +kernel
theorem dX12_readFlight_52 : decode cX12_readFlight 52 = .ok (.iconst 0, 1) := by decide +kernel
theorem dX12_readFlight_53 : decode cX12_readFlight 53 = .ok (.istore_n 2, 1) := by decide +kernel
theorem dX12_readFlight_54 : decode cX12_readFlight 54 = .ok (.iconst (-1), 1) := by decide +kernel
theorem dX12_readFlight_55 : decode cX12_readFlight 55 = .ok (.istore_n 3, 1) := by decide +kernel
theorem dX12_readFlight_56 : decode cX12_readFlight 56 = .ok (.aload_n 0, 1) := by decide +kernel
theorem dX12_readFlight_57 : decode cX12_readFlight 57 = .ok (.bipush 59, 2) := by decide +kernel
theorem dX12_readFlight_59 : decode cX12_readFlight 59 = .ok (.invokevirtual 182, 3) := by decide +kernel
theorem dX12_readFlight_62 : decode cX12_readFlight 62 = .ok (.ifCond .ne 101, 3) := by decide +kernel
theorem dX12_readFlight_65 : decode cX12_readFlight 65 = .ok (.aload_n 0, 1) := by decide +kernel
theorem dX12_readFlight_66 : decode cX12_readFlight 66 = .ok (.getfield 159, 3) := by decide +kernel
theorem dX12_readFlight_69 : decode cX12_readFlight 69 = .ok (.iconst 2, 1) := by decide +kernel
theorem dX12_readFlight_70 : decode cX12_readFlight 70 = .ok (.if_icmp .eq 9, 3) := by decide +kernel
theorem dX12_readFlight_73 : decode cX12_readFlight 73 = .ok (.aload_n 0, 1) := by decide +kernel
theorem dX12_readFlight_74 : decode cX12_readFlight 74 = .ok (.iconst 1, 1) := by decide +kernel
theorem dX12_readFlight_75 : decode cX12_readFlight 75 = .ok (.invokevirtual 185, 3) := by decide +kernel
theorem dX12_readFlight_78 : decode cX12_readFlight 78 = .ok (.ireturn, 1) := by decide +kernel
theorem dX12_readFlight_79 : decode cX12_readFlight 79 = .ok (.iload_n 2, 1) := by decide +kernel
theorem dX12_readFlight_80 : decode cX12_readFlight 80 = .ok (.bipush 10, 2) := by decide +kernel
theorem dX12_readFlight_82 : decode cX12_readFlight 82 = .ok (.if_icmp .ne 9, 3) := by decide +kernel
theorem dX12_readFlight_85 : decode cX12_readFlight 85 = .ok (.aload_n 0, 1) := by decide +kernel
theorem dX12_readFlight_86 : decode cX12_readFlight 86 = .ok (.iconst 4, 1) := by decide +kernel
theorem dX12_readFlight_87 : decode cX12_readFlight 87 = .ok (.invokevirtual 185, 3) := by decide +kernel
theorem dX12_readFlight_90 : decode cX12_readFlight 90 = .ok (.ireturn, 1) := by decide +kernel
theorem dX12_readFlight_91 : decode cX12_readFlight 91 = .ok (.bipush 10, 2) := by decide +kernel
theorem dX12_readFlight_93 : decode cX12_readFlight 93 = .ok (.iload_n 1, 1) := by decide +kernel
