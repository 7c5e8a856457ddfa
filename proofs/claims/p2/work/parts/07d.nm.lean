set_option maxRecDepth 20000 in
theorem gX12_ofMan_X12_bad : GoodIn wsX12_ofMan (wsV RX12 185 RX12 yX12_bad wsX12_bad) := goodIn_app (goodIn_of _ (by decide +kernel)) ggX12_ofMan_X12_bad
set_option maxRecDepth 20000 in
theorem ggX12_ofMan_X12_next : GoodIn wsX12_ofMan wsX12_next := goodIn_r _ [23, 24, 18, 25, 26, 27, 11, 28, 12, 29, 30, 31, 9, 32, 33, 34, 35, 36, 37, 38, 39, 61, 62, 63, 64, 65, 66, 67, 68, 69, 70, 71, 72, 73, 74, 75, 76, 77, 78, 79, 80, 81, 82, 83, 84, 85, 86, 87, 88, 89, 90, 91, 92, 93, 94, 95, 96, 97, 98, 99, 100, 101, 102, 103, 104, 105, 106, 107] (by decide +kernel) (by decide +kernel)
set_option maxRecDepth 20000 in
theorem gX12_ofMan_X12_next : GoodIn wsX12_ofMan (wsV RX12 188 RX12 yX12_next wsX12_next) := goodIn_app (goodIn_of _ (by decide +kernel)) ggX12_ofMan_X12_next
set_option maxRecDepth 20000 in
theorem ggX12_ofMan_X12_looksAt : GoodIn wsX12_ofMan wsX12_looksAt := goodIn_r _ [43, 5, 44, 45, 46, 9, 47, 11, 12, 48, 13, 14, 15, 16, 17, 18, 19, 49, 50, 51, 52, 53, 61, 62, 63, 64, 65, 66, 67, 68, 69, 70, 71, 72, 73, 74, 75, 76, 77, 78, 79, 80, 81, 82, 83, 84, 85, 86, 87, 88, 89, 90, 91, 92, 93, 94, 95, 96, 97, 98, 99, 100, 101, 102, 103, 104, 105, 106, 107] (by decide +kernel) (by decide +kernel)
set_option maxRecDepth 20000 in
theorem gX12_ofMan_X12_looksAt : GoodIn wsX12_ofMan (wsV RX12 210 RX12 yX12_looksAt wsX12_looksAt) := goodIn_app (goodIn_of _ (by decide +kernel)) ggX12_ofMan_X12_looksAt
set_option maxRecDepth 20000 in
theorem ggX12_ofMan_X12_takes : GoodIn wsX12_ofMan wsX12_takes := goodIn_r _ [57, 11, 28, 5, 13, 14, 15, 9, 16, 17, 18, 19, 58, 59, 60, 20, 21, 22, 23, 24, 25, 26, 27, 12, 29, 30, 31, 32, 33, 34, 35, 36, 37, 38, 39, 61, 62, 63, 64, 65, 66, 67, 68, 69, 70, 71, 72, 73, 74, 75, 76, 77, 78, 79, 80, 81, 82, 83, 84, 85, 86, 87, 88, 89, 90, 91, 92, 93, 94, 95, 96, 97, 98, 99, 100, 101, 102, 103, 104, 105, 106, 107] (by decide +kernel) (by decide +kernel)
set_option maxRecDepth 20000 in
theorem gX12_ofMan_X12_takes : GoodIn wsX12_ofMan (wsV RX12 198 RX12 yX12_takes wsX12_takes) := goodIn_app (goodIn_of _ (by decide +kernel)) ggX12_ofMan_X12_takes
theorem dX12_ofMan_0 : decode cX12_ofMan 0 = .ok (.aload_n 0, 1) := by decide +kernel
theorem dX12_ofMan_1 : decode cX12_ofMan 1 = .ok (.ldc2_w 107, 3) := by decide +kernel
theorem dX12_ofMan_4 : decode cX12_ofMan 4 = .ok (.invokevirtual 219, 3) := by decide +kernel
theorem dX12_ofMan_7 : decode cX12_ofMan 7 = .ok (.ifCond .eq 7, 3) := by decide +kernel
theorem dX12_ofMan_10 : decode cX12_ofMan 10 = .ok (.iconst 0, 1) := by decide +kernel
theorem dX12_ofMan_11 : decode cX12_ofMan 11 = .ok (.goto 32, 3) := by decide +kernel
theorem dX12_ofMan_14 : decode cX12_ofMan 14 = .ok (.aload_n 0, 1) := by decide +kernel
theorem dX12_ofMan_15 : decode cX12_ofMan 15 = .ok (.ldc2_w 109, 3) := by decide +kernel
theorem dX12_ofMan_18 : decode cX12_ofMan 18 = .ok (.invokevirtual 219, 3) := by decide +kernel
theorem dX12_ofMan_21 : decode cX12_ofMan 21 = .ok (.ifCond .eq 7, 3) := by decide +kernel
theorem dX12_ofMan_24 : decode cX12_ofMan 24 = .ok (.iconst 1, 1) := by decide +kernel
theorem dX12_ofMan_25 : decode cX12_ofMan 25 = .ok (.goto 18, 3) := by decide +kernel
theorem dX12_ofMan_28 : decode cX12_ofMan 28 = .ok (.aload_n 0, 1) := by decide +kernel
theorem dX12_ofMan_29 : decode cX12_ofMan 29 = .ok (.ldc2_w 111, 3) := by decide +kernel
theorem dX12_ofMan_32 : decode cX12_ofMan 32 = .ok (.invokevirtual 219, 3) := by decide +kernel
theorem dX12_ofMan_35 : decode cX12_ofMan 35 = .ok (.ifCond .eq 7, 3) := by decide +kernel
theorem dX12_ofMan_38 : decode cX12_ofMan 38 = .ok (.iconst 2, 1) := by decide +kernel
theorem dX12_ofMan_39 : decode cX12_ofMan 39 = .ok (.goto 4, 3) := by decide +kernel
theorem dX12_ofMan_42 : decode cX12_ofMan 42 = .ok (.iconst (-1), 1) := by decide +kernel
theorem dX12_ofMan_43 : decode cX12_ofMan 43 = .ok (.istore_n 1, 1) := by decide +kernel
theorem dX12_ofMan_44 : decode cX12_ofMan 44 = .ok (.iload_n 1, 1) := by decide +kernel
theorem dX12_ofMan_45 : decode cX12_ofMan 45 = .ok (.ifCond .ge 9, 3) := by decide +kernel
theorem dX12_ofMan_48 : decode cX12_ofMan 48 = .ok (.aload_n 0, 1) := by decide +kernel
theorem dX12_ofMan_49 : decode cX12_ofMan 49 = .ok (.iconst 1, 1) := by decide +kernel
theorem dX12_ofMan_50 : decode cX12_ofMan 50 = .ok (.invokevirtual 185, 3) := by decide +kernel
theorem dX12_ofMan_53 : decode cX12_ofMan 53 = .ok (.ireturn, 1) := by decide +kernel
theorem dX12_ofMan_54 : decode cX12_ofMan 54 = .ok (.aload_n 0, 1) := by decide +kernel
theorem dX12_ofMan_55 : decode cX12_ofMan 55 = .ok (.invokevirtual 188, 3) := by decide +kernel
theorem dX12_ofMan_58 : decode cX12_ofMan 58 = .ok (.aload_n 0, 1) := by decide +kernel
theorem dX12_ofMan_59 : decode cX12_ofMan 59 = .ok (.bipush 24, 2) := by decide +kernel
theorem dX12_ofMan_61 : decode cX12_ofMan 61 = .ok (.aload_n 0, 1) := by decide +kernel
theorem dX12_ofMan_62 : decode cX12_ofMan 62 = .ok (.getfield 37, 3) := by decide +kernel
theorem dX12_ofMan_65 : decode cX12_ofMan 65 = .ok (.iconst 1, 1) := by decide +kernel
theorem dX12_ofMan_66 : decode cX12_ofMan 66 = .ok (.iaload, 1) := by decide +kernel
theorem dX12_ofMan_67 : decode cX12_ofMan 67 = .ok (.invokevirtual 210, 3) := by decide +kernel
theorem dX12_ofMan_70 : decode cX12_ofMan 70 = .ok (.ifCond .ne 5, 3) := by decide +kernel
theorem dX12_ofMan_73 : decode cX12_ofMan 73 = .ok (.iconst 0, 1) := by decide +kernel
theorem dX12_ofMan_74 : decode cX12_ofMan 74 = .ok (.ireturn, 1) := by decide +kernel
theorem dX12_ofMan_75 : decode cX12_ofMan 75 = .ok (.aload_n 0, 1) := by decide +kernel
theorem dX12_ofMan_76 : decode cX12_ofMan 76 = .ok (.getfield 195, 3) := by decide +kernel
theorem dX12_ofMan_79 : decode cX12_ofMan 79 = .ok (.istore_n 2, 1) := by decide +kernel
theorem dX12_ofMan_80 : decode cX12_ofMan 80 = .ok (.aload_n 0, 1) := by decide +kernel
theorem dX12_ofMan_81 : decode cX12_ofMan 81 = .ok (.getfield 37, 3) := by decide +kernel
theorem dX12_ofMan_84 : decode cX12_ofMan 84 = .ok (.iload_n 1, 1) := by decide +kernel
theorem dX12_ofMan_85 : decode cX12_ofMan 85 = .ok (.ifCond .ne 8, 3) := by decide +kernel
theorem dX12_ofMan_88 : decode cX12_ofMan 88 = .ok (.bipush 55, 2) := by decide +kernel
theorem dX12_ofMan_90 : decode cX12_ofMan 90 = .ok (.goto 15, 3) := by decide +kernel
theorem dX12_ofMan_93 : decode cX12_ofMan 93 = .ok (.iload_n 1, 1) := by decide +kernel
theorem dX12_ofMan_94 : decode cX12_ofMan 94 = .ok (.iconst 1, 1) := by decide +kernel
theorem dX12_ofMan_95 : decode cX12_ofMan 95 = .ok (.if_icmp .ne 8, 3) := by decide +kernel
theorem dX12_ofMan_98 : decode cX12_ofMan 98 = .ok (.bipush 63, 2) := by decide +kernel
theorem dX12_ofMan_100 : decode cX12_ofMan 100 = .ok (.goto 5, 3) := by decide +kernel
theorem dX12_ofMan_103 : decode cX12_ofMan 103 = .ok (.bipush 71, 2) := by decide +kernel
theorem dX12_ofMan_105 : decode cX12_ofMan 105 = .ok (.iload_n 2, 1) := by decide +kernel
theorem dX12_ofMan_106 : decode cX12_ofMan 106 = .ok (.iadd, 1) := by decide +kernel
theorem dX12_ofMan_107 : decode cX12_ofMan 107 = .ok (.iaload, 1) := by decide +kernel
theorem dX12_ofMan_108 : decode cX12_ofMan 108 = .ok (.ifCond .le 9, 3) := by decide +kernel
theorem dX12_ofMan_111 : decode cX12_ofMan 111 = .ok (.aload_n 0, 1) := by decide +kernel
theorem dX12_ofMan_112 : decode cX12_ofMan 112 = .ok (.iconst 3, 1) := by decide +kernel
theorem dX12_ofMan_113 : decode cX12_ofMan 113 = .ok (.invokevirtual 185, 3) := by decide +kernel
theorem dX12_ofMan_116 : decode cX12_ofMan 116 = .ok (.ireturn, 1) := by decide +kernel
theorem dX12_ofMan_117 : decode cX12_ofMan 117 = .ok (.aload_n 0, 1) := by decide +kernel
theorem dX12_ofMan_118 : decode cX12_ofMan 118 = .ok (.invokevirtual 188, 3) := by decide +kernel
theorem dX12_ofMan_121 : decode cX12_ofMan 121 = .ok (.iload_n 1, 1) := by decide +kernel
theorem dX12_ofMan_122 : decode cX12_ofMan 122 = .ok (.ifCond .ne 15, 3) := by decide +kernel
theorem dX12_ofMan_125 : decode cX12_ofMan 125 = .ok (.aload_n 0, 1) := by decide +kernel
theorem dX12_ofMan_126 : decode cX12_ofMan 126 = .ok (.getfield 37, 3) := by decide +kernel
theorem dX12_ofMan_129 : decode cX12_ofMan 129 = .ok (.bipush 55, 2) := by decide +kernel
theorem dX12_ofMan_131 : decode cX12_ofMan 131 = .ok (.iload_n 2, 1) := by decide +kernel
theorem dX12_ofMan_132 : decode cX12_ofMan 132 = .ok (.iadd, 1) := by decide +kernel
theorem dX12_ofMan_133 : decode cX12_ofMan 133 = .ok (.iconst 1, 1) := by decide +kernel
theorem dX12_ofMan_134 : decode cX12_ofMan 134 = .ok (.iastore, 1) := by decide +kernel
theorem dX12_ofMan_135 : decode cX12_ofMan 135 = .ok (.iconst 1, 1) := by decide +kernel
theorem dX12_ofMan_136 : decode cX12_ofMan 136 = .ok (.ireturn, 1) := by decide +kernel
theorem dX12_ofMan_137 : decode cX12_ofMan 137 = .ok (.iload_n 1, 1) := by decide +kernel
theorem dX12_ofMan_138 : decode cX12_ofMan 138 = .ok (.iconst 2, 1) := by decide +kernel
theorem dX12_ofMan_139 : decode cX12_ofMan 139 = .ok (.if_icmp .ne 33, 3) := by decide +kernel
theorem dX12_ofMan_142 : decode cX12_ofMan 142 = .ok (.aload_n 0, 1) := by decide +kernel
theorem dX12_ofMan_143 : decode cX12_ofMan 143 = .ok (.iconst 0, 1) := by decide +kernel
theorem dX12_ofMan_144 : decode cX12_ofMan 144 = .ok (.sipush 999, 3) := by decide +kernel
theorem dX12_ofMan_147 : decode cX12_ofMan 147 = .ok (.invokevirtual 198, 3) := by decide +kernel
theorem dX12_ofMan_150 : decode cX12_ofMan 150 = .ok (.ifCond .ne 5, 3) := by decide +kernel
theorem dX12_ofMan_153 : decode cX12_ofMan 153 = .ok (.iconst 0, 1) := by decide +kernel
theorem dX12_ofMan_154 : decode cX12_ofMan 154 = .ok (.ireturn, 1) := by decide +kernel
theorem dX12_ofMan_155 : decode cX12_ofMan 155 = .ok (.aload_n 0, 1) := by decide +kernel
theorem dX12_ofMan_156 : decode cX12_ofMan 156 = .ok (.getfield 37, 3) := by decide +kernel
theorem dX12_ofMan_159 : decode cX12_ofMan 159 = .ok (.bipush 71, 2) := by decide +kernel
theorem dX12_ofMan_161 : decode cX12_ofMan 161 = .ok (.iload_n 2, 1) := by decide +kernel
theorem dX12_ofMan_162 : decode cX12_ofMan 162 = .ok (.iadd, 1) := by decide +kernel
theorem dX12_ofMan_163 : decode cX12_ofMan 163 = .ok (.aload_n 0, 1) := by decide +kernel
theorem dX12_ofMan_164 : decode cX12_ofMan 164 = .ok (.getfield 195, 3) := by decide +kernel
theorem dX12_ofMan_167 : decode cX12_ofMan 167 = .ok (.iconst 1, 1) := by decide +kernel
theorem dX12_ofMan_168 : decode cX12_ofMan 168 = .ok (.iadd, 1) := by decide +kernel
theorem dX12_ofMan_169 : decode cX12_ofMan 169 = .ok (.iastore, 1) := by decide +kernel
theorem dX12_ofMan_170 : decode cX12_ofMan 170 = .ok (.iconst 1, 1) := by decide +kernel
theorem dX12_ofMan_171 : decode cX12_ofMan 171 = .ok (.ireturn, 1) := by decide +kernel
theorem dX12_ofMan_172 : decode cX12_ofMan 172 = .ok (.aload_n 0, 1) := by decide +kernel
theorem dX12_ofMan_173 : decode cX12_ofMan 173 = .ok (.bipush 24, 2) := by decide +kernel
theorem dX12_ofMan_175 : decode cX12_ofMan 175 = .ok (.aload_n 0, 1) := by decide +kernel
theorem dX12_ofMan_176 : decode cX12_ofMan 176 = .ok (.getfield 37, 3) := by decide +kernel
theorem dX12_ofMan_179 : decode cX12_ofMan 179 = .ok (.iconst 1, 1) := by decide +kernel
theorem dX12_ofMan_180 : decode cX12_ofMan 180 = .ok (.iaload, 1) := by decide +kernel
theorem dX12_ofMan_181 : decode cX12_ofMan 181 = .ok (.invokevirtual 210, 3) := by decide +kernel
theorem dX12_ofMan_184 : decode cX12_ofMan 184 = .ok (.ifCond .ne 5, 3) := by decide +kernel
theorem dX12_ofMan_187 : decode cX12_ofMan 187 = .ok (.iconst 0, 1) := by decide +kernel
theorem dX12_ofMan_188 : decode cX12_ofMan 188 = .ok (.ireturn, 1) := by decide +kernel
theorem dX12_ofMan_189 : decode cX12_ofMan 189 = .ok (.aload_n 0, 1) := by decide +kernel
theorem dX12_ofMan_190 : decode cX12_ofMan 190 = .ok (.getfield 195, 3) := by decide +kernel
theorem dX12_ofMan_193 : decode cX12_ofMan 193 = .ok (.iload_n 2, 1) := by decide +kernel
theorem dX12_ofMan_194 : decode cX12_ofMan 194 = .ok (.if_icmp .ne 9, 3) := by decide +kernel
theorem dX12_ofMan_197 : decode cX12_ofMan 197 = .ok (.aload_n 0, 1) := by decide +kernel
theorem dX12_ofMan_198 : decode cX12_ofMan 198 = .ok (.iconst 3, 1) := by decide +kernel
theorem dX12_ofMan_199 : decode cX12_ofMan 199 = .ok (.invokevirtual 185, 3) := by decide +kernel
theorem dX12_ofMan_202 : decode cX12_ofMan 202 = .ok (.ireturn, 1) := by decide +kernel
theorem dX12_ofMan_203 : decode cX12_ofMan 203 = .ok (.aload_n 0, 1) := by decide +kernel
theorem dX12_ofMan_204 : decode cX12_ofMan 204 = .ok (.getfield 37, 3) := by decide +kernel
theorem dX12_ofMan_207 : decode cX12_ofMan 207 = .ok (.bipush 63, 2) := by decide +kernel
theorem dX12_ofMan_209 : decode cX12_ofMan 209 = .ok (.iload_n 2, 1) := by decide +kernel
theorem dX12_ofMan_210 : decode cX12_ofMan 210 = .ok (.iadd, 1) := by decide +kernel
theorem dX12_ofMan_211 : decode cX12_ofMan 211 = .ok (.aload_n 0, 1) := by decide +kernel
theorem dX12_ofMan_212 : decode cX12_ofMan 212 = .ok (.getfield 195, 3) := by decide +kernel
theorem dX12_ofMan_215 : decode cX12_ofMan 215 = .ok (.iconst 1, 1) := by decide +kernel
theorem dX12_ofMan_216 : decode cX12_ofMan 216 = .ok (.iadd, 1) := by decide +kernel
theorem dX12_ofMan_217 : decode cX12_ofMan 217 = .ok (.iastore, 1) := by decide +kernel
theorem dX12_ofMan_218 : decode cX12_ofMan 218 = .ok (.aload_n 0, 1) := by decide +kernel
theorem dX12_ofMan_219 : decode cX12_ofMan 219 = .ok (.invokevirtual 188, 3) := by decide +kernel
theorem dX12_ofMan_222 : decode cX12_ofMan 222 = .ok (.iconst 1, 1) := by decide +kernel
theorem dX12_ofMan_223 : decode cX12_ofMan 223 = .ok (.ireturn, 1) := by decide +kernel
set_option maxRecDepth 20000 in
theorem ggX12_readFlight_X12_bad : GoodIn wsX12_readFlight wsX12_bad := goodIn_r _ [8, 9, 10, 11, 48, 49, 50, 51, 52, 53, 54, 55, 56, 57, 58, 59, 60, 61, 62, 63, 64, 65, 66, 67, 68, 69, 70, 71, 72, 73, 74, 75, 76, 77, 78, 79, 80, 81, 82, 83, 84, 85, 86, 87, 88, 89, 90, 91, 92, 93, 94] (by decide +kernel) (by decide +kernel)
set_option maxRecDepth 20000 in
theorem gX12_readFlight_X12_bad : GoodIn wsX12_readFlight (wsV RX12 185 RX12 yX12_bad wsX12_bad) := goodIn_app (goodIn_of _ (by decide +kernel)) ggX12_readFlight_X12_bad
set_option maxRecDepth 20000 in
theorem ggX12_readFlight_X12_next : GoodIn wsX12_readFlight wsX12_next := goodIn_r _ [15, 16, 10, 17, 18, 19, 2, 20, 21, 22, 23, 24, 7, 25, 26, 27, 28, 29, 30, 31, 32, 48, 49, 50, 51, 52, 53, 54, 55, 56, 57, 58, 59, 60, 61, 62, 63, 64, 65, 66, 67, 68, 69, 70, 71, 72, 73, 74, 75, 76, 77, 78, 79, 80, 81, 82, 83, 84, 85, 86, 87, 88, 89, 90, 91, 92, 93, 94] (by decide +kernel) (by decide +kernel)
set_option maxRecDepth 20000 in
theorem gX12_readFlight_X12_next : GoodIn wsX12_readFlight (wsV RX12 188 RX12 yX12_next wsX12_next) := goodIn_app (goodIn_of _ (by decide +kernel)) ggX12_readFlight_X12_next
set_option maxRecDepth 20000 in
theorem ggX12_readFlight_X12_puts : GoodIn wsX12_readFlight wsX12_puts := goodIn_r _ [36, 1, 3, 37, 38, 39, 7, 40, 2, 20, 4, 5, 6, 8, 9, 10, 11, 41, 42, 43, 12, 13, 14, 15, 16, 17, 18, 19, 21, 22, 23, 24, 25, 26, 27, 28, 29, 30, 31, 32, 48, 49, 50, 51, 52, 53, 54, 55, 56, 57, 58, 59, 60, 61, 62, 63, 64, 65, 66, 67, 68, 69, 70, 71, 72, 73, 74, 75, 76, 77, 78, 79, 80, 81, 82, 83, 84, 85, 86, 87, 88, 89, 90, 91, 92, 93, 94] (by decide +kernel) (by decide +kernel)
set_option maxRecDepth 20000 in
theorem gX12_readFlight_X12_puts : GoodIn wsX12_readFlight (wsV RX12 226 RX12 yX12_puts wsX12_puts) := goodIn_app (goodIn_of _ (by decide +kernel)) ggX12_readFlight_X12_puts
set_option maxRecDepth 20000 in
theorem ggX12_readFlight_X12_isSign : GoodIn wsX12_readFlight wsX12_isSign := goodIn_r _ [47, 2, 20, 48, 49, 50, 51, 52, 53, 54, 55, 56, 57, 58, 59, 60, 61, 62, 63, 64, 65, 66, 67, 68, 69, 70, 71, 72, 73, 74, 75, 76, 77, 78, 79, 80, 81, 82, 83, 84, 85, 86, 87, 88, 89, 90, 91, 92, 93, 94] (by decide +kernel) (by decide +kernel)
set_option maxRecDepth 20000 in
theorem gX12_readFlight_X12_isSign : GoodIn wsX12_readFlight (wsV RX12 182 RX12 yX12_isSign wsX12_isSign) := goodIn_app (goodIn_of _ (by decide +kernel)) ggX12_readFlight_X12_isSign
theorem dX12_readFlight_0 : decode cX12_readFlight 0 = .ok (.aload_n 0, 1) := by decide +kernel
theorem dX12_readFlight_1 : decode cX12_readFlight 1 = .ok (.getfield 37, 3) := by decide +kernel
theorem dX12_readFlight_4 : decode cX12_readFlight 4 = .ok (.iconst 2, 1) := by decide +kernel
theorem dX12_readFlight_5 : decode cX12_readFlight 5 = .ok (.iaload, 1) := by decide +kernel
theorem dX12_readFlight_6 : decode cX12_readFlight 6 = .ok (.istore_n 1, 1) := by decide +kernel
theorem dX12_readFlight_7 : decode cX12_readFlight 7 = .ok (.iload_n 1, 1) := by decide +kernel
theorem dX12_readFlight_8 : decode cX12_readFlight 8 = .ok (.iconst 4, 1) := by decide +kernel
theorem dX12_readFlight_9 : decode cX12_readFlight 9 = .ok (.if_icmp .ne 9, 3) := by decide +kernel
theorem dX12_readFlight_12 : decode cX12_readFlight 12 = .ok (.aload_n 0, 1) := by decide +kernel
theorem dX12_readFlight_13 : decode cX12_readFlight 13 = .ok (.iconst 4, 1) := by decide +kernel
theorem dX12_readFlight_14 : decode cX12_readFlight 14 = .ok (.invokevirtual 185, 3) := by decide +kernel
theorem dX12_readFlight_17 : decode cX12_readFlight 17 = .ok (.ireturn, 1) := by decide +kernel
theorem dX12_readFlight_18 : decode cX12_readFlight 18 = .ok (.aload_n 0, 1) := by decide +kernel
theorem dX12_readFlight_19 : decode cX12_readFlight 19 = .ok (.invokevirtual 188, 3) := by decide +kernel
theorem dX12_readFlight_22 : decode cX12_readFlight 22 = .ok (.aload_n 0, 1) := by decide +kernel
theorem dX12_readFlight_23 : decode cX12_readFlight 23 = .ok (.bipush 79, 2) := by decide +kernel
theorem dX12_readFlight_25 : decode cX12_readFlight 25 = .ok (.iload_n 1, 1) := by decide +kernel
theorem dX12_readFlight_26 : decode cX12_readFlight 26 = .ok (.iadd, 1) := by decide +kernel
theorem dX12_readFlight_27 : decode cX12_readFlight 27 = .ok (.iconst 1, 1) := by decide +kernel
theorem dX12_readFlight_28 : decode cX12_readFlight 28 = .ok (.bipush 9, 2) := by decide +kernel
theorem dX12_readFlight_30 : decode cX12_readFlight 30 = .ok (.invokevirtual 226, 3) := by decide +kernel
theorem dX12_readFlight_33 : decode cX12_readFlight 33 = .ok (.ifCond .eq 17, 3) := by decide +kernel
theorem dX12_readFlight_36 : decode cX12_readFlight 36 = .ok (.aload_n 0, 1) := by decide +kernel
theorem dX12_readFlight_37 : decode cX12_readFlight 37 = .ok (.bipush 83, 2) := by decide +kernel
theorem dX12_readFlight_39 : decode cX12_readFlight 39 = .ok (.iload_n 1, 1) := by decide +kernel
theorem dX12_readFlight_40 : decode cX12_readFlight 40 = .ok (.iadd, 1) := by decide +kernel
theorem dX12_readFlight_41 : decode cX12_readFlight 41 = .ok (.iconst 0, 1) := by decide +kernel
theorem dX12_readFlight_42 : decode cX12_readFlight 42 = .ok (.bipush 20, 2) := by decide +kernel
theorem dX12_readFlight_44 : decode cX12_readFlight 44 = .ok (.invokevirtual 226, 3) := by decide +kernel
theorem dX12_readFlight_47 : decode cX12_readFlight 47 = .ok (.ifCond .ne 5, 3) := by decide +kernel
theorem dX12_readFlight_50 : decode cX12_readFlight 50 = .ok (.iconst 0, 1) := by decide +kernel
theorem dX12_readFlight_51 : decode cX12_readFlight 51 = .ok (.ireturn, 1) := by decide +kernel
theorem dX12_readFlight_52 : decode cX12_readFlight 52 = .ok (.iconst 0, 1) := by decide +kernel
theorem dX12_readFlight_53 : decode cX12_readFlight 53 = .ok (.istore_n 2, 1) := by decide +kernel
theorem dX12_readFlight_54 : decode cX12_readFlight 54 = .ok (.iconst (-1), 1) := by decide +kernel
theorem dX12_readFlight_55 : decode cX12_readFlight 55 = .ok (.istore_n 3, 1) := by decide +kernel
theorem dX12_readFlight_56 : decode cX12_readFlight 56 = .ok (.aload_n 0, 1) := by decide +kernel
theorem dX12_readFlight_57 : decode cX12_readFlight 57 = .ok (.bipush 59, 2) := by decide +kernel
theorem dX12_readFlight_59 : decode cX12_readFlight 59 = .ok (.invokevirtual 182, 3) := by decide +kernel
theorem dX12_readFlight_62 : decode cX12_readFlight 62 = .ok (.ifCond .ne 101, 3) := by decide +kernel
theorem dX12_readFlight_65 : decode cX12_readFlight 65 = .ok (.aload_n 0, 1) := by decide +kernel
theorem dX12_readFlight_66 : decode cX12_readFlight 66 = .ok (.getfield 159, 3) := by decide +kernel
theorem dX12_readFlight_69 : decode cX12_readFlight 69 = .ok (.iconst 2, 1) := by decide +kernel
theorem dX12_readFlight_70 : decode cX12_readFlight 70 = .ok (.if_icmp .eq 9, 3) := by decide +kernel
theorem dX12_readFlight_73 : decode cX12_readFlight 73 = .ok (.aload_n 0, 1) := by decide +kernel
theorem dX12_readFlight_74 : decode cX12_readFlight 74 = .ok (.iconst 1, 1) := by decide +kernel
theorem dX12_readFlight_75 : decode cX12_readFlight 75 = .ok (.invokevirtual 185, 3) := by decide +kernel
theorem dX12_readFlight_78 : decode cX12_readFlight 78 = .ok (.ireturn, 1) := by decide +kernel
theorem dX12_readFlight_79 : decode cX12_readFlight 79 = .ok (.iload_n 2, 1) := by decide +kernel
theorem dX12_readFlight_80 : decode cX12_readFlight 80 = .ok (.bipush 10, 2) := by decide +kernel
theorem dX12_readFlight_82 : decode cX12_readFlight 82 = .ok (.if_icmp .ne 9, 3) := by decide +kernel
theorem dX12_readFlight_85 : decode cX12_readFlight 85 = .ok (.aload_n 0, 1) := by decide +kernel
theorem dX12_readFlight_86 : decode cX12_readFlight 86 = .ok (.iconst 4, 1) := by decide +kernel
theorem dX12_readFlight_87 : decode cX12_readFlight 87 = .ok (.invokevirtual 185, 3) := by decide +kernel
theorem dX12_readFlight_90 : decode cX12_readFlight 90 = .ok (.ireturn, 1) := by decide +kernel
theorem dX12_readFlight_91 : decode cX12_readFlight 91 = .ok (.bipush 10, 2) := by decide +kernel
theorem dX12_readFlight_93 : decode cX12_readFlight 93 = .ok (.iload_n 1, 1) := by decide +kernel
theorem dX12_readFlight_94 : decode cX12_readFlight 94 = .ok (.imul, 1) := by decide +kernel
theorem dX12_readFlight_95 : decode cX12_readFlight 95 = .ok (.iload_n 2, 1) := by decide +kernel
theorem dX12_readFlight_96 : decode cX12_readFlight 96 = .ok (.iadd, 1) := by decide +kernel
theorem dX12_readFlight_97 : decode cX12_readFlight 97 = .ok (.istore 4, 2) := by decide +kernel
theorem dX12_readFlight_99 : decode cX12_readFlight 99 = .ok (.aload_n 0, 1) := by decide +kernel
theorem dX12_readFlight_100 : decode cX12_readFlight 100 = .ok (.bipush 91, 2) := by decide +kernel
theorem dX12_readFlight_102 : decode cX12_readFlight 102 = .ok (.iload 4, 2) := by decide +kernel
theorem dX12_readFlight_104 : decode cX12_readFlight 104 = .ok (.iadd, 1) := by decide +kernel
theorem dX12_readFlight_105 : decode cX12_readFlight 105 = .ok (.iload_n 3, 1) := by decide +kernel
theorem dX12_readFlight_106 : decode cX12_readFlight 106 = .ok (.iconst 1, 1) := by decide +kernel
theorem dX12_readFlight_107 : decode cX12_readFlight 107 = .ok (.iadd, 1) := by decide +kernel
theorem dX12_readFlight_108 : decode cX12_readFlight 108 = .ok (.bipush 99, 2) := by decide +kernel
theorem dX12_readFlight_110 : decode cX12_readFlight 110 = .ok (.invokevirtual 226, 3) := by decide +kernel
theorem dX12_readFlight_113 : decode cX12_readFlight 113 = .ok (.ifCond .ne 5, 3) := by decide +kernel
theorem dX12_readFlight_116 : decode cX12_readFlight 116 = .ok (.iconst 0, 1) := by decide +kernel
theorem dX12_readFlight_117 : decode cX12_readFlight 117 = .ok (.ireturn, 1) := by decide +kernel
theorem dX12_readFlight_118 : decode cX12_readFlight 118 = .ok (.aload_n 0, 1) := by decide +kernel
theorem dX12_readFlight_119 : decode cX12_readFlight 119 = .ok (.getfield 195, 3) := by decide +kernel
theorem dX12_readFlight_122 : decode cX12_readFlight 122 = .ok (.istore_n 3, 1) := by decide +kernel
theorem dX12_readFlight_123 : decode cX12_readFlight 123 = .ok (.aload_n 0, 1) := by decide +kernel
theorem dX12_readFlight_124 : decode cX12_readFlight 124 = .ok (.sipush 131, 3) := by decide +kernel
theorem dX12_readFlight_127 : decode cX12_readFlight 127 = .ok (.iload 4, 2) := by decide +kernel
theorem dX12_readFlight_129 : decode cX12_readFlight 129 = .ok (.iadd, 1) := by decide +kernel
theorem dX12_readFlight_130 : decode cX12_readFlight 130 = .ok (.iconst 0, 1) := by decide +kernel
theorem dX12_readFlight_131 : decode cX12_readFlight 131 = .ok (.bipush 20, 2) := by decide +kernel
theorem dX12_readFlight_133 : decode cX12_readFlight 133 = .ok (.invokevirtual 226, 3) := by decide +kernel
theorem dX12_readFlight_136 : decode cX12_readFlight 136 = .ok (.ifCond .eq 19, 3) := by decide +kernel
theorem dX12_readFlight_139 : decode cX12_readFlight 139 = .ok (.aload_n 0, 1) := by decide +kernel
theorem dX12_readFlight_140 : decode cX12_readFlight 140 = .ok (.sipush 171, 3) := by decide +kernel
theorem dX12_readFlight_143 : decode cX12_readFlight 143 = .ok (.iload 4, 2) := by decide +kernel
theorem dX12_readFlight_145 : decode cX12_readFlight 145 = .ok (.iadd, 1) := by decide +kernel
theorem dX12_readFlight_146 : decode cX12_readFlight 146 = .ok (.iconst 0, 1) := by decide +kernel
theorem dX12_readFlight_147 : decode cX12_readFlight 147 = .ok (.bipush 20, 2) := by decide +kernel
theorem dX12_readFlight_149 : decode cX12_readFlight 149 = .ok (.invokevirtual 226, 3) := by decide +kernel
theorem dX12_readFlight_152 : decode cX12_readFlight 152 = .ok (.ifCond .ne 5, 3) := by decide +kernel
theorem dX12_readFlight_155 : decode cX12_readFlight 155 = .ok (.iconst 0, 1) := by decide +kernel
theorem dX12_readFlight_156 : decode cX12_readFlight 156 = .ok (.ireturn, 1) := by decide +kernel
theorem dX12_readFlight_157 : decode cX12_readFlight 157 = .ok (.iinc 2 1, 3) := by decide +kernel
theorem dX12_readFlight_160 : decode cX12_readFlight 160 = .ok (.goto (-104), 3) := by decide +kernel
theorem dX12_readFlight_163 : decode cX12_readFlight 163 = .ok (.aload_n 0, 1) := by decide +kernel
theorem dX12_readFlight_164 : decode cX12_readFlight 164 = .ok (.getfield 37, 3) := by decide +kernel
theorem dX12_readFlight_167 : decode cX12_readFlight 167 = .ok (.bipush 87, 2) := by decide +kernel
theorem dX12_readFlight_169 : decode cX12_readFlight 169 = .ok (.iload_n 1, 1) := by decide +kernel
theorem dX12_readFlight_170 : decode cX12_readFlight 170 = .ok (.iadd, 1) := by decide +kernel
theorem dX12_readFlight_171 : decode cX12_readFlight 171 = .ok (.iload_n 2, 1) := by decide +kernel
theorem dX12_readFlight_172 : decode cX12_readFlight 172 = .ok (.iastore, 1) := by decide +kernel
theorem dX12_readFlight_173 : decode cX12_readFlight 173 = .ok (.aload_n 0, 1) := by decide +kernel
theorem dX12_readFlight_174 : decode cX12_readFlight 174 = .ok (.getfield 37, 3) := by decide +kernel
theorem dX12_readFlight_177 : decode cX12_readFlight 177 = .ok (.iconst 2, 1) := by decide +kernel
theorem dX12_readFlight_178 : decode cX12_readFlight 178 = .ok (.dup2, 1) := by decide +kernel
theorem dX12_readFlight_179 : decode cX12_readFlight 179 = .ok (.iaload, 1) := by decide +kernel
theorem dX12_readFlight_180 : decode cX12_readFlight 180 = .ok (.iconst 1, 1) := by decide +kernel
theorem dX12_readFlight_181 : decode cX12_readFlight 181 = .ok (.iadd, 1) := by decide +kernel
theorem dX12_readFlight_182 : decode cX12_readFlight 182 = .ok (.iastore, 1) := by decide +kernel
theorem dX12_readFlight_183 : decode cX12_readFlight 183 = .ok (.iconst 1, 1) := by decide +kernel
theorem dX12_readFlight_184 : decode cX12_readFlight 184 = .ok (.ireturn, 1) := by decide +kernel
set_option maxRecDepth 20000 in
theorem ggX12_valley_X12_taken : GoodIn wsX12_valley wsX12_taken := goodIn_r _ [16, 17, 18, 19, 20, 122, 123, 124, 125, 126, 127, 128, 129, 130, 131, 132, 133, 134, 135, 136, 137, 138, 139, 140, 141, 142, 143, 144, 145, 146, 147, 148, 149, 150, 151, 152, 153, 154, 155, 156, 157, 158, 159, 160, 161, 162, 163, 164, 165, 166, 167, 168] (by decide +kernel) (by decide +kernel)
set_option maxRecDepth 20000 in
theorem gX12_valley_X12_taken : GoodIn wsX12_valley (wsV RX12 244 RX12 yX12_taken wsX12_taken) := goodIn_app (goodIn_of _ (by decide +kernel)) ggX12_valley_X12_taken
set_option maxRecDepth 20000 in
theorem ggX12_valley_X12_next : GoodIn wsX12_valley wsX12_next := goodIn_r _ [24, 19, 25, 26, 18, 20, 7, 27, 28, 29, 30, 31, 15, 32, 33, 34, 35, 36, 37, 38, 39, 122, 123, 124, 125, 126, 127, 128, 129, 130, 131, 132, 133, 134, 135, 136, 137, 138, 139, 140, 141, 142, 143, 144, 145, 146, 147, 148, 149, 150, 151, 152, 153, 154, 155, 156, 157, 158, 159, 160, 161, 162, 163, 164, 165, 166, 167, 168] (by decide +kernel) (by decide +kernel)
set_option maxRecDepth 20000 in
theorem gX12_valley_X12_next : GoodIn wsX12_valley (wsV RX12 188 RX12 yX12_next wsX12_next) := goodIn_app (goodIn_of _ (by decide +kernel)) ggX12_valley_X12_next
set_option maxRecDepth 20000 in
theorem ggX12_valley_X12_line : GoodIn wsX12_valley wsX12_line := goodIn_r _ [43, 44, 45, 46, 47, 48, 49, 50, 6, 51, 52, 5, 53, 54, 55, 56, 57, 58, 15, 59, 7, 28, 60, 61, 62, 63, 4, 64, 65, 66, 67, 68, 69, 70, 2, 25, 8, 21, 22, 23, 24, 19, 26, 18, 20, 27, 29, 30, 31, 32, 33, 34, 35, 36, 37, 38, 39, 71, 72, 73, 74, 75, 76, 77, 78, 79, 80, 81, 82, 83, 84, 85, 10, 86, 87, 88, 89, 90, 91, 92, 93, 94, 95, 96, 97, 98, 99, 100, 101, 102, 103, 104, 105, 106, 107, 108, 109, 110, 111, 112, 113, 114, 115, 116, 117, 122, 123, 124, 125, 126, 127, 128, 129, 130, 131, 132, 133, 134, 135, 136, 137, 138, 139, 140, 141, 142, 143, 144, 145, 146, 147, 148, 149, 150, 151, 152, 153, 154, 155, 156, 157, 158, 159, 160, 161, 162, 163, 164, 165, 166, 167, 168] (by decide +kernel) (by decide +kernel)
set_option maxRecDepth 20000 in
theorem gX12_valley_X12_line : GoodIn wsX12_valley (wsV RX12 250 RX12 yX12_line wsX12_line) := goodIn_app (goodIn_of _ (by decide +kernel)) ggX12_valley_X12_line
set_option maxRecDepth 20000 in
theorem ggX12_valley_X12_sign : GoodIn wsX12_valley wsX12_sign := goodIn_r _ [121, 107, 108, 109, 15, 110, 7, 27, 67, 68, 69, 70, 2, 25, 8, 21, 22, 23, 24, 19, 26, 18, 20, 28, 29, 30, 31, 32, 33, 34, 35, 36, 37, 38, 39, 122, 123, 124, 125, 126, 127, 128, 129, 130, 131, 132, 133, 134, 135, 136, 137, 138, 139, 140, 141, 142, 143, 144, 145, 146, 147, 148, 149, 150, 151, 152, 153, 154, 155, 156, 157, 158, 159, 160, 161, 162, 163, 164, 165, 166, 167, 168] (by decide +kernel) (by decide +kernel)
set_option maxRecDepth 20000 in
theorem gX12_valley_X12_sign : GoodIn wsX12_valley (wsV RX12 253 RX12 yX12_sign wsX12_sign) := goodIn_app (goodIn_of _ (by decide +kernel)) ggX12_valley_X12_sign
theorem dX12_valley_0 : decode cX12_valley 0 = .ok (.aload_n 0, 1) := by decide +kernel
theorem dX12_valley_1 : decode cX12_valley 1 = .ok (.iconst 0, 1) := by decide +kernel
theorem dX12_valley_2 : decode cX12_valley 2 = .ok (.putfield 1, 3) := by decide +kernel
theorem dX12_valley_5 : decode cX12_valley 5 = .ok (.aload_n 0, 1) := by decide +kernel
theorem dX12_valley_6 : decode cX12_valley 6 = .ok (.sipush 900, 3) := by decide +kernel
theorem dX12_valley_9 : decode cX12_valley 9 = .ok (.invokevirtual 244, 3) := by decide +kernel
theorem dX12_valley_12 : decode cX12_valley 12 = .ok (.aload_n 0, 1) := by decide +kernel
theorem dX12_valley_13 : decode cX12_valley 13 = .ok (.iconst 0, 1) := by decide +kernel
theorem dX12_valley_14 : decode cX12_valley 14 = .ok (.putfield 176, 3) := by decide +kernel
theorem dX12_valley_17 : decode cX12_valley 17 = .ok (.aload_n 0, 1) := by decide +kernel
theorem dX12_valley_18 : decode cX12_valley 18 = .ok (.iconst 0, 1) := by decide +kernel
theorem dX12_valley_19 : decode cX12_valley 19 = .ok (.putfield 247, 3) := by decide +kernel
theorem dX12_valley_22 : decode cX12_valley 22 = .ok (.aload_n 0, 1) := by decide +kernel
theorem dX12_valley_23 : decode cX12_valley 23 = .ok (.iconst 0, 1) := by decide +kernel
theorem dX12_valley_24 : decode cX12_valley 24 = .ok (.putfield 213, 3) := by decide +kernel
theorem dX12_valley_27 : decode cX12_valley 27 = .ok (.aload_n 0, 1) := by decide +kernel
theorem dX12_valley_28 : decode cX12_valley 28 = .ok (.iconst 0, 1) := by decide +kernel
theorem dX12_valley_29 : decode cX12_valley 29 = .ok (.putfield 232, 3) := by decide +kernel
theorem dX12_valley_32 : decode cX12_valley 32 = .ok (.iconst 0, 1) := by decide +kernel
theorem dX12_valley_33 : decode cX12_valley 33 = .ok (.istore_n 1, 1) := by decide +kernel
theorem dX12_valley_34 : decode cX12_valley 34 = .ok (.iload_n 1, 1) := by decide +kernel
theorem dX12_valley_35 : decode cX12_valley 35 = .ok (.sipush 211, 3) := by decide +kernel
theorem dX12_valley_38 : decode cX12_valley 38 = .ok (.if_icmp .ge 16, 3) := by decide +kernel
theorem dX12_valley_41 : decode cX12_valley 41 = .ok (.aload_n 0, 1) := by decide +kernel
theorem dX12_valley_42 : decode cX12_valley 42 = .ok (.getfield 37, 3) := by decide +kernel
theorem dX12_valley_45 : decode cX12_valley 45 = .ok (.iload_n 1, 1) := by decide +kernel
theorem dX12_valley_46 : decode cX12_valley 46 = .ok (.iconst 0, 1) := by decide +kernel
theorem dX12_valley_47 : decode cX12_valley 47 = .ok (.iastore, 1) := by decide +kernel
theorem dX12_valley_48 : decode cX12_valley 48 = .ok (.iinc 1 1, 3) := by decide +kernel
theorem dX12_valley_51 : decode cX12_valley 51 = .ok (.goto (-17), 3) := by decide +kernel
theorem dX12_valley_54 : decode cX12_valley 54 = .ok (.aload_n 0, 1) := by decide +kernel
theorem dX12_valley_55 : decode cX12_valley 55 = .ok (.getfield 37, 3) := by decide +kernel
theorem dX12_valley_58 : decode cX12_valley 58 = .ok (.iconst 3, 1) := by decide +kernel
theorem dX12_valley_59 : decode cX12_valley 59 = .ok (.bipush 99, 2) := by decide +kernel
theorem dX12_valley_61 : decode cX12_valley 61 = .ok (.iastore, 1) := by decide +kernel
theorem dX12_valley_62 : decode cX12_valley 62 = .ok (.aload_n 0, 1) := by decide +kernel
theorem dX12_valley_63 : decode cX12_valley 63 = .ok (.getfield 37, 3) := by decide +kernel
theorem dX12_valley_66 : decode cX12_valley 66 = .ok (.iconst 4, 1) := by decide +kernel
theorem dX12_valley_67 : decode cX12_valley 67 = .ok (.bipush 99, 2) := by decide +kernel
theorem dX12_valley_69 : decode cX12_valley 69 = .ok (.iastore, 1) := by decide +kernel
theorem dX12_valley_70 : decode cX12_valley 70 = .ok (.aload_n 0, 1) := by decide +kernel
theorem dX12_valley_71 : decode cX12_valley 71 = .ok (.invokevirtual 188, 3) := by decide +kernel
theorem dX12_valley_74 : decode cX12_valley 74 = .ok (.aload_n 0, 1) := by decide +kernel
theorem dX12_valley_75 : decode cX12_valley 75 = .ok (.getfield 159, 3) := by decide +kernel
theorem dX12_valley_78 : decode cX12_valley 78 = .ok (.ifCond .eq 39, 3) := by decide +kernel
theorem dX12_valley_81 : decode cX12_valley 81 = .ok (.aload_n 0, 1) := by decide +kernel
theorem dX12_valley_82 : decode cX12_valley 82 = .ok (.invokevirtual 250, 3) := by decide +kernel
theorem dX12_valley_85 : decode cX12_valley 85 = .ok (.ifCond .eq 12, 3) := by decide +kernel
theorem dX12_valley_88 : decode cX12_valley 88 = .ok (.aload_n 0, 1) := by decide +kernel
theorem dX12_valley_89 : decode cX12_valley 89 = .ok (.bipush 59, 2) := by decide +kernel
theorem dX12_valley_91 : decode cX12_valley 91 = .ok (.invokevirtual 253, 3) := by decide +kernel
theorem dX12_valley_94 : decode cX12_valley 94 = .ok (.ifCond .ne 10, 3) := by decide +kernel
theorem dX12_valley_97 : decode cX12_valley 97 = .ok (.iconst (-1), 1) := by decide +kernel
theorem dX12_valley_98 : decode cX12_valley 98 = .ok (.aload_n 0, 1) := by decide +kernel
theorem dX12_valley_99 : decode cX12_valley 99 = .ok (.getfield 179, 3) := by decide +kernel
theorem dX12_valley_102 : decode cX12_valley 102 = .ok (.isub, 1) := by decide +kernel
theorem dX12_valley_103 : decode cX12_valley 103 = .ok (.ireturn, 1) := by decide +kernel
theorem dX12_valley_104 : decode cX12_valley 104 = .ok (.aload_n 0, 1) := by decide +kernel
theorem dX12_valley_105 : decode cX12_valley 105 = .ok (.dup, 1) := by decide +kernel
theorem dX12_valley_106 : decode cX12_valley 106 = .ok (.getfield 247, 3) := by decide +kernel
theorem dX12_valley_109 : decode cX12_valley 109 = .ok (.iconst 1, 1) := by decide +kernel
theorem dX12_valley_110 : decode cX12_valley 110 = .ok (.iadd, 1) := by decide +kernel
theorem dX12_valley_111 : decode cX12_valley 111 = .ok (.putfield 247, 3) := by decide +kernel
theorem dX12_valley_114 : decode cX12_valley 114 = .ok (.goto (-40), 3) := by decide +kernel
theorem dX12_valley_117 : decode cX12_valley 117 = .ok (.iconst 0, 1) := by decide +kernel
theorem dX12_valley_118 : decode cX12_valley 118 = .ok (.istore_n 1, 1) := by decide +kernel
theorem dX12_valley_119 : decode cX12_valley 119 = .ok (.iload_n 1, 1) := by decide +kernel
theorem dX12_valley_120 : decode cX12_valley 120 = .ok (.sipush 427, 3) := by decide +kernel
theorem dX12_valley_123 : decode cX12_valley 123 = .ok (.if_icmp .ge 32, 3) := by decide +kernel
theorem dX12_valley_126 : decode cX12_valley 126 = .ok (.aload_n 0, 1) := by decide +kernel
theorem dX12_valley_127 : decode cX12_valley 127 = .ok (.getfield 33, 3) := by decide +kernel
theorem dX12_valley_130 : decode cX12_valley 130 = .ok (.iload_n 1, 1) := by decide +kernel
theorem dX12_valley_131 : decode cX12_valley 131 = .ok (.iload_n 1, 1) := by decide +kernel
theorem dX12_valley_132 : decode cX12_valley 132 = .ok (.sipush 211, 3) := by decide +kernel
theorem dX12_valley_135 : decode cX12_valley 135 = .ok (.if_icmp .ge 12, 3) := by decide +kernel
theorem dX12_valley_138 : decode cX12_valley 138 = .ok (.aload_n 0, 1) := by decide +kernel
theorem dX12_valley_139 : decode cX12_valley 139 = .ok (.getfield 37, 3) := by decide +kernel
theorem dX12_valley_142 : decode cX12_valley 142 = .ok (.iload_n 1, 1) := by decide +kernel
theorem dX12_valley_143 : decode cX12_valley 143 = .ok (.iaload, 1) := by decide +kernel
theorem dX12_valley_144 : decode cX12_valley 144 = .ok (.goto 4, 3) := by decide +kernel
theorem dX12_valley_147 : decode cX12_valley 147 = .ok (.iconst 0, 1) := by decide +kernel
theorem dX12_valley_148 : decode cX12_valley 148 = .ok (.iastore, 1) := by decide +kernel
theorem dX12_valley_149 : decode cX12_valley 149 = .ok (.iinc 1 1, 3) := by decide +kernel
theorem dX12_valley_152 : decode cX12_valley 152 = .ok (.goto (-33), 3) := by decide +kernel
theorem dX12_valley_155 : decode cX12_valley 155 = .ok (.iconst 0, 1) := by decide +kernel
theorem dX12_valley_156 : decode cX12_valley 156 = .ok (.istore_n 1, 1) := by decide +kernel
theorem dX12_valley_157 : decode cX12_valley 157 = .ok (.iload_n 1, 1) := by decide +kernel
theorem dX12_valley_158 : decode cX12_valley 158 = .ok (.bipush 16, 2) := by decide +kernel
theorem dX12_valley_160 : decode cX12_valley 160 = .ok (.if_icmp .ge 24, 3) := by decide +kernel
theorem dX12_valley_163 : decode cX12_valley 163 = .ok (.aload_n 0, 1) := by decide +kernel
theorem dX12_valley_164 : decode cX12_valley 164 = .ok (.getfield 43, 3) := by decide +kernel
theorem dX12_valley_167 : decode cX12_valley 167 = .ok (.iload_n 1, 1) := by decide +kernel
theorem dX12_valley_168 : decode cX12_valley 168 = .ok (.aload_n 0, 1) := by decide +kernel
theorem dX12_valley_169 : decode cX12_valley 169 = .ok (.getfield 43, 3) := by decide +kernel
theorem dX12_valley_172 : decode cX12_valley 172 = .ok (.bipush 16, 2) := by decide +kernel
theorem dX12_valley_174 : decode cX12_valley 174 = .ok (.iload_n 1, 1) := by decide +kernel
theorem dX12_valley_175 : decode cX12_valley 175 = .ok (.iadd, 1) := by decide +kernel
theorem dX12_valley_176 : decode cX12_valley 176 = .ok (.laload, 1) := by decide +kernel
theorem dX12_valley_177 : decode cX12_valley 177 = .ok (.lastore, 1) := by decide +kernel
theorem dX12_valley_178 : decode cX12_valley 178 = .ok (.iinc 1 1, 3) := by decide +kernel
theorem dX12_valley_181 : decode cX12_valley 181 = .ok (.goto (-24), 3) := by decide +kernel
theorem dX12_valley_184 : decode cX12_valley 184 = .ok (.iconst 0, 1) := by decide +kernel
theorem dX12_valley_185 : decode cX12_valley 185 = .ok (.istore_n 1, 1) := by decide +kernel
theorem dX12_valley_186 : decode cX12_valley 186 = .ok (.iload_n 1, 1) := by decide +kernel
theorem dX12_valley_187 : decode cX12_valley 187 = .ok (.bipush 8, 2) := by decide +kernel
theorem dX12_valley_189 : decode cX12_valley 189 = .ok (.if_icmp .ge 47, 3) := by decide +kernel
theorem dX12_valley_192 : decode cX12_valley 192 = .ok (.aload_n 0, 1) := by decide +kernel
theorem dX12_valley_193 : decode cX12_valley 193 = .ok (.getfield 33, 3) := by decide +kernel
theorem dX12_valley_196 : decode cX12_valley 196 = .ok (.sipush 214, 3) := by decide +kernel
theorem dX12_valley_199 : decode cX12_valley 199 = .ok (.iload_n 1, 1) := by decide +kernel
theorem dX12_valley_200 : decode cX12_valley 200 = .ok (.iadd, 1) := by decide +kernel
theorem dX12_valley_201 : decode cX12_valley 201 = .ok (.aload_n 0, 1) := by decide +kernel
theorem dX12_valley_202 : decode cX12_valley 202 = .ok (.getfield 33, 3) := by decide +kernel
theorem dX12_valley_205 : decode cX12_valley 205 = .ok (.bipush 31, 2) := by decide +kernel
theorem dX12_valley_207 : decode cX12_valley 207 = .ok (.iload_n 1, 1) := by decide +kernel
theorem dX12_valley_208 : decode cX12_valley 208 = .ok (.iadd, 1) := by decide +kernel
theorem dX12_valley_209 : decode cX12_valley 209 = .ok (.iaload, 1) := by decide +kernel
theorem dX12_valley_210 : decode cX12_valley 210 = .ok (.iastore, 1) := by decide +kernel
theorem dX12_valley_211 : decode cX12_valley 211 = .ok (.aload_n 0, 1) := by decide +kernel
theorem dX12_valley_212 : decode cX12_valley 212 = .ok (.getfield 33, 3) := by decide +kernel
theorem dX12_valley_215 : decode cX12_valley 215 = .ok (.sipush 222, 3) := by decide +kernel
theorem dX12_valley_218 : decode cX12_valley 218 = .ok (.iload_n 1, 1) := by decide +kernel
theorem dX12_valley_219 : decode cX12_valley 219 = .ok (.iadd, 1) := by decide +kernel
theorem dX12_valley_220 : decode cX12_valley 220 = .ok (.aload_n 0, 1) := by decide +kernel
theorem dX12_valley_221 : decode cX12_valley 221 = .ok (.getfield 33, 3) := by decide +kernel
theorem dX12_valley_224 : decode cX12_valley 224 = .ok (.bipush 47, 2) := by decide +kernel
theorem dX12_valley_226 : decode cX12_valley 226 = .ok (.iload_n 1, 1) := by decide +kernel
theorem dX12_valley_227 : decode cX12_valley 227 = .ok (.iadd, 1) := by decide +kernel
theorem dX12_valley_228 : decode cX12_valley 228 = .ok (.iaload, 1) := by decide +kernel
theorem dX12_valley_229 : decode cX12_valley 229 = .ok (.iastore, 1) := by decide +kernel
theorem dX12_valley_230 : decode cX12_valley 230 = .ok (.iinc 1 1, 3) := by decide +kernel
theorem dX12_valley_233 : decode cX12_valley 233 = .ok (.goto (-47), 3) := by decide +kernel
theorem dX12_valley_236 : decode cX12_valley 236 = .ok (.aload_n 0, 1) := by decide +kernel
theorem dX12_valley_237 : decode cX12_valley 237 = .ok (.iconst 0, 1) := by decide +kernel
theorem dX12_valley_238 : decode cX12_valley 238 = .ok (.putfield 256, 3) := by decide +kernel
theorem dX12_valley_241 : decode cX12_valley 241 = .ok (.aload_n 0, 1) := by decide +kernel
