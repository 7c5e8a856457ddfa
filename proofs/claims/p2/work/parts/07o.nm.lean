theorem dX12_sentence_153 : decode cX12_sentence 153 = .ok (.if_icmp .ge 25, 3) := by decide +kernel
theorem dX12_sentence_156 : decode cX12_sentence 156 = .ok (.aload_n 0, 1) := by decide +kernel
theorem dX12_sentence_157 : decode cX12_sentence 157 = .ok (.getfield 33, 3) := by decide +kernel
theorem dX12_sentence_160 : decode cX12_sentence 160 = .ok (.sipush 247, 3) := by decide +kernel
theorem dX12_sentence_163 : decode cX12_sentence 163 = .ok (.iload_n 2, 1) := by decide +kernel
theorem dX12_sentence_164 : decode cX12_sentence 164 = .ok (.iadd, 1) := by decide +kernel
theorem dX12_sentence_165 : decode cX12_sentence 165 = .ok (.aload_n 0, 1) := by decide +kernel
theorem dX12_sentence_166 : decode cX12_sentence 166 = .ok (.getfield 40, 3) := by decide +kernel
theorem dX12_sentence_169 : decode cX12_sentence 169 = .ok (.iload_n 2, 1) := by decide +kernel
theorem dX12_sentence_170 : decode cX12_sentence 170 = .ok (.iaload, 1) := by decide +kernel
theorem dX12_sentence_171 : decode cX12_sentence 171 = .ok (.iastore, 1) := by decide +kernel
theorem dX12_sentence_172 : decode cX12_sentence 172 = .ok (.iinc 2 1, 3) := by decide +kernel
theorem dX12_sentence_175 : decode cX12_sentence 175 = .ok (.goto (-29), 3) := by decide +kernel
theorem dX12_sentence_178 : decode cX12_sentence 178 = .ok (.aload_n 0, 1) := by decide +kernel
theorem dX12_sentence_179 : decode cX12_sentence 179 = .ok (.getfield 446, 3) := by decide +kernel
theorem dX12_sentence_182 : decode cX12_sentence 182 = .ok (.ireturn, 1) := by decide +kernel
set_option maxRecDepth 20000 in
theorem ggX12_hasHeard_X12_asNow : GoodIn wsX12_hasHeard wsX12_asNow := goodIn_r _ [6, 1, 7, 8, 9, 5, 10, 11, 12, 13, 41, 42, 43, 44, 45, 46, 47, 48, 49, 50, 51, 52, 53, 54, 55, 56, 57, 58, 59, 60, 61, 62, 63, 64, 65, 66, 67, 68, 69, 70, 71, 72, 73, 74, 75, 76, 77, 78, 79, 80, 81, 82, 83, 84, 85, 86, 87] (by decide +kernel) (by decide +kernel)
set_option maxRecDepth 20000 in
theorem gX12_hasHeard_X12_asNow : GoodIn wsX12_hasHeard (wsV RX12 318 RX12 yX12_asNow wsX12_asNow) := goodIn_app (goodIn_of _ (by decide +kernel)) ggX12_hasHeard_X12_asNow
set_option maxRecDepth 20000 in
theorem ggX12_hasHeard_X12_pastOf : GoodIn wsX12_hasHeard wsX12_pastOf := goodIn_r _ [17, 18, 19, 20, 5, 21, 1, 41, 42, 43, 44, 45, 46, 47, 48, 49, 50, 51, 52, 53, 54, 55, 56, 57, 58, 59, 60, 61, 62, 63, 64, 65, 66, 67, 68, 69, 70, 71, 72, 73, 74, 75, 76, 77, 78, 79, 80, 81, 82, 83, 84, 85, 86, 87] (by decide +kernel) (by decide +kernel)
set_option maxRecDepth 20000 in
theorem gX12_hasHeard_X12_pastOf : GoodIn wsX12_hasHeard (wsV RX12 324 RX12 yX12_pastOf wsX12_pastOf) := goodIn_app (goodIn_of _ (by decide +kernel)) ggX12_hasHeard_X12_pastOf
set_option maxRecDepth 20000 in
theorem ggX12_hasHeard_X12_canHear : GoodIn wsX12_hasHeard wsX12_canHear := goodIn_r _ [25, 1, 13, 11, 26, 27, 28, 5, 29, 12, 30, 31, 32, 33, 34, 35, 36, 37, 38, 39, 40, 41, 42, 43, 44, 45, 46, 47, 48, 49, 50, 51, 52, 53, 54, 55, 56, 57, 58, 59, 60, 61, 62, 63, 64, 65, 66, 67, 68, 69, 70, 71, 72, 73, 74, 75, 76, 77, 78, 79, 80, 81, 82, 83, 84, 85, 86, 87] (by decide +kernel) (by decide +kernel)
set_option maxRecDepth 20000 in
theorem gX12_hasHeard_X12_canHear : GoodIn wsX12_hasHeard (wsV RX12 293 RX12 yX12_canHear wsX12_canHear) := goodIn_app (goodIn_of _ (by decide +kernel)) ggX12_hasHeard_X12_canHear
theorem dX12_hasHeard_0 : decode cX12_hasHeard 0 = .ok (.aload_n 0, 1) := by decide +kernel
theorem dX12_hasHeard_1 : decode cX12_hasHeard 1 = .ok (.invokevirtual 318, 3) := by decide +kernel
theorem dX12_hasHeard_4 : decode cX12_hasHeard 4 = .ok (.aload_n 0, 1) := by decide +kernel
theorem dX12_hasHeard_5 : decode cX12_hasHeard 5 = .ok (.invokevirtual 324, 3) := by decide +kernel
theorem dX12_hasHeard_8 : decode cX12_hasHeard 8 = .ok (.istore_n 2, 1) := by decide +kernel
theorem dX12_hasHeard_9 : decode cX12_hasHeard 9 = .ok (.iconst 0, 1) := by decide +kernel
theorem dX12_hasHeard_10 : decode cX12_hasHeard 10 = .ok (.istore_n 3, 1) := by decide +kernel
theorem dX12_hasHeard_11 : decode cX12_hasHeard 11 = .ok (.iload_n 3, 1) := by decide +kernel
theorem dX12_hasHeard_12 : decode cX12_hasHeard 12 = .ok (.iload_n 2, 1) := by decide +kernel
theorem dX12_hasHeard_13 : decode cX12_hasHeard 13 = .ok (.if_icmp .ge 30, 3) := by decide +kernel
theorem dX12_hasHeard_16 : decode cX12_hasHeard 16 = .ok (.aload_n 0, 1) := by decide +kernel
theorem dX12_hasHeard_17 : decode cX12_hasHeard 17 = .ok (.iload_n 1, 1) := by decide +kernel
theorem dX12_hasHeard_18 : decode cX12_hasHeard 18 = .ok (.aload_n 0, 1) := by decide +kernel
theorem dX12_hasHeard_19 : decode cX12_hasHeard 19 = .ok (.getfield 33, 3) := by decide +kernel
theorem dX12_hasHeard_22 : decode cX12_hasHeard 22 = .ok (.sipush 212, 3) := by decide +kernel
theorem dX12_hasHeard_25 : decode cX12_hasHeard 25 = .ok (.iaload, 1) := by decide +kernel
theorem dX12_hasHeard_26 : decode cX12_hasHeard 26 = .ok (.iconst 1, 1) := by decide +kernel
theorem dX12_hasHeard_27 : decode cX12_hasHeard 27 = .ok (.isub, 1) := by decide +kernel
theorem dX12_hasHeard_28 : decode cX12_hasHeard 28 = .ok (.iload_n 3, 1) := by decide +kernel
theorem dX12_hasHeard_29 : decode cX12_hasHeard 29 = .ok (.invokevirtual 293, 3) := by decide +kernel
theorem dX12_hasHeard_32 : decode cX12_hasHeard 32 = .ok (.ifCond .eq 5, 3) := by decide +kernel
theorem dX12_hasHeard_35 : decode cX12_hasHeard 35 = .ok (.iconst 1, 1) := by decide +kernel
theorem dX12_hasHeard_36 : decode cX12_hasHeard 36 = .ok (.ireturn, 1) := by decide +kernel
theorem dX12_hasHeard_37 : decode cX12_hasHeard 37 = .ok (.iinc 3 1, 3) := by decide +kernel
theorem dX12_hasHeard_40 : decode cX12_hasHeard 40 = .ok (.goto (-29), 3) := by decide +kernel
theorem dX12_hasHeard_43 : decode cX12_hasHeard 43 = .ok (.iconst 0, 1) := by decide +kernel
theorem dX12_hasHeard_44 : decode cX12_hasHeard 44 = .ok (.ireturn, 1) := by decide +kernel
set_option maxRecDepth 20000 in
theorem ggX12_isLeaf_X12_isTrue : GoodIn wsX12_isLeaf wsX12_isTrue := goodIn_r _ [6, 1, 7, 8, 9, 5, 10, 11, 12, 13, 14, 15, 16, 17, 18, 19, 20, 21, 22, 23, 24, 25, 26, 27, 28, 29, 30, 31, 32, 33, 34, 35, 36, 49, 50, 51, 52, 53, 54, 55, 56, 57, 58, 59, 60, 61, 62, 63, 64, 65, 66, 67, 68, 69, 70, 71, 72, 73, 74, 75, 76, 77, 78, 79, 80, 81, 82, 83, 84, 85, 86, 87, 88, 89, 90, 91, 92, 93, 94, 95] (by decide +kernel) (by decide +kernel)
set_option maxRecDepth 20000 in
theorem gX12_isLeaf_X12_isTrue : GoodIn wsX12_isLeaf (wsV RX12 333 RX12 yX12_isTrue wsX12_isTrue) := goodIn_app (goodIn_of _ (by decide +kernel)) ggX12_isLeaf_X12_isTrue
set_option maxRecDepth 20000 in
theorem ggX12_isLeaf_X12_hasHeard : GoodIn wsX12_isLeaf wsX12_hasHeard := goodIn_r _ [40, 1, 7, 8, 9, 5, 10, 11, 12, 13, 14, 15, 16, 17, 41, 42, 43, 44, 45, 46, 47, 48, 18, 19, 20, 21, 22, 23, 24, 25, 26, 27, 28, 29, 30, 31, 32, 33, 34, 35, 36, 49, 50, 51, 52, 53, 54, 55, 56, 57, 58, 59, 60, 61, 62, 63, 64, 65, 66, 67, 68, 69, 70, 71, 72, 73, 74, 75, 76, 77, 78, 79, 80, 81, 82, 83, 84, 85, 86, 87, 88, 89, 90, 91, 92, 93, 94, 95] (by decide +kernel) (by decide +kernel)
set_option maxRecDepth 20000 in
theorem gX12_isLeaf_X12_hasHeard : GoodIn wsX12_isLeaf (wsV RX12 464 RX12 yX12_hasHeard wsX12_hasHeard) := goodIn_app (goodIn_of _ (by decide +kernel)) ggX12_isLeaf_X12_hasHeard
theorem dX12_isLeaf_0 : decode cX12_isLeaf 0 = .ok (.iload_n 2, 1) := by decide +kernel
theorem dX12_isLeaf_1 : decode cX12_isLeaf 1 = .ok (.tableswitch 149 0 5 #[39, 58, 76, 95, 122, 128], 39) := by decide +kernel
theorem dX12_isLeaf_40 : decode cX12_isLeaf 40 = .ok (.aload_n 0, 1) := by decide +kernel
theorem dX12_isLeaf_41 : decode cX12_isLeaf 41 = .ok (.getfield 33, 3) := by decide +kernel
theorem dX12_isLeaf_44 : decode cX12_isLeaf 44 = .ok (.bipush 55, 2) := by decide +kernel
theorem dX12_isLeaf_46 : decode cX12_isLeaf 46 = .ok (.iload_n 1, 1) := by decide +kernel
theorem dX12_isLeaf_47 : decode cX12_isLeaf 47 = .ok (.iadd, 1) := by decide +kernel
theorem dX12_isLeaf_48 : decode cX12_isLeaf 48 = .ok (.iaload, 1) := by decide +kernel
theorem dX12_isLeaf_49 : decode cX12_isLeaf 49 = .ok (.iconst 1, 1) := by decide +kernel
theorem dX12_isLeaf_50 : decode cX12_isLeaf 50 = .ok (.if_icmp .ne 7, 3) := by decide +kernel
theorem dX12_isLeaf_53 : decode cX12_isLeaf 53 = .ok (.iconst 1, 1) := by decide +kernel
theorem dX12_isLeaf_54 : decode cX12_isLeaf 54 = .ok (.goto 4, 3) := by decide +kernel
theorem dX12_isLeaf_57 : decode cX12_isLeaf 57 = .ok (.iconst 0, 1) := by decide +kernel
theorem dX12_isLeaf_58 : decode cX12_isLeaf 58 = .ok (.ireturn, 1) := by decide +kernel
theorem dX12_isLeaf_59 : decode cX12_isLeaf 59 = .ok (.aload_n 0, 1) := by decide +kernel
theorem dX12_isLeaf_60 : decode cX12_isLeaf 60 = .ok (.getfield 33, 3) := by decide +kernel
theorem dX12_isLeaf_63 : decode cX12_isLeaf 63 = .ok (.bipush 63, 2) := by decide +kernel
theorem dX12_isLeaf_65 : decode cX12_isLeaf 65 = .ok (.iload_n 1, 1) := by decide +kernel
theorem dX12_isLeaf_66 : decode cX12_isLeaf 66 = .ok (.iadd, 1) := by decide +kernel
theorem dX12_isLeaf_67 : decode cX12_isLeaf 67 = .ok (.iaload, 1) := by decide +kernel
theorem dX12_isLeaf_68 : decode cX12_isLeaf 68 = .ok (.ifCond .le 7, 3) := by decide +kernel
theorem dX12_isLeaf_71 : decode cX12_isLeaf 71 = .ok (.iconst 1, 1) := by decide +kernel
theorem dX12_isLeaf_72 : decode cX12_isLeaf 72 = .ok (.goto 4, 3) := by decide +kernel
theorem dX12_isLeaf_75 : decode cX12_isLeaf 75 = .ok (.iconst 0, 1) := by decide +kernel
theorem dX12_isLeaf_76 : decode cX12_isLeaf 76 = .ok (.ireturn, 1) := by decide +kernel
theorem dX12_isLeaf_77 : decode cX12_isLeaf 77 = .ok (.aload_n 0, 1) := by decide +kernel
theorem dX12_isLeaf_78 : decode cX12_isLeaf 78 = .ok (.getfield 33, 3) := by decide +kernel
theorem dX12_isLeaf_81 : decode cX12_isLeaf 81 = .ok (.sipush 230, 3) := by decide +kernel
theorem dX12_isLeaf_84 : decode cX12_isLeaf 84 = .ok (.iload_n 1, 1) := by decide +kernel
theorem dX12_isLeaf_85 : decode cX12_isLeaf 85 = .ok (.iadd, 1) := by decide +kernel
theorem dX12_isLeaf_86 : decode cX12_isLeaf 86 = .ok (.iaload, 1) := by decide +kernel
theorem dX12_isLeaf_87 : decode cX12_isLeaf 87 = .ok (.ifCond .le 7, 3) := by decide +kernel
theorem dX12_isLeaf_90 : decode cX12_isLeaf 90 = .ok (.iconst 1, 1) := by decide +kernel
theorem dX12_isLeaf_91 : decode cX12_isLeaf 91 = .ok (.goto 4, 3) := by decide +kernel
theorem dX12_isLeaf_94 : decode cX12_isLeaf 94 = .ok (.iconst 0, 1) := by decide +kernel
theorem dX12_isLeaf_95 : decode cX12_isLeaf 95 = .ok (.ireturn, 1) := by decide +kernel
theorem dX12_isLeaf_96 : decode cX12_isLeaf 96 = .ok (.aload_n 0, 1) := by decide +kernel
theorem dX12_isLeaf_97 : decode cX12_isLeaf 97 = .ok (.getfield 33, 3) := by decide +kernel
theorem dX12_isLeaf_100 : decode cX12_isLeaf 100 = .ok (.sipush 230, 3) := by decide +kernel
theorem dX12_isLeaf_103 : decode cX12_isLeaf 103 = .ok (.iload_n 1, 1) := by decide +kernel
theorem dX12_isLeaf_104 : decode cX12_isLeaf 104 = .ok (.iadd, 1) := by decide +kernel
theorem dX12_isLeaf_105 : decode cX12_isLeaf 105 = .ok (.iaload, 1) := by decide +kernel
theorem dX12_isLeaf_106 : decode cX12_isLeaf 106 = .ok (.ifCond .le 15, 3) := by decide +kernel
theorem dX12_isLeaf_109 : decode cX12_isLeaf 109 = .ok (.aload_n 0, 1) := by decide +kernel
theorem dX12_isLeaf_110 : decode cX12_isLeaf 110 = .ok (.iload_n 1, 1) := by decide +kernel
theorem dX12_isLeaf_111 : decode cX12_isLeaf 111 = .ok (.invokevirtual 333, 3) := by decide +kernel
theorem dX12_isLeaf_114 : decode cX12_isLeaf 114 = .ok (.ifCond .ne 7, 3) := by decide +kernel
theorem dX12_isLeaf_117 : decode cX12_isLeaf 117 = .ok (.iconst 1, 1) := by decide +kernel
theorem dX12_isLeaf_118 : decode cX12_isLeaf 118 = .ok (.goto 4, 3) := by decide +kernel
theorem dX12_isLeaf_121 : decode cX12_isLeaf 121 = .ok (.iconst 0, 1) := by decide +kernel
theorem dX12_isLeaf_122 : decode cX12_isLeaf 122 = .ok (.ireturn, 1) := by decide +kernel
theorem dX12_isLeaf_123 : decode cX12_isLeaf 123 = .ok (.aload_n 0, 1) := by decide +kernel
theorem dX12_isLeaf_124 : decode cX12_isLeaf 124 = .ok (.iload_n 1, 1) := by decide +kernel
theorem dX12_isLeaf_125 : decode cX12_isLeaf 125 = .ok (.invokevirtual 464, 3) := by decide +kernel
theorem dX12_isLeaf_128 : decode cX12_isLeaf 128 = .ok (.ireturn, 1) := by decide +kernel
theorem dX12_isLeaf_129 : decode cX12_isLeaf 129 = .ok (.aload_n 0, 1) := by decide +kernel
theorem dX12_isLeaf_130 : decode cX12_isLeaf 130 = .ok (.getfield 33, 3) := by decide +kernel
theorem dX12_isLeaf_133 : decode cX12_isLeaf 133 = .ok (.sipush 214, 3) := by decide +kernel
theorem dX12_isLeaf_136 : decode cX12_isLeaf 136 = .ok (.iload_n 1, 1) := by decide +kernel
theorem dX12_isLeaf_137 : decode cX12_isLeaf 137 = .ok (.iadd, 1) := by decide +kernel
theorem dX12_isLeaf_138 : decode cX12_isLeaf 138 = .ok (.iaload, 1) := by decide +kernel
theorem dX12_isLeaf_139 : decode cX12_isLeaf 139 = .ok (.iload 4, 2) := by decide +kernel
theorem dX12_isLeaf_141 : decode cX12_isLeaf 141 = .ok (.if_icmp .ne 7, 3) := by decide +kernel
theorem dX12_isLeaf_144 : decode cX12_isLeaf 144 = .ok (.iconst 1, 1) := by decide +kernel
theorem dX12_isLeaf_145 : decode cX12_isLeaf 145 = .ok (.goto 4, 3) := by decide +kernel
theorem dX12_isLeaf_148 : decode cX12_isLeaf 148 = .ok (.iconst 0, 1) := by decide +kernel
theorem dX12_isLeaf_149 : decode cX12_isLeaf 149 = .ok (.ireturn, 1) := by decide +kernel
theorem dX12_isLeaf_150 : decode cX12_isLeaf 150 = .ok (.iload_n 2, 1) := by decide +kernel
theorem dX12_isLeaf_151 : decode cX12_isLeaf 151 = .ok (.bipush 6, 2) := by decide +kernel
theorem dX12_isLeaf_153 : decode cX12_isLeaf 153 = .ok (.if_icmp .ne 16, 3) := by decide +kernel
theorem dX12_isLeaf_156 : decode cX12_isLeaf 156 = .ok (.aload_n 0, 1) := by decide +kernel
theorem dX12_isLeaf_157 : decode cX12_isLeaf 157 = .ok (.getfield 33, 3) := by decide +kernel
theorem dX12_isLeaf_160 : decode cX12_isLeaf 160 = .ok (.sipush 222, 3) := by decide +kernel
theorem dX12_isLeaf_163 : decode cX12_isLeaf 163 = .ok (.iload_n 1, 1) := by decide +kernel
theorem dX12_isLeaf_164 : decode cX12_isLeaf 164 = .ok (.iadd, 1) := by decide +kernel
theorem dX12_isLeaf_165 : decode cX12_isLeaf 165 = .ok (.iaload, 1) := by decide +kernel
theorem dX12_isLeaf_166 : decode cX12_isLeaf 166 = .ok (.goto 41, 3) := by decide +kernel
theorem dX12_isLeaf_169 : decode cX12_isLeaf 169 = .ok (.iload_n 2, 1) := by decide +kernel
theorem dX12_isLeaf_170 : decode cX12_isLeaf 170 = .ok (.bipush 7, 2) := by decide +kernel
theorem dX12_isLeaf_172 : decode cX12_isLeaf 172 = .ok (.if_icmp .ne 16, 3) := by decide +kernel
theorem dX12_isLeaf_175 : decode cX12_isLeaf 175 = .ok (.aload_n 0, 1) := by decide +kernel
theorem dX12_isLeaf_176 : decode cX12_isLeaf 176 = .ok (.getfield 33, 3) := by decide +kernel
theorem dX12_isLeaf_179 : decode cX12_isLeaf 179 = .ok (.sipush 238, 3) := by decide +kernel
theorem dX12_isLeaf_182 : decode cX12_isLeaf 182 = .ok (.iload_n 1, 1) := by decide +kernel
theorem dX12_isLeaf_183 : decode cX12_isLeaf 183 = .ok (.iadd, 1) := by decide +kernel
theorem dX12_isLeaf_184 : decode cX12_isLeaf 184 = .ok (.iaload, 1) := by decide +kernel
theorem dX12_isLeaf_185 : decode cX12_isLeaf 185 = .ok (.goto 22, 3) := by decide +kernel
theorem dX12_isLeaf_188 : decode cX12_isLeaf 188 = .ok (.iload_n 2, 1) := by decide +kernel
theorem dX12_isLeaf_189 : decode cX12_isLeaf 189 = .ok (.bipush 8, 2) := by decide +kernel
theorem dX12_isLeaf_191 : decode cX12_isLeaf 191 = .ok (.if_icmp .ne 15, 3) := by decide +kernel
theorem dX12_isLeaf_194 : decode cX12_isLeaf 194 = .ok (.aload_n 0, 1) := by decide +kernel
theorem dX12_isLeaf_195 : decode cX12_isLeaf 195 = .ok (.getfield 33, 3) := by decide +kernel
theorem dX12_isLeaf_198 : decode cX12_isLeaf 198 = .ok (.bipush 39, 2) := by decide +kernel
theorem dX12_isLeaf_200 : decode cX12_isLeaf 200 = .ok (.iload_n 1, 1) := by decide +kernel
theorem dX12_isLeaf_201 : decode cX12_isLeaf 201 = .ok (.iadd, 1) := by decide +kernel
theorem dX12_isLeaf_202 : decode cX12_isLeaf 202 = .ok (.iaload, 1) := by decide +kernel
theorem dX12_isLeaf_203 : decode cX12_isLeaf 203 = .ok (.goto 4, 3) := by decide +kernel
theorem dX12_isLeaf_206 : decode cX12_isLeaf 206 = .ok (.iload_n 1, 1) := by decide +kernel
theorem dX12_isLeaf_207 : decode cX12_isLeaf 207 = .ok (.istore 5, 2) := by decide +kernel
theorem dX12_isLeaf_209 : decode cX12_isLeaf 209 = .ok (.iload_n 3, 1) := by decide +kernel
theorem dX12_isLeaf_210 : decode cX12_isLeaf 210 = .ok (.bipush 60, 2) := by decide +kernel
theorem dX12_isLeaf_212 : decode cX12_isLeaf 212 = .ok (.if_icmp .ne 18, 3) := by decide +kernel
theorem dX12_isLeaf_215 : decode cX12_isLeaf 215 = .ok (.iload 5, 2) := by decide +kernel
theorem dX12_isLeaf_217 : decode cX12_isLeaf 217 = .ok (.iload 4, 2) := by decide +kernel
theorem dX12_isLeaf_219 : decode cX12_isLeaf 219 = .ok (.if_icmp .ge 7, 3) := by decide +kernel
theorem dX12_isLeaf_222 : decode cX12_isLeaf 222 = .ok (.iconst 1, 1) := by decide +kernel
theorem dX12_isLeaf_223 : decode cX12_isLeaf 223 = .ok (.goto 40, 3) := by decide +kernel
theorem dX12_isLeaf_226 : decode cX12_isLeaf 226 = .ok (.iconst 0, 1) := by decide +kernel
theorem dX12_isLeaf_227 : decode cX12_isLeaf 227 = .ok (.goto 36, 3) := by decide +kernel
theorem dX12_isLeaf_230 : decode cX12_isLeaf 230 = .ok (.iload_n 3, 1) := by decide +kernel
theorem dX12_isLeaf_231 : decode cX12_isLeaf 231 = .ok (.bipush 61, 2) := by decide +kernel
theorem dX12_isLeaf_233 : decode cX12_isLeaf 233 = .ok (.if_icmp .ne 18, 3) := by decide +kernel
theorem dX12_isLeaf_236 : decode cX12_isLeaf 236 = .ok (.iload 5, 2) := by decide +kernel
theorem dX12_isLeaf_238 : decode cX12_isLeaf 238 = .ok (.iload 4, 2) := by decide +kernel
theorem dX12_isLeaf_240 : decode cX12_isLeaf 240 = .ok (.if_icmp .ne 7, 3) := by decide +kernel
theorem dX12_isLeaf_243 : decode cX12_isLeaf 243 = .ok (.iconst 1, 1) := by decide +kernel
theorem dX12_isLeaf_244 : decode cX12_isLeaf 244 = .ok (.goto 19, 3) := by decide +kernel
theorem dX12_isLeaf_247 : decode cX12_isLeaf 247 = .ok (.iconst 0, 1) := by decide +kernel
theorem dX12_isLeaf_248 : decode cX12_isLeaf 248 = .ok (.goto 15, 3) := by decide +kernel
theorem dX12_isLeaf_251 : decode cX12_isLeaf 251 = .ok (.iload 5, 2) := by decide +kernel
theorem dX12_isLeaf_253 : decode cX12_isLeaf 253 = .ok (.iload 4, 2) := by decide +kernel
theorem dX12_isLeaf_255 : decode cX12_isLeaf 255 = .ok (.if_icmp .le 7, 3) := by decide +kernel
theorem dX12_isLeaf_258 : decode cX12_isLeaf 258 = .ok (.iconst 1, 1) := by decide +kernel
theorem dX12_isLeaf_259 : decode cX12_isLeaf 259 = .ok (.goto 4, 3) := by decide +kernel
theorem dX12_isLeaf_262 : decode cX12_isLeaf 262 = .ok (.iconst 0, 1) := by decide +kernel
theorem dX12_isLeaf_263 : decode cX12_isLeaf 263 = .ok (.ireturn, 1) := by decide +kernel
set_option maxRecDepth 20000 in
theorem ggX12_isSaid_X12_isLeaf : GoodIn wsX12_isSaid wsX12_isLeaf := goodIn_r _ [7, 1, 8, 9, 10, 6, 11, 12, 13, 14, 15, 16, 17, 18, 19, 20, 21, 22, 23, 24, 25, 26, 27, 28, 29, 30, 31, 32, 33, 34, 35, 36, 37, 38, 39, 40, 41, 42, 43, 44, 45, 46, 47, 48, 49, 50, 51, 52, 53, 54, 55, 56, 57, 58, 59, 60, 61, 62, 63, 64, 65, 66, 67, 68, 69, 70, 71, 72, 73, 74, 75, 76, 77, 78, 79, 80, 81, 82, 83, 84, 85, 86, 87, 88, 89, 90, 91, 92, 93, 94, 95, 96, 97, 98, 99, 100] (by decide +kernel) (by decide +kernel)
set_option maxRecDepth 20000 in
theorem gX12_isSaid_X12_isLeaf : GoodIn wsX12_isSaid (wsV RX12 467 RX12 yX12_isLeaf wsX12_isLeaf) := goodIn_app (goodIn_of _ (by decide +kernel)) ggX12_isSaid_X12_isLeaf
theorem dX12_isSaid_0 : decode cX12_isSaid 0 = .ok (.iconst 0, 1) := by decide +kernel
theorem dX12_isSaid_1 : decode cX12_isSaid 1 = .ok (.istore_n 2, 1) := by decide +kernel
theorem dX12_isSaid_2 : decode cX12_isSaid 2 = .ok (.iconst 0, 1) := by decide +kernel
theorem dX12_isSaid_3 : decode cX12_isSaid 3 = .ok (.istore_n 3, 1) := by decide +kernel
theorem dX12_isSaid_4 : decode cX12_isSaid 4 = .ok (.iload_n 3, 1) := by decide +kernel
theorem dX12_isSaid_5 : decode cX12_isSaid 5 = .ok (.aload_n 0, 1) := by decide +kernel
theorem dX12_isSaid_6 : decode cX12_isSaid 6 = .ok (.getfield 33, 3) := by decide +kernel
theorem dX12_isSaid_9 : decode cX12_isSaid 9 = .ok (.sipush 246, 3) := by decide +kernel
theorem dX12_isSaid_12 : decode cX12_isSaid 12 = .ok (.iaload, 1) := by decide +kernel
theorem dX12_isSaid_13 : decode cX12_isSaid 13 = .ok (.if_icmp .ge 199, 3) := by decide +kernel
theorem dX12_isSaid_16 : decode cX12_isSaid 16 = .ok (.sipush 247, 3) := by decide +kernel
theorem dX12_isSaid_19 : decode cX12_isSaid 19 = .ok (.iconst 3, 1) := by decide +kernel
theorem dX12_isSaid_20 : decode cX12_isSaid 20 = .ok (.iload_n 3, 1) := by decide +kernel
theorem dX12_isSaid_21 : decode cX12_isSaid 21 = .ok (.imul, 1) := by decide +kernel
theorem dX12_isSaid_22 : decode cX12_isSaid 22 = .ok (.iadd, 1) := by decide +kernel
theorem dX12_isSaid_23 : decode cX12_isSaid 23 = .ok (.istore 4, 2) := by decide +kernel
theorem dX12_isSaid_25 : decode cX12_isSaid 25 = .ok (.aload_n 0, 1) := by decide +kernel
theorem dX12_isSaid_26 : decode cX12_isSaid 26 = .ok (.getfield 33, 3) := by decide +kernel
theorem dX12_isSaid_29 : decode cX12_isSaid 29 = .ok (.iload 4, 2) := by decide +kernel
theorem dX12_isSaid_31 : decode cX12_isSaid 31 = .ok (.iaload, 1) := by decide +kernel
theorem dX12_isSaid_32 : decode cX12_isSaid 32 = .ok (.bipush 20, 2) := by decide +kernel
theorem dX12_isSaid_34 : decode cX12_isSaid 34 = .ok (.if_icmp .ne 30, 3) := by decide +kernel
theorem dX12_isSaid_37 : decode cX12_isSaid 37 = .ok (.aload_n 0, 1) := by decide +kernel
theorem dX12_isSaid_38 : decode cX12_isSaid 38 = .ok (.getfield 74, 3) := by decide +kernel
theorem dX12_isSaid_41 : decode cX12_isSaid 41 = .ok (.iload_n 2, 1) := by decide +kernel
theorem dX12_isSaid_42 : decode cX12_isSaid 42 = .ok (.iconst 1, 1) := by decide +kernel
theorem dX12_isSaid_43 : decode cX12_isSaid 43 = .ok (.isub, 1) := by decide +kernel
theorem dX12_isSaid_44 : decode cX12_isSaid 44 = .ok (.aload_n 0, 1) := by decide +kernel
theorem dX12_isSaid_45 : decode cX12_isSaid 45 = .ok (.getfield 74, 3) := by decide +kernel
theorem dX12_isSaid_48 : decode cX12_isSaid 48 = .ok (.iload_n 2, 1) := by decide +kernel
theorem dX12_isSaid_49 : decode cX12_isSaid 49 = .ok (.iconst 1, 1) := by decide +kernel
theorem dX12_isSaid_50 : decode cX12_isSaid 50 = .ok (.isub, 1) := by decide +kernel
theorem dX12_isSaid_51 : decode cX12_isSaid 51 = .ok (.baload, 1) := by decide +kernel
theorem dX12_isSaid_52 : decode cX12_isSaid 52 = .ok (.ifCond .ne 7, 3) := by decide +kernel
theorem dX12_isSaid_55 : decode cX12_isSaid 55 = .ok (.iconst 1, 1) := by decide +kernel
theorem dX12_isSaid_56 : decode cX12_isSaid 56 = .ok (.goto 4, 3) := by decide +kernel
theorem dX12_isSaid_59 : decode cX12_isSaid 59 = .ok (.iconst 0, 1) := by decide +kernel
theorem dX12_isSaid_60 : decode cX12_isSaid 60 = .ok (.bastore, 1) := by decide +kernel
theorem dX12_isSaid_61 : decode cX12_isSaid 61 = .ok (.goto 145, 3) := by decide +kernel
theorem dX12_isSaid_64 : decode cX12_isSaid 64 = .ok (.aload_n 0, 1) := by decide +kernel
theorem dX12_isSaid_65 : decode cX12_isSaid 65 = .ok (.getfield 33, 3) := by decide +kernel
theorem dX12_isSaid_68 : decode cX12_isSaid 68 = .ok (.iload 4, 2) := by decide +kernel
theorem dX12_isSaid_70 : decode cX12_isSaid 70 = .ok (.iaload, 1) := by decide +kernel
theorem dX12_isSaid_71 : decode cX12_isSaid 71 = .ok (.bipush 21, 2) := by decide +kernel
theorem dX12_isSaid_73 : decode cX12_isSaid 73 = .ok (.if_icmp .eq 15, 3) := by decide +kernel
theorem dX12_isSaid_76 : decode cX12_isSaid 76 = .ok (.aload_n 0, 1) := by decide +kernel
theorem dX12_isSaid_77 : decode cX12_isSaid 77 = .ok (.getfield 33, 3) := by decide +kernel
theorem dX12_isSaid_80 : decode cX12_isSaid 80 = .ok (.iload 4, 2) := by decide +kernel
theorem dX12_isSaid_82 : decode cX12_isSaid 82 = .ok (.iaload, 1) := by decide +kernel
theorem dX12_isSaid_83 : decode cX12_isSaid 83 = .ok (.bipush 22, 2) := by decide +kernel
theorem dX12_isSaid_85 : decode cX12_isSaid 85 = .ok (.if_icmp .ne 82, 3) := by decide +kernel
theorem dX12_isSaid_88 : decode cX12_isSaid 88 = .ok (.iinc 2 (-1), 3) := by decide +kernel
theorem dX12_isSaid_91 : decode cX12_isSaid 91 = .ok (.aload_n 0, 1) := by decide +kernel
theorem dX12_isSaid_92 : decode cX12_isSaid 92 = .ok (.getfield 74, 3) := by decide +kernel
theorem dX12_isSaid_95 : decode cX12_isSaid 95 = .ok (.iload_n 2, 1) := by decide +kernel
theorem dX12_isSaid_96 : decode cX12_isSaid 96 = .ok (.iconst 1, 1) := by decide +kernel
theorem dX12_isSaid_97 : decode cX12_isSaid 97 = .ok (.isub, 1) := by decide +kernel
theorem dX12_isSaid_98 : decode cX12_isSaid 98 = .ok (.aload_n 0, 1) := by decide +kernel
theorem dX12_isSaid_99 : decode cX12_isSaid 99 = .ok (.getfield 33, 3) := by decide +kernel
theorem dX12_isSaid_102 : decode cX12_isSaid 102 = .ok (.iload 4, 2) := by decide +kernel
theorem dX12_isSaid_104 : decode cX12_isSaid 104 = .ok (.iaload, 1) := by decide +kernel
theorem dX12_isSaid_105 : decode cX12_isSaid 105 = .ok (.bipush 21, 2) := by decide +kernel
theorem dX12_isSaid_107 : decode cX12_isSaid 107 = .ok (.if_icmp .ne 31, 3) := by decide +kernel
theorem dX12_isSaid_110 : decode cX12_isSaid 110 = .ok (.aload_n 0, 1) := by decide +kernel
theorem dX12_isSaid_111 : decode cX12_isSaid 111 = .ok (.getfield 74, 3) := by decide +kernel
theorem dX12_isSaid_114 : decode cX12_isSaid 114 = .ok (.iload_n 2, 1) := by decide +kernel
theorem dX12_isSaid_115 : decode cX12_isSaid 115 = .ok (.iconst 1, 1) := by decide +kernel
theorem dX12_isSaid_116 : decode cX12_isSaid 116 = .ok (.isub, 1) := by decide +kernel
theorem dX12_isSaid_117 : decode cX12_isSaid 117 = .ok (.baload, 1) := by decide +kernel
theorem dX12_isSaid_118 : decode cX12_isSaid 118 = .ok (.ifCond .eq 16, 3) := by decide +kernel
theorem dX12_isSaid_121 : decode cX12_isSaid 121 = .ok (.aload_n 0, 1) := by decide +kernel
theorem dX12_isSaid_122 : decode cX12_isSaid 122 = .ok (.getfield 74, 3) := by decide +kernel
theorem dX12_isSaid_125 : decode cX12_isSaid 125 = .ok (.iload_n 2, 1) := by decide +kernel
theorem dX12_isSaid_126 : decode cX12_isSaid 126 = .ok (.baload, 1) := by decide +kernel
theorem dX12_isSaid_127 : decode cX12_isSaid 127 = .ok (.ifCond .eq 7, 3) := by decide +kernel
theorem dX12_isSaid_130 : decode cX12_isSaid 130 = .ok (.iconst 1, 1) := by decide +kernel
theorem dX12_isSaid_131 : decode cX12_isSaid 131 = .ok (.goto 32, 3) := by decide +kernel
theorem dX12_isSaid_134 : decode cX12_isSaid 134 = .ok (.iconst 0, 1) := by decide +kernel
theorem dX12_isSaid_135 : decode cX12_isSaid 135 = .ok (.goto 28, 3) := by decide +kernel
theorem dX12_isSaid_138 : decode cX12_isSaid 138 = .ok (.aload_n 0, 1) := by decide +kernel
theorem dX12_isSaid_139 : decode cX12_isSaid 139 = .ok (.getfield 74, 3) := by decide +kernel
theorem dX12_isSaid_142 : decode cX12_isSaid 142 = .ok (.iload_n 2, 1) := by decide +kernel
theorem dX12_isSaid_143 : decode cX12_isSaid 143 = .ok (.iconst 1, 1) := by decide +kernel
theorem dX12_isSaid_144 : decode cX12_isSaid 144 = .ok (.isub, 1) := by decide +kernel
theorem dX12_isSaid_145 : decode cX12_isSaid 145 = .ok (.baload, 1) := by decide +kernel
theorem dX12_isSaid_146 : decode cX12_isSaid 146 = .ok (.ifCond .ne 12, 3) := by decide +kernel
theorem dX12_isSaid_149 : decode cX12_isSaid 149 = .ok (.aload_n 0, 1) := by decide +kernel
theorem dX12_isSaid_150 : decode cX12_isSaid 150 = .ok (.getfield 74, 3) := by decide +kernel
theorem dX12_isSaid_153 : decode cX12_isSaid 153 = .ok (.iload_n 2, 1) := by decide +kernel
theorem dX12_isSaid_154 : decode cX12_isSaid 154 = .ok (.baload, 1) := by decide +kernel
theorem dX12_isSaid_155 : decode cX12_isSaid 155 = .ok (.ifCond .eq 7, 3) := by decide +kernel
theorem dX12_isSaid_158 : decode cX12_isSaid 158 = .ok (.iconst 1, 1) := by decide +kernel
theorem dX12_isSaid_159 : decode cX12_isSaid 159 = .ok (.goto 4, 3) := by decide +kernel
theorem dX12_isSaid_162 : decode cX12_isSaid 162 = .ok (.iconst 0, 1) := by decide +kernel
theorem dX12_isSaid_163 : decode cX12_isSaid 163 = .ok (.bastore, 1) := by decide +kernel
theorem dX12_isSaid_164 : decode cX12_isSaid 164 = .ok (.goto 42, 3) := by decide +kernel
theorem dX12_isSaid_167 : decode cX12_isSaid 167 = .ok (.aload_n 0, 1) := by decide +kernel
theorem dX12_isSaid_168 : decode cX12_isSaid 168 = .ok (.getfield 74, 3) := by decide +kernel
theorem dX12_isSaid_171 : decode cX12_isSaid 171 = .ok (.iload_n 2, 1) := by decide +kernel
theorem dX12_isSaid_172 : decode cX12_isSaid 172 = .ok (.aload_n 0, 1) := by decide +kernel
theorem dX12_isSaid_173 : decode cX12_isSaid 173 = .ok (.iload_n 1, 1) := by decide +kernel
theorem dX12_isSaid_174 : decode cX12_isSaid 174 = .ok (.aload_n 0, 1) := by decide +kernel
theorem dX12_isSaid_175 : decode cX12_isSaid 175 = .ok (.getfield 33, 3) := by decide +kernel
theorem dX12_isSaid_178 : decode cX12_isSaid 178 = .ok (.iload 4, 2) := by decide +kernel
theorem dX12_isSaid_180 : decode cX12_isSaid 180 = .ok (.iaload, 1) := by decide +kernel
theorem dX12_isSaid_181 : decode cX12_isSaid 181 = .ok (.aload_n 0, 1) := by decide +kernel
theorem dX12_isSaid_182 : decode cX12_isSaid 182 = .ok (.getfield 33, 3) := by decide +kernel
theorem dX12_isSaid_185 : decode cX12_isSaid 185 = .ok (.iload 4, 2) := by decide +kernel
theorem dX12_isSaid_187 : decode cX12_isSaid 187 = .ok (.iconst 1, 1) := by decide +kernel
theorem dX12_isSaid_188 : decode cX12_isSaid 188 = .ok (.iadd, 1) := by decide +kernel
theorem dX12_isSaid_189 : decode cX12_isSaid 189 = .ok (.iaload, 1) := by decide +kernel
theorem dX12_isSaid_190 : decode cX12_isSaid 190 = .ok (.aload_n 0, 1) := by decide +kernel
theorem dX12_isSaid_191 : decode cX12_isSaid 191 = .ok (.getfield 33, 3) := by decide +kernel
theorem dX12_isSaid_194 : decode cX12_isSaid 194 = .ok (.iload 4, 2) := by decide +kernel
theorem dX12_isSaid_196 : decode cX12_isSaid 196 = .ok (.iconst 2, 1) := by decide +kernel
theorem dX12_isSaid_197 : decode cX12_isSaid 197 = .ok (.iadd, 1) := by decide +kernel
theorem dX12_isSaid_198 : decode cX12_isSaid 198 = .ok (.iaload, 1) := by decide +kernel
theorem dX12_isSaid_199 : decode cX12_isSaid 199 = .ok (.invokevirtual 467, 3) := by decide +kernel
theorem dX12_isSaid_202 : decode cX12_isSaid 202 = .ok (.bastore, 1) := by decide +kernel
theorem dX12_isSaid_203 : decode cX12_isSaid 203 = .ok (.iinc 2 1, 3) := by decide +kernel
theorem dX12_isSaid_206 : decode cX12_isSaid 206 = .ok (.iinc 3 1, 3) := by decide +kernel
theorem dX12_isSaid_209 : decode cX12_isSaid 209 = .ok (.goto (-205), 3) := by decide +kernel
theorem dX12_isSaid_212 : decode cX12_isSaid 212 = .ok (.aload_n 0, 1) := by decide +kernel
theorem dX12_isSaid_213 : decode cX12_isSaid 213 = .ok (.getfield 74, 3) := by decide +kernel
theorem dX12_isSaid_216 : decode cX12_isSaid 216 = .ok (.iconst 0, 1) := by decide +kernel
theorem dX12_isSaid_217 : decode cX12_isSaid 217 = .ok (.baload, 1) := by decide +kernel
theorem dX12_isSaid_218 : decode cX12_isSaid 218 = .ok (.ireturn, 1) := by decide +kernel
set_option maxRecDepth 20000 in
theorem ggX12_said_X12_isSaid : GoodIn wsX12_said wsX12_isSaid := goodIn_r _ [7, 2, 8, 9, 10, 11, 6, 12, 13, 14, 15, 16, 17, 18, 19, 20, 21, 22, 23, 24, 25, 26, 27, 28, 29, 30, 31, 32, 33, 34, 35, 36, 37, 38, 39, 40, 41, 42, 43, 44, 45, 46, 47, 48, 49, 50, 51, 52, 53, 54, 55, 56, 57, 58, 59, 60, 61, 62, 63, 64, 65, 66, 67, 68, 69, 70, 71, 72, 73, 74, 75, 76, 77, 78, 79, 80, 81, 82, 83, 84, 85, 86, 87, 88, 89, 90, 91, 92, 93, 94, 95, 96, 97, 98, 99, 100, 101, 102, 103, 104, 105] (by decide +kernel) (by decide +kernel)
set_option maxRecDepth 20000 in
theorem gX12_said_X12_isSaid : GoodIn wsX12_said (wsV RX12 471 RX12 yX12_isSaid wsX12_isSaid) := goodIn_app (goodIn_of _ (by decide +kernel)) ggX12_said_X12_isSaid
theorem dX12_said_0 : decode cX12_said 0 = .ok (.aload_n 0, 1) := by decide +kernel
theorem dX12_said_1 : decode cX12_said 1 = .ok (.iconst 0, 1) := by decide +kernel
theorem dX12_said_2 : decode cX12_said 2 = .ok (.putfield 1, 3) := by decide +kernel
theorem dX12_said_5 : decode cX12_said 5 = .ok (.aload_n 0, 1) := by decide +kernel
theorem dX12_said_6 : decode cX12_said 6 = .ok (.getfield 33, 3) := by decide +kernel
theorem dX12_said_9 : decode cX12_said 9 = .ok (.sipush 246, 3) := by decide +kernel
theorem dX12_said_12 : decode cX12_said 12 = .ok (.iaload, 1) := by decide +kernel
theorem dX12_said_13 : decode cX12_said 13 = .ok (.ifCond .eq 8, 3) := by decide +kernel
theorem dX12_said_16 : decode cX12_said 16 = .ok (.iload_n 1, 1) := by decide +kernel
theorem dX12_said_17 : decode cX12_said 17 = .ok (.iconst (-1), 1) := by decide +kernel
theorem dX12_said_18 : decode cX12_said 18 = .ok (.if_icmp .ge 5, 3) := by decide +kernel
theorem dX12_said_21 : decode cX12_said 21 = .ok (.iconst (-1), 1) := by decide +kernel
theorem dX12_said_22 : decode cX12_said 22 = .ok (.ireturn, 1) := by decide +kernel
theorem dX12_said_23 : decode cX12_said 23 = .ok (.iconst 0, 1) := by decide +kernel
theorem dX12_said_24 : decode cX12_said 24 = .ok (.istore_n 2, 1) := by decide +kernel
theorem dX12_said_25 : decode cX12_said 25 = .ok (.iconst 0, 1) := by decide +kernel
theorem dX12_said_26 : decode cX12_said 26 = .ok (.istore_n 3, 1) := by decide +kernel
theorem dX12_said_27 : decode cX12_said 27 = .ok (.iload_n 3, 1) := by decide +kernel
theorem dX12_said_28 : decode cX12_said 28 = .ok (.aload_n 0, 1) := by decide +kernel
theorem dX12_said_29 : decode cX12_said 29 = .ok (.getfield 33, 3) := by decide +kernel
theorem dX12_said_32 : decode cX12_said 32 = .ok (.iconst 1, 1) := by decide +kernel
theorem dX12_said_33 : decode cX12_said 33 = .ok (.iaload, 1) := by decide +kernel
theorem dX12_said_34 : decode cX12_said 34 = .ok (.if_icmp .ge 30, 3) := by decide +kernel
theorem dX12_said_37 : decode cX12_said 37 = .ok (.aload_n 0, 1) := by decide +kernel
theorem dX12_said_38 : decode cX12_said 38 = .ok (.iload_n 3, 1) := by decide +kernel
theorem dX12_said_39 : decode cX12_said 39 = .ok (.invokevirtual 471, 3) := by decide +kernel
theorem dX12_said_42 : decode cX12_said 42 = .ok (.ifCond .ne 6, 3) := by decide +kernel
theorem dX12_said_45 : decode cX12_said 45 = .ok (.goto 13, 3) := by decide +kernel
theorem dX12_said_48 : decode cX12_said 48 = .ok (.iload_n 2, 1) := by decide +kernel
theorem dX12_said_49 : decode cX12_said 49 = .ok (.iload_n 1, 1) := by decide +kernel
theorem dX12_said_50 : decode cX12_said 50 = .ok (.if_icmp .ne 5, 3) := by decide +kernel
theorem dX12_said_53 : decode cX12_said 53 = .ok (.iload_n 3, 1) := by decide +kernel
theorem dX12_said_54 : decode cX12_said 54 = .ok (.ireturn, 1) := by decide +kernel
theorem dX12_said_55 : decode cX12_said 55 = .ok (.iinc 2 1, 3) := by decide +kernel
theorem dX12_said_58 : decode cX12_said 58 = .ok (.iinc 3 1, 3) := by decide +kernel
theorem dX12_said_61 : decode cX12_said 61 = .ok (.goto (-34), 3) := by decide +kernel
theorem dX12_said_64 : decode cX12_said 64 = .ok (.iload_n 1, 1) := by decide +kernel
theorem dX12_said_65 : decode cX12_said 65 = .ok (.iconst (-1), 1) := by decide +kernel
theorem dX12_said_66 : decode cX12_said 66 = .ok (.if_icmp .ne 7, 3) := by decide +kernel
theorem dX12_said_69 : decode cX12_said 69 = .ok (.iload_n 2, 1) := by decide +kernel
theorem dX12_said_70 : decode cX12_said 70 = .ok (.goto 4, 3) := by decide +kernel
theorem dX12_said_73 : decode cX12_said 73 = .ok (.iconst (-1), 1) := by decide +kernel
theorem dX12_said_74 : decode cX12_said 74 = .ok (.ireturn, 1) := by decide +kernel
set_option maxRecDepth 20000 in
theorem ggX12_image_X12_isIn : GoodIn wsX12_image wsX12_isIn := goodIn_r _ [10] (by decide +kernel) (by decide +kernel)
set_option maxRecDepth 20000 in
theorem gX12_image_X12_isIn : GoodIn wsX12_image (va_wsS RX12 191 yX12_isIn wsX12_isIn) := goodIn_app (goodIn_of _ (by decide +kernel)) ggX12_image_X12_isIn
theorem dX12_image_0 : decode cX12_image 0 = .ok (.aload_n 0, 1) := by decide +kernel
theorem dX12_image_1 : decode cX12_image 1 = .ok (.iconst 0, 1) := by decide +kernel
theorem dX12_image_2 : decode cX12_image 2 = .ok (.putfield 1, 3) := by decide +kernel
theorem dX12_image_5 : decode cX12_image 5 = .ok (.iload_n 1, 1) := by decide +kernel
theorem dX12_image_6 : decode cX12_image 6 = .ok (.iconst 0, 1) := by decide +kernel
theorem dX12_image_7 : decode cX12_image 7 = .ok (.iconst 1, 1) := by decide +kernel
theorem dX12_image_8 : decode cX12_image 8 = .ok (.invokestatic 191, 3) := by decide +kernel
theorem dX12_image_11 : decode cX12_image 11 = .ok (.ifCond .ne 5, 3) := by decide +kernel
theorem dX12_image_14 : decode cX12_image 14 = .ok (.iconst 0, 1) := by decide +kernel
theorem dX12_image_15 : decode cX12_image 15 = .ok (.ireturn, 1) := by decide +kernel
theorem dX12_image_16 : decode cX12_image 16 = .ok (.iconst 0, 1) := by decide +kernel
theorem dX12_image_17 : decode cX12_image 17 = .ok (.istore_n 2, 1) := by decide +kernel
theorem dX12_image_18 : decode cX12_image 18 = .ok (.iload_n 2, 1) := by decide +kernel
theorem dX12_image_19 : decode cX12_image 19 = .ok (.sipush 427, 3) := by decide +kernel
theorem dX12_image_22 : decode cX12_image 22 = .ok (.if_icmp .ge 27, 3) := by decide +kernel
theorem dX12_image_25 : decode cX12_image 25 = .ok (.aload_n 0, 1) := by decide +kernel
theorem dX12_image_26 : decode cX12_image 26 = .ok (.getfield 78, 3) := by decide +kernel
theorem dX12_image_29 : decode cX12_image 29 = .ok (.sipush 427, 3) := by decide +kernel
theorem dX12_image_32 : decode cX12_image 32 = .ok (.iload_n 1, 1) := by decide +kernel
theorem dX12_image_33 : decode cX12_image 33 = .ok (.imul, 1) := by decide +kernel
theorem dX12_image_34 : decode cX12_image 34 = .ok (.iload_n 2, 1) := by decide +kernel
theorem dX12_image_35 : decode cX12_image 35 = .ok (.iadd, 1) := by decide +kernel
theorem dX12_image_36 : decode cX12_image 36 = .ok (.aload_n 0, 1) := by decide +kernel
theorem dX12_image_37 : decode cX12_image 37 = .ok (.getfield 33, 3) := by decide +kernel
theorem dX12_image_40 : decode cX12_image 40 = .ok (.iload_n 2, 1) := by decide +kernel
theorem dX12_image_41 : decode cX12_image 41 = .ok (.iaload, 1) := by decide +kernel
theorem dX12_image_42 : decode cX12_image 42 = .ok (.iastore, 1) := by decide +kernel
theorem dX12_image_43 : decode cX12_image 43 = .ok (.iinc 2 1, 3) := by decide +kernel
theorem dX12_image_46 : decode cX12_image 46 = .ok (.goto (-28), 3) := by decide +kernel
theorem dX12_image_49 : decode cX12_image 49 = .ok (.iconst 0, 1) := by decide +kernel
theorem dX12_image_50 : decode cX12_image 50 = .ok (.istore_n 2, 1) := by decide +kernel
theorem dX12_image_51 : decode cX12_image 51 = .ok (.iload_n 2, 1) := by decide +kernel
theorem dX12_image_52 : decode cX12_image 52 = .ok (.bipush 16, 2) := by decide +kernel
theorem dX12_image_54 : decode cX12_image 54 = .ok (.if_icmp .ge 26, 3) := by decide +kernel
theorem dX12_image_57 : decode cX12_image 57 = .ok (.aload_n 0, 1) := by decide +kernel
theorem dX12_image_58 : decode cX12_image 58 = .ok (.getfield 81, 3) := by decide +kernel
theorem dX12_image_61 : decode cX12_image 61 = .ok (.bipush 16, 2) := by decide +kernel
theorem dX12_image_63 : decode cX12_image 63 = .ok (.iload_n 1, 1) := by decide +kernel
theorem dX12_image_64 : decode cX12_image 64 = .ok (.imul, 1) := by decide +kernel
theorem dX12_image_65 : decode cX12_image 65 = .ok (.iload_n 2, 1) := by decide +kernel
theorem dX12_image_66 : decode cX12_image 66 = .ok (.iadd, 1) := by decide +kernel
theorem dX12_image_67 : decode cX12_image 67 = .ok (.aload_n 0, 1) := by decide +kernel
theorem dX12_image_68 : decode cX12_image 68 = .ok (.getfield 43, 3) := by decide +kernel
theorem dX12_image_71 : decode cX12_image 71 = .ok (.iload_n 2, 1) := by decide +kernel
theorem dX12_image_72 : decode cX12_image 72 = .ok (.laload, 1) := by decide +kernel
