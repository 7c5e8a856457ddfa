theorem dX12_isLeaf_58 : decode cX12_isLeaf 58 = .ok (.ireturn, 1) := by decide +kernel
theorem dX12_isLeaf_59 : decode cX12_isLeaf 59 = .ok (.aload_n 0, 1) := by decide +kernel
theorem dX12_isLeaf_60 : decode cX12_isLeaf 60 = .ok (.getfield 33, 3) := by decide +kernel
theorem dX12_isLeaf_63 : decode cX12_isLeaf 63 = .ok (.bipush 63, 2) := by decide +kernel
theorem dX12_isLeaf_65 : decode cX12_isLeaf 65 = .ok (.iload_n 1, 1) := by decide +kernel
theorem dX12_isLeaf_66 : decode cX12_isLeaf 66 = .ok (.iadd, 1) := by decide +kernel
theorem dX12_isLeaf_67 : decode cX12_isLeaf 67 = .ok (.iaload, 1) := by decide +kernel
theorem dX12_isLeaf_68 : decode cX12_isLeaf 68 = .ok (.ifCond .le 7, 3) := by decide +kernel
theorem dX12_isLeaf_71 : decode cX12_isLeaf 71 = .ok (.iconst 1, 1) := by decide +kernel
theorem dX12_isLeaf_72 : decode cX12_isLeaf 72 = .ok (.goto 4, 3) := by decide +kernel
theorem dX12_isLeaf_75 : decode cX12_isLeaf 75 = .ok (.iconst 0, 1) := by decide +kernel
theorem dX12_isLeaf_76 : decode cX12_isLeaf 76 = .ok (.ireturn, 1) := by decide +kernel
theorem dX12_isLeaf_77 : decode cX12_isLeaf 77 = .ok (.aload_n 0, 1) := by decide +kernel
theorem dX12_isLeaf_78 : decode cX12_isLeaf 78 = .ok (.getfield 33, 3) := by decide +kernel
theorem dX12_isLeaf_81 : decode cX12_isLeaf 81 = .ok (.sipush 230, 3) := by decide +kernel
theorem dX12_isLeaf_84 : decode cX12_isLeaf 84 = .ok (.iload_n 1, 1) := by decide +kernel
theorem dX12_isLeaf_85 : decode cX12_isLeaf 85 = .ok (.iadd, 1) := by decide +kernel
theorem dX12_isLeaf_86 : decode cX12_isLeaf 86 = .ok (.iaload, 1) := by decide +kernel
theorem dX12_isLeaf_87 : decode cX12_isLeaf 87 = .ok (.ifCond .le 7, 3) := by decide +kernel
theorem dX12_isLeaf_90 : decode cX12_isLeaf 90 = .ok (.iconst 1, 1) := by decide +kernel
theorem dX12_isLeaf_91 : decode cX12_isLeaf 91 = .ok (.goto 4, 3) := by decide +kernel
theorem dX12_isLeaf_94 : decode cX12_isLeaf 94 = .ok (.iconst 0, 1) := by decide +kernel
theorem dX12_isLeaf_95 : decode cX12_isLeaf 95 = .ok (.ireturn, 1) := by decide +kernel
theorem dX12_isLeaf_96 : decode cX12_isLeaf 96 = .ok (.aload_n 0, 1) := by decide +kernel
theorem dX12_isLeaf_97 : decode cX12_isLeaf 97 = .ok (.getfield 33, 3) := by decide +kernel
theorem dX12_isLeaf_100 : decode cX12_isLeaf 100 = .ok (.sipush 230, 3) := by decide +kernel
theorem dX12_isLeaf_103 : decode cX12_isLeaf 103 = .ok (.iload_n 1, 1) := by decide +kernel
theorem dX12_isLeaf_104 : decode cX12_isLeaf 104 = .ok (.iadd, 1) := by decide +kernel
theorem dX12_isLeaf_105 : decode cX12_isLeaf 105 = .ok (.iaload, 1) := by decide +kernel
theorem dX12_isLeaf_106 : decode cX12_isLeaf 106 = .ok (.ifCond .le 15, 3) := by decide +kernel
theorem dX12_isLeaf_109 : decode cX12_isLeaf 109 = .ok (.aload_n 0, 1) := by decide +kernel
theorem dX12_isLeaf_110 : decode cX12_isLeaf 110 = .ok (.iload_n 1, 1) := by decide +kernel
theorem dX12_isLeaf_111 : decode cX12_isLeaf 111 = .ok (.invokevirtual 333, 3) := by decide +kernel
theorem dX12_isLeaf_114 : decode cX12_isLeaf 114 = .ok (.ifCond .ne 7, 3) := by decide +kernel
theorem dX12_isLeaf_117 : decode cX12_isLeaf 117 = .ok (.iconst 1, 1) := by decide +kernel
theorem dX12_isLeaf_118 : decode cX12_isLeaf 118 = .ok (.goto 4, 3) := by decide +kernel
theorem dX12_isLeaf_121 : decode cX12_isLeaf 121 = .ok (.iconst 0, 1) := by decide +kernel
theorem dX12_isLeaf_122 : decode cX12_isLeaf 122 = .ok (.ireturn, 1) := by decide +kernel
theorem dX12_isLeaf_123 : decode cX12_isLeaf 123 = .ok (.aload_n 0, 1) := by decide +kernel
theorem dX12_isLeaf_124 : decode cX12_isLeaf 124 = .ok (.iload_n 1, 1) := by decide +kernel
theorem dX12_isLeaf_125 : decode cX12_isLeaf 125 = .ok (.invokevirtual 464, 3) := by decide +kernel
theorem dX12_isLeaf_128 : decode cX12_isLeaf 128 = .ok (.ireturn, 1) := by decide +kernel
theorem dX12_isLeaf_129 : decode cX12_isLeaf 129 = .ok (.aload_n 0, 1) := by decide +kernel
theorem dX12_isLeaf_130 : decode cX12_isLeaf 130 = .ok (.getfield 33, 3) := by decide +kernel
theorem dX12_isLeaf_133 : decode cX12_isLeaf 133 = .ok (.sipush 214, 3) := by decide +kernel
theorem dX12_isLeaf_136 : decode cX12_isLeaf 136 = .ok (.iload_n 1, 1) := by decide +kernel
theorem dX12_isLeaf_137 : decode cX12_isLeaf 137 = .ok (.iadd, 1) := by decide +kernel
theorem dX12_isLeaf_138 : decode cX12_isLeaf 138 = .ok (.iaload, 1) := by decide +kernel
theorem dX12_isLeaf_139 : decode cX12_isLeaf 139 = .ok (.iload 4, 2) := by decide +kernel
theorem dX12_isLeaf_141 : decode cX12_isLeaf 141 = .ok (.if_icmp .ne 7, 3) := by decide +kernel
theorem dX12_isLeaf_144 : decode cX12_isLeaf 144 = .ok (.iconst 1, 1) := by decide +kernel
theorem dX12_isLeaf_145 : decode cX12_isLeaf 145 = .ok (.goto 4, 3) := by decide +kernel
theorem dX12_isLeaf_148 : decode cX12_isLeaf 148 = .ok (.iconst 0, 1) := by decide +kernel
theorem dX12_isLeaf_149 : decode cX12_isLeaf 149 = .ok (.ireturn, 1) := by decide +kernel
theorem dX12_isLeaf_150 : decode cX12_isLeaf 150 = .ok (.iload_n 2, 1) := by decide +kernel
theorem dX12_isLeaf_151 : decode cX12_isLeaf 151 = .ok (.bipush 6, 2) := by decide +kernel
theorem dX12_isLeaf_153 : decode cX12_isLeaf 153 = .ok (.if_icmp .ne 16, 3) := by decide +kernel
theorem dX12_isLeaf_156 : decode cX12_isLeaf 156 = .ok (.aload_n 0, 1) := by decide +kernel
theorem dX12_isLeaf_157 : decode cX12_isLeaf 157 = .ok (.getfield 33, 3) := by decide +kernel
theorem dX12_isLeaf_160 : decode cX12_isLeaf 160 = .ok (.sipush 222, 3) := by decide +kernel
theorem dX12_isLeaf_163 : decode cX12_isLeaf 163 = .ok (.iload_n 1, 1) := by decide +kernel
theorem dX12_isLeaf_164 : decode cX12_isLeaf 164 = .ok (.iadd, 1) := by decide +kernel
theorem dX12_isLeaf_165 : decode cX12_isLeaf 165 = .ok (.iaload, 1) := by decide +kernel
theorem dX12_isLeaf_166 : decode cX12_isLeaf 166 = .ok (.goto 41, 3) := by decide +kernel
theorem dX12_isLeaf_169 : decode cX12_isLeaf 169 = .ok (.iload_n 2, 1) := by decide +kernel
theorem dX12_isLeaf_170 : decode cX12_isLeaf 170 = .ok (.bipush 7, 2) := by decide +kernel
theorem dX12_isLeaf_172 : decode cX12_isLeaf 172 = .ok (.if_icmp .ne 16, 3) := by decide +kernel
theorem dX12_isLeaf_175 : decode cX12_isLeaf 175 = .ok (.aload_n 0, 1) := by decide +kernel
theorem dX12_isLeaf_176 : decode cX12_isLeaf 176 = .ok (.getfield 33, 3) := by decide +kernel
theorem dX12_isLeaf_179 : decode cX12_isLeaf 179 = .ok (.sipush 238, 3) := by decide +kernel
theorem dX12_isLeaf_182 : decode cX12_isLeaf 182 = .ok (.iload_n 1, 1) := by decide +kernel
theorem dX12_isLeaf_183 : decode cX12_isLeaf 183 = .ok (.iadd, 1) := by decide +kernel
theorem dX12_isLeaf_184 : decode cX12_isLeaf 184 = .ok (.iaload, 1) := by decide +kernel
theorem dX12_isLeaf_185 : decode cX12_isLeaf 185 = .ok (.goto 22, 3) := by decide +kernel
theorem dX12_isLeaf_188 : decode cX12_isLeaf 188 = .ok (.iload_n 2, 1) := by decide +kernel
theorem dX12_isLeaf_189 : decode cX12_isLeaf 189 = .ok (.bipush 8, 2) := by decide +kernel
theorem dX12_isLeaf_191 : decode cX12_isLeaf 191 = .ok (.if_icmp .ne 15, 3) := by decide +kernel
theorem dX12_isLeaf_194 : decode cX12_isLeaf 194 = .ok (.aload_n 0, 1) := by decide +kernel
theorem dX12_isLeaf_195 : decode cX12_isLeaf 195 = .ok (.getfield 33, 3) := by decide +kernel
theorem dX12_isLeaf_198 : decode cX12_isLeaf 198 = .ok (.bipush 39, 2) := by decide +kernel
theorem dX12_isLeaf_200 : decode cX12_isLeaf 200 = .ok (.iload_n 1, 1) := by decide +kernel
theorem dX12_isLeaf_201 : decode cX12_isLeaf 201 = .ok (.iadd, 1) := by decide +kernel
theorem dX12_isLeaf_202 : decode cX12_isLeaf 202 = .ok (.iaload, 1) := by decide +kernel
theorem dX12_isLeaf_203 : decode cX12_isLeaf 203 = .ok (.goto 4, 3) := by decide +kernel
theorem dX12_isLeaf_206 : decode cX12_isLeaf 206 = .ok (.iload_n 1, 1) := by decide +kernel
theorem dX12_isLeaf_207 : decode cX12_isLeaf 207 = .ok (.istore 5, 2) := by decide +kernel
theorem dX12_isLeaf_209 : decode cX12_isLeaf 209 = .ok (.iload_n 3, 1) := by decide +kernel
theorem dX12_isLeaf_210 : decode cX12_isLeaf 210 = .ok (.bipush 60, 2) := by decide +kernel
theorem dX12_isLeaf_212 : decode cX12_isLeaf 212 = .ok (.if_icmp .ne 18, 3) := by decide +kernel
theorem dX12_isLeaf_215 : decode cX12_isLeaf 215 = .ok (.iload 5, 2) := by decide +kernel
theorem dX12_isLeaf_217 : decode cX12_isLeaf 217 = .ok (.iload 4, 2) := by decide +kernel
theorem dX12_isLeaf_219 : decode cX12_isLeaf 219 = .ok (.if_icmp .ge 7, 3) := by decide +kernel
theorem dX12_isLeaf_222 : decode cX12_isLeaf 222 = .ok (.iconst 1, 1) := by decide +kernel
theorem dX12_isLeaf_223 : decode cX12_isLeaf 223 = .ok (.goto 40, 3) := by decide +kernel
theorem dX12_isLeaf_226 : decode cX12_isLeaf 226 = .ok (.iconst 0, 1) := by decide +kernel
theorem dX12_isLeaf_227 : decode cX12_isLeaf 227 = .ok (.goto 36, 3) := by decide +kernel
theorem dX12_isLeaf_230 : decode cX12_isLeaf 230 = .ok (.iload_n 3, 1) := by decide +kernel
theorem dX12_isLeaf_231 : decode cX12_isLeaf 231 = .ok (.bipush 61, 2) := by decide +kernel
theorem dX12_isLeaf_233 : decode cX12_isLeaf 233 = .ok (.if_icmp .ne 18, 3) := by decide +kernel
theorem dX12_isLeaf_236 : decode cX12_isLeaf 236 = .ok (.iload 5, 2) := by decide +kernel
theorem dX12_isLeaf_238 : decode cX12_isLeaf 238 = .ok (.iload 4, 2) := by decide +kernel
theorem dX12_isLeaf_240 : decode cX12_isLeaf 240 = .ok (.if_icmp .ne 7, 3) := by decide +kernel
theorem dX12_isLeaf_243 : decode cX12_isLeaf 243 = .ok (.iconst 1, 1) := by decide +kernel
theorem dX12_isLeaf_244 : decode cX12_isLeaf 244 = .ok (.goto 19, 3) := by decide +kernel
theorem dX12_isLeaf_247 : decode cX12_isLeaf 247 = .ok (.iconst 0, 1) := by decide +kernel
theorem dX12_isLeaf_248 : decode cX12_isLeaf 248 = .ok (.goto 15, 3) := by decide +kernel
theorem dX12_isLeaf_251 : decode cX12_isLeaf 251 = .ok (.iload 5, 2) := by decide +kernel
theorem dX12_isLeaf_253 : decode cX12_isLeaf 253 = .ok (.iload 4, 2) := by decide +kernel
theorem dX12_isLeaf_255 : decode cX12_isLeaf 255 = .ok (.if_icmp .le 7, 3) := by decide +kernel
theorem dX12_isLeaf_258 : decode cX12_isLeaf 258 = .ok (.iconst 1, 1) := by decide +kernel
theorem dX12_isLeaf_259 : decode cX12_isLeaf 259 = .ok (.goto 4, 3) := by decide +kernel
theorem dX12_isLeaf_262 : decode cX12_isLeaf 262 = .ok (.iconst 0, 1) := by decide +kernel
theorem dX12_isLeaf_263 : decode cX12_isLeaf 263 = .ok (.ireturn, 1) := by decide +kernel
set_option maxRecDepth 20000 in
theorem ggX12_isSaid_X12_isLeaf : GoodIn wsX12_isSaid wsX12_isLeaf := goodIn_r _ [7, 1, 8, 9, 10, 6, 11, 12, 13, 14, 15, 16, 17, 18, 19, 20, 21, 22, 23, 24, 25, 26, 27, 28, 29, 30, 31, 32, 33, 34, 35, 36, 37, 38, 39, 40, 41, 42, 43, 44, 45, 46, 47, 48, 49, 50, 51, 52, 53, 54, 55, 56, 57, 58, 59, 60, 61, 62, 63, 64, 65, 66, 67, 68, 69, 70, 71, 72, 73, 74, 75, 76, 77, 78, 79, 80, 81, 82, 83, 84, 85, 86, 87, 88, 89, 90, 91, 92, 93, 94, 95, 96, 97, 98, 99, 100] rfl (by decide +kernel)
set_option maxRecDepth 20000 in
theorem gX12_isSaid_X12_isLeaf : GoodIn wsX12_isSaid (wsV RX12 467 RX12 yX12_isLeaf wsX12_isLeaf) := goodIn_app (goodIn_of _ (by decide +kernel)) ggX12_isSaid_X12_isLeaf
theorem dX12_isSaid_0 : decode cX12_isSaid 0 = .ok (.iconst 0, 1) := by decide +kernel
theorem dX12_isSaid_1 : decode cX12_isSaid 1 = .ok (.istore_n 2, 1) := by decide +kernel
theorem dX12_isSaid_2 : decode cX12_isSaid 2 = .ok (.iconst 0, 1) := by decide +kernel
theorem dX12_isSaid_3 : decode cX12_isSaid 3 = .ok (.istore_n 3, 1) := by decide +kernel
theorem dX12_isSaid_4 : decode cX12_isSaid 4 = .ok (.iload_n 3, 1) := by decide +kernel
theorem dX12_isSaid_5 : decode cX12_isSaid 5 = .ok (.aload_n 0, 1) := by decide +kernel
theorem dX12_isSaid_6 : decode cX12_isSaid 6 = .ok (.getfield 33, 3) := by decide +kernel
theorem dX12_isSaid_9 : decode cX12_isSaid 9 = .ok (.sipush 246, 3) := by decide +kernel
theorem dX12_isSaid_12 : decode cX12_isSaid 12 = .ok (.iaload, 1) := by decide +kernel
theorem dX12_isSaid_13 : decode cX12_isSaid 13 = .ok (.if_icmp .ge 199, 3) := by decide +kernel
theorem dX12_isSaid_16 : decode cX12_isSaid 16 = .ok (.sipush 247, 3) := by decide +kernel
theorem dX12_isSaid_19 : decode cX12_isSaid 19 = .ok (.iconst 3, 1) := by decide +kernel
theorem dX12_isSaid_20 : decode cX12_isSaid 20 = .ok (.iload_n 3, 1) := by decide +kernel
theorem dX12_isSaid_21 : decode cX12_isSaid 21 = .ok (.imul, 1) := by decide +kernel
theorem dX12_isSaid_22 : decode cX12_isSaid 22 = .ok (.iadd, 1) := by decide +kernel
theorem dX12_isSaid_23 : decode cX12_isSaid 23 = .ok (.istore 4, 2) := by decide +kernel
theorem dX12_isSaid_25 : decode cX12_isSaid 25 = .ok (.aload_n 0, 1) := by decide +kernel
theorem dX12_isSaid_26 : decode cX12_isSaid 26 = .ok (.getfield 33, 3) := by decide +kernel
theorem dX12_isSaid_29 : decode cX12_isSaid 29 = .ok (.iload 4, 2) := by decide +kernel
theorem dX12_isSaid_31 : decode cX12_isSaid 31 = .ok (.iaload, 1) := by decide +kernel
theorem dX12_isSaid_32 : decode cX12_isSaid 32 = .ok (.bipush 20, 2) := by decide +kernel
theorem dX12_isSaid_34 : decode cX12_isSaid 34 = .ok (.if_icmp .ne 30, 3) := by decide +kernel
theorem dX12_isSaid_37 : decode cX12_isSaid 37 = .ok (.aload_n 0, 1) := by decide +kernel
theorem dX12_isSaid_38 : decode cX12_isSaid 38 = .ok (.getfield 74, 3) := by decide +kernel
theorem dX12_isSaid_41 : decode cX12_isSaid 41 = .ok (.iload_n 2, 1) := by decide +kernel
theorem dX12_isSaid_42 : decode cX12_isSaid 42 = .ok (.iconst 1, 1) := by decide +kernel
theorem dX12_isSaid_43 : decode cX12_isSaid 43 = .ok (.isub, 1) := by decide +kernel
theorem dX12_isSaid_44 : decode cX12_isSaid 44 = .ok (.aload_n 0, 1) := by decide +kernel
theorem dX12_isSaid_45 : decode cX12_isSaid 45 = .ok (.getfield 74, 3) := by decide +kernel
theorem dX12_isSaid_48 : decode cX12_isSaid 48 = .ok (.iload_n 2, 1) := by decide +kernel
theorem dX12_isSaid_49 : decode cX12_isSaid 49 = .ok (.iconst 1, 1) := by decide +kernel
theorem dX12_isSaid_50 : decode cX12_isSaid 50 = .ok (.isub, 1) := by decide +kernel
theorem dX12_isSaid_51 : decode cX12_isSaid 51 = .ok (.baload, 1) := by decide +kernel
theorem dX12_isSaid_52 : decode cX12_isSaid 52 = .ok (.ifCond .ne 7, 3) := by decide +kernel
theorem dX12_isSaid_55 : decode cX12_isSaid 55 = .ok (.iconst 1, 1) := by decide +kernel
theorem dX12_isSaid_56 : decode cX12_isSaid 56 = .ok (.goto 4, 3) := by decide +kernel
theorem dX12_isSaid_59 : decode cX12_isSaid 59 = .ok (.iconst 0, 1) := by decide +kernel
theorem dX12_isSaid_60 : decode cX12_isSaid 60 = .ok (.bastore, 1) := by decide +kernel
theorem dX12_isSaid_61 : decode cX12_isSaid 61 = .ok (.goto 145, 3) := by decide +kernel
theorem dX12_isSaid_64 : decode cX12_isSaid 64 = .ok (.aload_n 0, 1) := by decide +kernel
theorem dX12_isSaid_65 : decode cX12_isSaid 65 = .ok (.getfield 33, 3) := by decide +kernel
theorem dX12_isSaid_68 : decode cX12_isSaid 68 = .ok (.iload 4, 2) := by decide +kernel
theorem dX12_isSaid_70 : decode cX12_isSaid 70 = .ok (.iaload, 1) := by decide +kernel
theorem dX12_isSaid_71 : decode cX12_isSaid 71 = .ok (.bipush 21, 2) := by decide +kernel
theorem dX12_isSaid_73 : decode cX12_isSaid 73 = .ok (.if_icmp .eq 15, 3) := by decide +kernel
theorem dX12_isSaid_76 : decode cX12_isSaid 76 = .ok (.aload_n 0, 1) := by decide +kernel
theorem dX12_isSaid_77 : decode cX12_isSaid 77 = .ok (.getfield 33, 3) := by decide +kernel
theorem dX12_isSaid_80 : decode cX12_isSaid 80 = .ok (.iload 4, 2) := by decide +kernel
theorem dX12_isSaid_82 : decode cX12_isSaid 82 = .ok (.iaload, 1) := by decide +kernel
theorem dX12_isSaid_83 : decode cX12_isSaid 83 = .ok (.bipush 22, 2) := by decide +kernel
theorem dX12_isSaid_85 : decode cX12_isSaid 85 = .ok (.if_icmp .ne 82, 3) := by decide +kernel
theorem dX12_isSaid_88 : decode cX12_isSaid 88 = .ok (.iinc 2 (-1), 3) := by decide +kernel
theorem dX12_isSaid_91 : decode cX12_isSaid 91 = .ok (.aload_n 0, 1) := by decide +kernel
theorem dX12_isSaid_92 : decode cX12_isSaid 92 = .ok (.getfield 74, 3) := by decide +kernel
theorem dX12_isSaid_95 : decode cX12_isSaid 95 = .ok (.iload_n 2, 1) := by decide +kernel
theorem dX12_isSaid_96 : decode cX12_isSaid 96 = .ok (.iconst 1, 1) := by decide +kernel
theorem dX12_isSaid_97 : decode cX12_isSaid 97 = .ok (.isub, 1) := by decide +kernel
theorem dX12_isSaid_98 : decode cX12_isSaid 98 = .ok (.aload_n 0, 1) := by decide +kernel
theorem dX12_isSaid_99 : decode cX12_isSaid 99 = .ok (.getfield 33, 3) := by decide +kernel
theorem dX12_isSaid_102 : decode cX12_isSaid 102 = .ok (.iload 4, 2) := by decide +kernel
theorem dX12_isSaid_104 : decode cX12_isSaid 104 = .ok (.iaload, 1) := by decide +kernel
theorem dX12_isSaid_105 : decode cX12_isSaid 105 = .ok (.bipush 21, 2) := by decide +kernel
theorem dX12_isSaid_107 : decode cX12_isSaid 107 = .ok (.if_icmp .ne 31, 3) := by decide +kernel
theorem dX12_isSaid_110 : decode cX12_isSaid 110 = .ok (.aload_n 0, 1) := by decide +kernel
theorem dX12_isSaid_111 : decode cX12_isSaid 111 = .ok (.getfield 74, 3) := by decide +kernel
theorem dX12_isSaid_114 : decode cX12_isSaid 114 = .ok (.iload_n 2, 1) := by decide +kernel
theorem dX12_isSaid_115 : decode cX12_isSaid 115 = .ok (.iconst 1, 1) := by decide +kernel
theorem dX12_isSaid_116 : decode cX12_isSaid 116 = .ok (.isub, 1) := by decide +kernel
theorem dX12_isSaid_117 : decode cX12_isSaid 117 = .ok (.baload, 1) := by decide +kernel
theorem dX12_isSaid_118 : decode cX12_isSaid 118 = .ok (.ifCond .eq 16, 3) := by decide +kernel
theorem dX12_isSaid_121 : decode cX12_isSaid 121 = .ok (.aload_n 0, 1) := by decide +kernel
theorem dX12_isSaid_122 : decode cX12_isSaid 122 = .ok (.getfield 74, 3) := by decide +kernel
theorem dX12_isSaid_125 : decode cX12_isSaid 125 = .ok (.iload_n 2, 1) := by decide +kernel
theorem dX12_isSaid_126 : decode cX12_isSaid 126 = .ok (.baload, 1) := by decide +kernel
theorem dX12_isSaid_127 : decode cX12_isSaid 127 = .ok (.ifCond .eq 7, 3) := by decide +kernel
theorem dX12_isSaid_130 : decode cX12_isSaid 130 = .ok (.iconst 1, 1) := by decide +kernel
theorem dX12_isSaid_131 : decode cX12_isSaid 131 = .ok (.goto 32, 3) := by decide +kernel
theorem dX12_isSaid_134 : decode cX12_isSaid 134 = .ok (.iconst 0, 1) := by decide +kernel
theorem dX12_isSaid_135 : decode cX12_isSaid 135 = .ok (.goto 28, 3) := by decide +kernel
theorem dX12_isSaid_138 : decode cX12_isSaid 138 = .ok (.aload_n 0, 1) := by decide +kernel
theorem dX12_isSaid_139 : decode cX12_isSaid 139 = .ok (.getfield 74, 3) := by decide +kernel
theorem dX12_isSaid_142 : decode cX12_isSaid 142 = .ok (.iload_n 2, 1) := by decide +kernel
theorem dX12_isSaid_143 : decode cX12_isSaid 143 = .ok (.iconst 1, 1) := by decide +kernel
theorem dX12_isSaid_144 : decode cX12_isSaid 144 = .ok (.isub, 1) := by decide +kernel
theorem dX12_isSaid_145 : decode cX12_isSaid 145 = .ok (.baload, 1) := by decide +kernel
theorem dX12_isSaid_146 : decode cX12_isSaid 146 = .ok (.ifCond .ne 12, 3) := by decide +kernel
theorem dX12_isSaid_149 : decode cX12_isSaid 149 = .ok (.aload_n 0, 1) := by decide +kernel
theorem dX12_isSaid_150 : decode cX12_isSaid 150 = .ok (.getfield 74, 3) := by decide +kernel
theorem dX12_isSaid_153 : decode cX12_isSaid 153 = .ok (.iload_n 2, 1) := by decide +kernel
theorem dX12_isSaid_154 : decode cX12_isSaid 154 = .ok (.baload, 1) := by decide +kernel
theorem dX12_isSaid_155 : decode cX12_isSaid 155 = .ok (.ifCond .eq 7, 3) := by decide +kernel
theorem dX12_isSaid_158 : decode cX12_isSaid 158 = .ok (.iconst 1, 1) := by decide +kernel
theorem dX12_isSaid_159 : decode cX12_isSaid 159 = .ok (.goto 4, 3) := by decide +kernel
theorem dX12_isSaid_162 : decode cX12_isSaid 162 = .ok (.iconst 0, 1) := by decide +kernel
theorem dX12_isSaid_163 : decode cX12_isSaid 163 = .ok (.bastore, 1) := by decide +kernel
theorem dX12_isSaid_164 : decode cX12_isSaid 164 = .ok (.goto 42, 3) := by decide +kernel
theorem dX12_isSaid_167 : decode cX12_isSaid 167 = .ok (.aload_n 0, 1) := by decide +kernel
theorem dX12_isSaid_168 : decode cX12_isSaid 168 = .ok (.getfield 74, 3) := by decide +kernel
theorem dX12_isSaid_171 : decode cX12_isSaid 171 = .ok (.iload_n 2, 1) := by decide +kernel
theorem dX12_isSaid_172 : decode cX12_isSaid 172 = .ok (.aload_n 0, 1) := by decide +kernel
theorem dX12_isSaid_173 : decode cX12_isSaid 173 = .ok (.iload_n 1, 1) := by decide +kernel
theorem dX12_isSaid_174 : decode cX12_isSaid 174 = .ok (.aload_n 0, 1) := by decide +kernel
theorem dX12_isSaid_175 : decode cX12_isSaid 175 = .ok (.getfield 33, 3) := by decide +kernel
