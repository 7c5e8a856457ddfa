theorem dX12_leafOf_80 : decode cX12_leafOf 80 = .ok (.iconst 5, 1) := by decide +kernel
theorem dX12_leafOf_81 : decode cX12_leafOf 81 = .ok (.goto 64, 3) := by decide +kernel
theorem dX12_leafOf_84 : decode cX12_leafOf 84 = .ok (.aload_n 0, 1) := by decide +kernel
theorem dX12_leafOf_85 : decode cX12_leafOf 85 = .ok (.ldc2_w 141, 3) := by decide +kernel
theorem dX12_leafOf_88 : decode cX12_leafOf 88 = .ok (.invokevirtual 219, 3) := by decide +kernel
theorem dX12_leafOf_91 : decode cX12_leafOf 91 = .ok (.ifCond .eq 8, 3) := by decide +kernel
theorem dX12_leafOf_94 : decode cX12_leafOf 94 = .ok (.bipush 6, 2) := by decide +kernel
theorem dX12_leafOf_96 : decode cX12_leafOf 96 = .ok (.goto 49, 3) := by decide +kernel
theorem dX12_leafOf_99 : decode cX12_leafOf 99 = .ok (.aload_n 0, 1) := by decide +kernel
theorem dX12_leafOf_100 : decode cX12_leafOf 100 = .ok (.ldc2_w 143, 3) := by decide +kernel
theorem dX12_leafOf_103 : decode cX12_leafOf 103 = .ok (.invokevirtual 219, 3) := by decide +kernel
theorem dX12_leafOf_106 : decode cX12_leafOf 106 = .ok (.ifCond .eq 8, 3) := by decide +kernel
theorem dX12_leafOf_109 : decode cX12_leafOf 109 = .ok (.bipush 7, 2) := by decide +kernel
theorem dX12_leafOf_111 : decode cX12_leafOf 111 = .ok (.goto 34, 3) := by decide +kernel
theorem dX12_leafOf_114 : decode cX12_leafOf 114 = .ok (.aload_n 0, 1) := by decide +kernel
theorem dX12_leafOf_115 : decode cX12_leafOf 115 = .ok (.ldc2_w 145, 3) := by decide +kernel
theorem dX12_leafOf_118 : decode cX12_leafOf 118 = .ok (.invokevirtual 219, 3) := by decide +kernel
theorem dX12_leafOf_121 : decode cX12_leafOf 121 = .ok (.ifCond .eq 8, 3) := by decide +kernel
theorem dX12_leafOf_124 : decode cX12_leafOf 124 = .ok (.bipush 8, 2) := by decide +kernel
theorem dX12_leafOf_126 : decode cX12_leafOf 126 = .ok (.goto 19, 3) := by decide +kernel
theorem dX12_leafOf_129 : decode cX12_leafOf 129 = .ok (.aload_n 0, 1) := by decide +kernel
theorem dX12_leafOf_130 : decode cX12_leafOf 130 = .ok (.ldc2_w 147, 3) := by decide +kernel
theorem dX12_leafOf_133 : decode cX12_leafOf 133 = .ok (.invokevirtual 219, 3) := by decide +kernel
theorem dX12_leafOf_136 : decode cX12_leafOf 136 = .ok (.ifCond .eq 8, 3) := by decide +kernel
theorem dX12_leafOf_139 : decode cX12_leafOf 139 = .ok (.bipush 9, 2) := by decide +kernel
theorem dX12_leafOf_141 : decode cX12_leafOf 141 = .ok (.goto 4, 3) := by decide +kernel
theorem dX12_leafOf_144 : decode cX12_leafOf 144 = .ok (.iconst (-1), 1) := by decide +kernel
theorem dX12_leafOf_145 : decode cX12_leafOf 145 = .ok (.ireturn, 1) := by decide +kernel
set_option maxRecDepth 20000 in
theorem ggX12_operand_X12_isWord : GoodIn wsX12_operand wsX12_isWord := goodIn_r _ [15, 9, 16, 81, 82, 83, 84, 85, 86, 87, 88, 89, 90, 91, 92, 93, 94, 95, 96, 97, 98, 99, 100, 101, 102, 103, 104, 105, 106, 107, 108, 109, 110, 111, 112, 113, 114, 115, 116, 117, 118, 119, 120, 121, 122, 123, 124, 125, 126, 127] rfl (by decide +kernel)
set_option maxRecDepth 20000 in
theorem gX12_operand_X12_isWord : GoodIn wsX12_operand (wsV RX12 219 RX12 yX12_isWord wsX12_isWord) := goodIn_app (goodIn_of _ (by decide +kernel)) ggX12_operand_X12_isWord
set_option maxRecDepth 20000 in
theorem ggX12_operand_X12_isSign : GoodIn wsX12_operand wsX12_isSign := goodIn_r _ [20, 9, 10, 81, 82, 83, 84, 85, 86, 87, 88, 89, 90, 91, 92, 93, 94, 95, 96, 97, 98, 99, 100, 101, 102, 103, 104, 105, 106, 107, 108, 109, 110, 111, 112, 113, 114, 115, 116, 117, 118, 119, 120, 121, 122, 123, 124, 125, 126, 127] rfl (by decide +kernel)
set_option maxRecDepth 20000 in
theorem gX12_operand_X12_isSign : GoodIn wsX12_operand (wsV RX12 182 RX12 yX12_isSign wsX12_isSign) := goodIn_app (goodIn_of _ (by decide +kernel)) ggX12_operand_X12_isSign
set_option maxRecDepth 20000 in
theorem ggX12_operand_X12_leafOf : GoodIn wsX12_operand wsX12_leafOf := goodIn_r _ [24, 25, 26, 27, 28, 29, 30, 31, 32, 33, 34, 11, 12, 13, 14, 15, 9, 16, 81, 82, 83, 84, 85, 86, 87, 88, 89, 90, 91, 92, 93, 94, 95, 96, 97, 98, 99, 100, 101, 102, 103, 104, 105, 106, 107, 108, 109, 110, 111, 112, 113, 114, 115, 116, 117, 118, 119, 120, 121, 122, 123, 124, 125, 126, 127] rfl (by decide +kernel)
set_option maxRecDepth 20000 in
theorem gX12_operand_X12_leafOf : GoodIn wsX12_operand (wsV RX12 443 RX12 yX12_leafOf wsX12_leafOf) := goodIn_app (goodIn_of _ (by decide +kernel)) ggX12_operand_X12_leafOf
set_option maxRecDepth 20000 in
theorem ggX12_operand_X12_bad : GoodIn wsX12_operand wsX12_bad := goodIn_r _ [38, 39, 40, 41, 81, 82, 83, 84, 85, 86, 87, 88, 89, 90, 91, 92, 93, 94, 95, 96, 97, 98, 99, 100, 101, 102, 103, 104, 105, 106, 107, 108, 109, 110, 111, 112, 113, 114, 115, 116, 117, 118, 119, 120, 121, 122, 123, 124, 125, 126, 127] rfl (by decide +kernel)
set_option maxRecDepth 20000 in
theorem gX12_operand_X12_bad : GoodIn wsX12_operand (wsV RX12 185 RX12 yX12_bad wsX12_bad) := goodIn_app (goodIn_of _ (by decide +kernel)) ggX12_operand_X12_bad
set_option maxRecDepth 20000 in
theorem ggX12_operand_X12_next : GoodIn wsX12_operand wsX12_next := goodIn_r _ [45, 46, 40, 47, 48, 49, 9, 10, 16, 50, 51, 52, 14, 53, 54, 55, 56, 57, 58, 59, 60, 81, 82, 83, 84, 85, 86, 87, 88, 89, 90, 91, 92, 93, 94, 95, 96, 97, 98, 99, 100, 101, 102, 103, 104, 105, 106, 107, 108, 109, 110, 111, 112, 113, 114, 115, 116, 117, 118, 119, 120, 121, 122, 123, 124, 125, 126, 127] rfl (by decide +kernel)
set_option maxRecDepth 20000 in
theorem gX12_operand_X12_next : GoodIn wsX12_operand (wsV RX12 188 RX12 yX12_next wsX12_next) := goodIn_app (goodIn_of _ (by decide +kernel)) ggX12_operand_X12_next
set_option maxRecDepth 20000 in
theorem ggX12_operand_X12_code : GoodIn wsX12_operand wsX12_code := goodIn_r _ [64, 65, 66, 81, 82, 83, 84, 85, 86, 87, 88, 89, 90, 91, 92, 93, 94, 95, 96, 97, 98, 99, 100, 101, 102, 103, 104, 105, 106, 107, 108, 109, 110, 111, 112, 113, 114, 115, 116, 117, 118, 119, 120, 121, 122, 123, 124, 125, 126, 127] rfl (by decide +kernel)
set_option maxRecDepth 20000 in
theorem gX12_operand_X12_code : GoodIn wsX12_operand (wsV RX12 437 RX12 yX12_code wsX12_code) := goodIn_app (goodIn_of _ (by decide +kernel)) ggX12_operand_X12_code
set_option maxRecDepth 20000 in
theorem ggX12_operand_X12_looksAt : GoodIn wsX12_operand wsX12_looksAt := goodIn_r _ [70, 8, 71, 72, 73, 14, 74, 9, 16, 75, 35, 36, 37, 38, 39, 40, 41, 76, 77, 78, 79, 80, 81, 82, 83, 84, 85, 86, 87, 88, 89, 90, 91, 92, 93, 94, 95, 96, 97, 98, 99, 100, 101, 102, 103, 104, 105, 106, 107, 108, 109, 110, 111, 112, 113, 114, 115, 116, 117, 118, 119, 120, 121, 122, 123, 124, 125, 126, 127] rfl (by decide +kernel)
set_option maxRecDepth 20000 in
theorem gX12_operand_X12_looksAt : GoodIn wsX12_operand (wsV RX12 210 RX12 yX12_looksAt wsX12_looksAt) := goodIn_app (goodIn_of _ (by decide +kernel)) ggX12_operand_X12_looksAt
theorem dX12_operand_0 : decode cX12_operand 0 = .ok (.aload_n 0, 1) := by decide +kernel
theorem dX12_operand_1 : decode cX12_operand 1 = .ok (.ldc2_w 131, 3) := by decide +kernel
theorem dX12_operand_4 : decode cX12_operand 4 = .ok (.invokevirtual 219, 3) := by decide +kernel
theorem dX12_operand_7 : decode cX12_operand 7 = .ok (.istore_n 1, 1) := by decide +kernel
theorem dX12_operand_8 : decode cX12_operand 8 = .ok (.aload_n 0, 1) := by decide +kernel
theorem dX12_operand_9 : decode cX12_operand 9 = .ok (.bipush 40, 2) := by decide +kernel
theorem dX12_operand_11 : decode cX12_operand 11 = .ok (.invokevirtual 182, 3) := by decide +kernel
theorem dX12_operand_14 : decode cX12_operand 14 = .ok (.istore_n 2, 1) := by decide +kernel
theorem dX12_operand_15 : decode cX12_operand 15 = .ok (.aload_n 0, 1) := by decide +kernel
theorem dX12_operand_16 : decode cX12_operand 16 = .ok (.invokevirtual 443, 3) := by decide +kernel
theorem dX12_operand_19 : decode cX12_operand 19 = .ok (.istore_n 3, 1) := by decide +kernel
theorem dX12_operand_20 : decode cX12_operand 20 = .ok (.iload_n 1, 1) := by decide +kernel
theorem dX12_operand_21 : decode cX12_operand 21 = .ok (.ifCond .ne 17, 3) := by decide +kernel
theorem dX12_operand_24 : decode cX12_operand 24 = .ok (.iload_n 2, 1) := by decide +kernel
theorem dX12_operand_25 : decode cX12_operand 25 = .ok (.ifCond .ne 13, 3) := by decide +kernel
theorem dX12_operand_28 : decode cX12_operand 28 = .ok (.iload_n 3, 1) := by decide +kernel
theorem dX12_operand_29 : decode cX12_operand 29 = .ok (.ifCond .ge 9, 3) := by decide +kernel
theorem dX12_operand_32 : decode cX12_operand 32 = .ok (.aload_n 0, 1) := by decide +kernel
theorem dX12_operand_33 : decode cX12_operand 33 = .ok (.iconst 1, 1) := by decide +kernel
theorem dX12_operand_34 : decode cX12_operand 34 = .ok (.invokevirtual 185, 3) := by decide +kernel
theorem dX12_operand_37 : decode cX12_operand 37 = .ok (.ireturn, 1) := by decide +kernel
theorem dX12_operand_38 : decode cX12_operand 38 = .ok (.aload_n 0, 1) := by decide +kernel
theorem dX12_operand_39 : decode cX12_operand 39 = .ok (.getfield 446, 3) := by decide +kernel
theorem dX12_operand_42 : decode cX12_operand 42 = .ok (.bipush 20, 2) := by decide +kernel
theorem dX12_operand_44 : decode cX12_operand 44 = .ok (.if_icmp .eq 12, 3) := by decide +kernel
theorem dX12_operand_47 : decode cX12_operand 47 = .ok (.aload_n 0, 1) := by decide +kernel
theorem dX12_operand_48 : decode cX12_operand 48 = .ok (.getfield 440, 3) := by decide +kernel
theorem dX12_operand_51 : decode cX12_operand 51 = .ok (.bipush 8, 2) := by decide +kernel
theorem dX12_operand_53 : decode cX12_operand 53 = .ok (.if_icmp .le 9, 3) := by decide +kernel
theorem dX12_operand_56 : decode cX12_operand 56 = .ok (.aload_n 0, 1) := by decide +kernel
theorem dX12_operand_57 : decode cX12_operand 57 = .ok (.iconst 4, 1) := by decide +kernel
theorem dX12_operand_58 : decode cX12_operand 58 = .ok (.invokevirtual 185, 3) := by decide +kernel
theorem dX12_operand_61 : decode cX12_operand 61 = .ok (.ireturn, 1) := by decide +kernel
theorem dX12_operand_62 : decode cX12_operand 62 = .ok (.aload_n 0, 1) := by decide +kernel
theorem dX12_operand_63 : decode cX12_operand 63 = .ok (.dup, 1) := by decide +kernel
theorem dX12_operand_64 : decode cX12_operand 64 = .ok (.getfield 446, 3) := by decide +kernel
theorem dX12_operand_67 : decode cX12_operand 67 = .ok (.iconst 1, 1) := by decide +kernel
theorem dX12_operand_68 : decode cX12_operand 68 = .ok (.iadd, 1) := by decide +kernel
theorem dX12_operand_69 : decode cX12_operand 69 = .ok (.putfield 446, 3) := by decide +kernel
theorem dX12_operand_72 : decode cX12_operand 72 = .ok (.aload_n 0, 1) := by decide +kernel
theorem dX12_operand_73 : decode cX12_operand 73 = .ok (.invokevirtual 188, 3) := by decide +kernel
theorem dX12_operand_76 : decode cX12_operand 76 = .ok (.iload_n 1, 1) := by decide +kernel
theorem dX12_operand_77 : decode cX12_operand 77 = .ok (.ifCond .ne 7, 3) := by decide +kernel
theorem dX12_operand_80 : decode cX12_operand 80 = .ok (.iload_n 2, 1) := by decide +kernel
theorem dX12_operand_81 : decode cX12_operand 81 = .ok (.ifCond .eq 45, 3) := by decide +kernel
theorem dX12_operand_84 : decode cX12_operand 84 = .ok (.aload_n 0, 1) := by decide +kernel
theorem dX12_operand_85 : decode cX12_operand 85 = .ok (.getfield 71, 3) := by decide +kernel
theorem dX12_operand_88 : decode cX12_operand 88 = .ok (.aload_n 0, 1) := by decide +kernel
theorem dX12_operand_89 : decode cX12_operand 89 = .ok (.getfield 434, 3) := by decide +kernel
theorem dX12_operand_92 : decode cX12_operand 92 = .ok (.iload_n 1, 1) := by decide +kernel
theorem dX12_operand_93 : decode cX12_operand 93 = .ok (.ifCond .eq 8, 3) := by decide +kernel
theorem dX12_operand_96 : decode cX12_operand 96 = .ok (.bipush 20, 2) := by decide +kernel
theorem dX12_operand_98 : decode cX12_operand 98 = .ok (.goto 5, 3) := by decide +kernel
theorem dX12_operand_101 : decode cX12_operand 101 = .ok (.bipush 23, 2) := by decide +kernel
theorem dX12_operand_103 : decode cX12_operand 103 = .ok (.iastore, 1) := by decide +kernel
theorem dX12_operand_104 : decode cX12_operand 104 = .ok (.aload_n 0, 1) := by decide +kernel
theorem dX12_operand_105 : decode cX12_operand 105 = .ok (.dup, 1) := by decide +kernel
theorem dX12_operand_106 : decode cX12_operand 106 = .ok (.getfield 434, 3) := by decide +kernel
theorem dX12_operand_109 : decode cX12_operand 109 = .ok (.iconst 1, 1) := by decide +kernel
theorem dX12_operand_110 : decode cX12_operand 110 = .ok (.iadd, 1) := by decide +kernel
theorem dX12_operand_111 : decode cX12_operand 111 = .ok (.putfield 434, 3) := by decide +kernel
theorem dX12_operand_114 : decode cX12_operand 114 = .ok (.aload_n 0, 1) := by decide +kernel
theorem dX12_operand_115 : decode cX12_operand 115 = .ok (.dup, 1) := by decide +kernel
theorem dX12_operand_116 : decode cX12_operand 116 = .ok (.getfield 440, 3) := by decide +kernel
theorem dX12_operand_119 : decode cX12_operand 119 = .ok (.iconst 1, 1) := by decide +kernel
theorem dX12_operand_120 : decode cX12_operand 120 = .ok (.iadd, 1) := by decide +kernel
theorem dX12_operand_121 : decode cX12_operand 121 = .ok (.putfield 440, 3) := by decide +kernel
theorem dX12_operand_124 : decode cX12_operand 124 = .ok (.iconst 1, 1) := by decide +kernel
theorem dX12_operand_125 : decode cX12_operand 125 = .ok (.ireturn, 1) := by decide +kernel
theorem dX12_operand_126 : decode cX12_operand 126 = .ok (.aload_n 0, 1) := by decide +kernel
theorem dX12_operand_127 : decode cX12_operand 127 = .ok (.iconst 1, 1) := by decide +kernel
theorem dX12_operand_128 : decode cX12_operand 128 = .ok (.putfield 449, 3) := by decide +kernel
theorem dX12_operand_131 : decode cX12_operand 131 = .ok (.iload_n 3, 1) := by decide +kernel
theorem dX12_operand_132 : decode cX12_operand 132 = .ok (.iconst 5, 1) := by decide +kernel
theorem dX12_operand_133 : decode cX12_operand 133 = .ok (.if_icmp .ge 12, 3) := by decide +kernel
theorem dX12_operand_136 : decode cX12_operand 136 = .ok (.aload_n 0, 1) := by decide +kernel
theorem dX12_operand_137 : decode cX12_operand 137 = .ok (.iload_n 3, 1) := by decide +kernel
theorem dX12_operand_138 : decode cX12_operand 138 = .ok (.iconst 0, 1) := by decide +kernel
theorem dX12_operand_139 : decode cX12_operand 139 = .ok (.iconst 0, 1) := by decide +kernel
theorem dX12_operand_140 : decode cX12_operand 140 = .ok (.invokevirtual 437, 3) := by decide +kernel
theorem dX12_operand_143 : decode cX12_operand 143 = .ok (.iconst 1, 1) := by decide +kernel
theorem dX12_operand_144 : decode cX12_operand 144 = .ok (.ireturn, 1) := by decide +kernel
theorem dX12_operand_145 : decode cX12_operand 145 = .ok (.iload_n 3, 1) := by decide +kernel
theorem dX12_operand_146 : decode cX12_operand 146 = .ok (.iconst 5, 1) := by decide +kernel
theorem dX12_operand_147 : decode cX12_operand 147 = .ok (.if_icmp .ne 35, 3) := by decide +kernel
theorem dX12_operand_150 : decode cX12_operand 150 = .ok (.aload_n 0, 1) := by decide +kernel
theorem dX12_operand_151 : decode cX12_operand 151 = .ok (.iconst 0, 1) := by decide +kernel
theorem dX12_operand_152 : decode cX12_operand 152 = .ok (.aload_n 0, 1) := by decide +kernel
theorem dX12_operand_153 : decode cX12_operand 153 = .ok (.getfield 33, 3) := by decide +kernel
theorem dX12_operand_156 : decode cX12_operand 156 = .ok (.iconst 0, 1) := by decide +kernel
theorem dX12_operand_157 : decode cX12_operand 157 = .ok (.iaload, 1) := by decide +kernel
theorem dX12_operand_158 : decode cX12_operand 158 = .ok (.invokevirtual 210, 3) := by decide +kernel
theorem dX12_operand_161 : decode cX12_operand 161 = .ok (.ifCond .ne 5, 3) := by decide +kernel
theorem dX12_operand_164 : decode cX12_operand 164 = .ok (.iconst 0, 1) := by decide +kernel
theorem dX12_operand_165 : decode cX12_operand 165 = .ok (.ireturn, 1) := by decide +kernel
theorem dX12_operand_166 : decode cX12_operand 166 = .ok (.aload_n 0, 1) := by decide +kernel
theorem dX12_operand_167 : decode cX12_operand 167 = .ok (.iload_n 3, 1) := by decide +kernel
theorem dX12_operand_168 : decode cX12_operand 168 = .ok (.iconst 0, 1) := by decide +kernel
theorem dX12_operand_169 : decode cX12_operand 169 = .ok (.aload_n 0, 1) := by decide +kernel
theorem dX12_operand_170 : decode cX12_operand 170 = .ok (.getfield 195, 3) := by decide +kernel
theorem dX12_operand_173 : decode cX12_operand 173 = .ok (.invokevirtual 437, 3) := by decide +kernel
theorem dX12_operand_176 : decode cX12_operand 176 = .ok (.aload_n 0, 1) := by decide +kernel
theorem dX12_operand_177 : decode cX12_operand 177 = .ok (.invokevirtual 188, 3) := by decide +kernel
theorem dX12_operand_180 : decode cX12_operand 180 = .ok (.iconst 1, 1) := by decide +kernel
theorem dX12_operand_181 : decode cX12_operand 181 = .ok (.ireturn, 1) := by decide +kernel
theorem dX12_operand_182 : decode cX12_operand 182 = .ok (.aload_n 0, 1) := by decide +kernel
theorem dX12_operand_183 : decode cX12_operand 183 = .ok (.getfield 159, 3) := by decide +kernel
theorem dX12_operand_186 : decode cX12_operand 186 = .ok (.iconst 3, 1) := by decide +kernel
theorem dX12_operand_187 : decode cX12_operand 187 = .ok (.if_icmp .ne 21, 3) := by decide +kernel
theorem dX12_operand_190 : decode cX12_operand 190 = .ok (.aload_n 0, 1) := by decide +kernel
theorem dX12_operand_191 : decode cX12_operand 191 = .ok (.getfield 169, 3) := by decide +kernel
theorem dX12_operand_194 : decode cX12_operand 194 = .ok (.bipush 60, 2) := by decide +kernel
theorem dX12_operand_196 : decode cX12_operand 196 = .ok (.if_icmp .lt 12, 3) := by decide +kernel
theorem dX12_operand_199 : decode cX12_operand 199 = .ok (.aload_n 0, 1) := by decide +kernel
theorem dX12_operand_200 : decode cX12_operand 200 = .ok (.getfield 169, 3) := by decide +kernel
theorem dX12_operand_203 : decode cX12_operand 203 = .ok (.bipush 62, 2) := by decide +kernel
theorem dX12_operand_205 : decode cX12_operand 205 = .ok (.if_icmp .le 9, 3) := by decide +kernel
theorem dX12_operand_208 : decode cX12_operand 208 = .ok (.aload_n 0, 1) := by decide +kernel
theorem dX12_operand_209 : decode cX12_operand 209 = .ok (.iconst 1, 1) := by decide +kernel
theorem dX12_operand_210 : decode cX12_operand 210 = .ok (.invokevirtual 185, 3) := by decide +kernel
theorem dX12_operand_213 : decode cX12_operand 213 = .ok (.ireturn, 1) := by decide +kernel
theorem dX12_operand_214 : decode cX12_operand 214 = .ok (.aload_n 0, 1) := by decide +kernel
theorem dX12_operand_215 : decode cX12_operand 215 = .ok (.getfield 169, 3) := by decide +kernel
theorem dX12_operand_218 : decode cX12_operand 218 = .ok (.istore 4, 2) := by decide +kernel
theorem dX12_operand_220 : decode cX12_operand 220 = .ok (.aload_n 0, 1) := by decide +kernel
theorem dX12_operand_221 : decode cX12_operand 221 = .ok (.invokevirtual 188, 3) := by decide +kernel
theorem dX12_operand_224 : decode cX12_operand 224 = .ok (.aload_n 0, 1) := by decide +kernel
theorem dX12_operand_225 : decode cX12_operand 225 = .ok (.getfield 159, 3) := by decide +kernel
theorem dX12_operand_228 : decode cX12_operand 228 = .ok (.iconst 2, 1) := by decide +kernel
theorem dX12_operand_229 : decode cX12_operand 229 = .ok (.if_icmp .eq 9, 3) := by decide +kernel
theorem dX12_operand_232 : decode cX12_operand 232 = .ok (.aload_n 0, 1) := by decide +kernel
theorem dX12_operand_233 : decode cX12_operand 233 = .ok (.iconst 1, 1) := by decide +kernel
theorem dX12_operand_234 : decode cX12_operand 234 = .ok (.invokevirtual 185, 3) := by decide +kernel
theorem dX12_operand_237 : decode cX12_operand 237 = .ok (.ireturn, 1) := by decide +kernel
theorem dX12_operand_238 : decode cX12_operand 238 = .ok (.aload_n 0, 1) := by decide +kernel
theorem dX12_operand_239 : decode cX12_operand 239 = .ok (.iload_n 3, 1) := by decide +kernel
theorem dX12_operand_240 : decode cX12_operand 240 = .ok (.iload 4, 2) := by decide +kernel
theorem dX12_operand_242 : decode cX12_operand 242 = .ok (.aload_n 0, 1) := by decide +kernel
theorem dX12_operand_243 : decode cX12_operand 243 = .ok (.getfield 169, 3) := by decide +kernel
theorem dX12_operand_246 : decode cX12_operand 246 = .ok (.invokevirtual 437, 3) := by decide +kernel
theorem dX12_operand_249 : decode cX12_operand 249 = .ok (.aload_n 0, 1) := by decide +kernel
theorem dX12_operand_250 : decode cX12_operand 250 = .ok (.invokevirtual 188, 3) := by decide +kernel
theorem dX12_operand_253 : decode cX12_operand 253 = .ok (.iconst 1, 1) := by decide +kernel
theorem dX12_operand_254 : decode cX12_operand 254 = .ok (.ireturn, 1) := by decide +kernel
set_option maxRecDepth 20000 in
theorem ggX12_behind_X12_nots : GoodIn wsX12_behind wsX12_nots := goodIn_r _ [11, 4, 3, 6, 12, 13, 14, 10, 15, 16, 17, 59, 60, 61, 62, 63, 64, 65, 66, 67, 68, 69, 70, 71, 72, 73, 74, 75, 76, 77, 78, 79, 80, 81, 82, 83, 84, 85, 86, 87, 88, 89, 90, 91, 92, 93, 94, 95, 96, 97, 98, 99, 100, 101, 102, 103, 104, 105] rfl (by decide +kernel)
set_option maxRecDepth 20000 in
theorem gX12_behind_X12_nots : GoodIn wsX12_behind (wsV RX12 452 RX12 yX12_nots wsX12_nots) := goodIn_app (goodIn_of _ (by decide +kernel)) ggX12_behind_X12_nots
set_option maxRecDepth 20000 in
theorem ggX12_behind_X12_isWord : GoodIn wsX12_behind wsX12_isWord := goodIn_r _ [21, 22, 23, 59, 60, 61, 62, 63, 64, 65, 66, 67, 68, 69, 70, 71, 72, 73, 74, 75, 76, 77, 78, 79, 80, 81, 82, 83, 84, 85, 86, 87, 88, 89, 90, 91, 92, 93, 94, 95, 96, 97, 98, 99, 100, 101, 102, 103, 104, 105] rfl (by decide +kernel)
set_option maxRecDepth 20000 in
theorem gX12_behind_X12_isWord : GoodIn wsX12_behind (wsV RX12 219 RX12 yX12_isWord wsX12_isWord) := goodIn_app (goodIn_of _ (by decide +kernel)) ggX12_behind_X12_isWord
set_option maxRecDepth 20000 in
theorem ggX12_behind_X12_joins : GoodIn wsX12_behind wsX12_joins := goodIn_r _ [27, 4, 3, 12, 13, 14, 10, 15, 16, 17, 59, 60, 61, 62, 63, 64, 65, 66, 67, 68, 69, 70, 71, 72, 73, 74, 75, 76, 77, 78, 79, 80, 81, 82, 83, 84, 85, 86, 87, 88, 89, 90, 91, 92, 93, 94, 95, 96, 97, 98, 99, 100, 101, 102, 103, 104, 105] rfl (by decide +kernel)
set_option maxRecDepth 20000 in
theorem gX12_behind_X12_joins : GoodIn wsX12_behind (wsV RX12 455 RX12 yX12_joins wsX12_joins) := goodIn_app (goodIn_of _ (by decide +kernel)) ggX12_behind_X12_joins
set_option maxRecDepth 20000 in
theorem ggX12_behind_X12_next : GoodIn wsX12_behind wsX12_next := goodIn_r _ [31, 32, 33, 34, 35, 36, 22, 37, 23, 38, 39, 40, 10, 41, 42, 43, 44, 45, 46, 47, 48, 59, 60, 61, 62, 63, 64, 65, 66, 67, 68, 69, 70, 71, 72, 73, 74, 75, 76, 77, 78, 79, 80, 81, 82, 83, 84, 85, 86, 87, 88, 89, 90, 91, 92, 93, 94, 95, 96, 97, 98, 99, 100, 101, 102, 103, 104, 105] rfl (by decide +kernel)
set_option maxRecDepth 20000 in
theorem gX12_behind_X12_next : GoodIn wsX12_behind (wsV RX12 188 RX12 yX12_next wsX12_next) := goodIn_app (goodIn_of _ (by decide +kernel)) ggX12_behind_X12_next
set_option maxRecDepth 20000 in
theorem ggX12_behind_X12_isSign : GoodIn wsX12_behind wsX12_isSign := goodIn_r _ [52, 22, 37, 59, 60, 61, 62, 63, 64, 65, 66, 67, 68, 69, 70, 71, 72, 73, 74, 75, 76, 77, 78, 79, 80, 81, 82, 83, 84, 85, 86, 87, 88, 89, 90, 91, 92, 93, 94, 95, 96, 97, 98, 99, 100, 101, 102, 103, 104, 105] rfl (by decide +kernel)
set_option maxRecDepth 20000 in
theorem gX12_behind_X12_isSign : GoodIn wsX12_behind (wsV RX12 182 RX12 yX12_isSign wsX12_isSign) := goodIn_app (goodIn_of _ (by decide +kernel)) ggX12_behind_X12_isSign
set_option maxRecDepth 20000 in
theorem ggX12_behind_X12_bad : GoodIn wsX12_behind wsX12_bad := goodIn_r _ [56, 57, 33, 58, 59, 60, 61, 62, 63, 64, 65, 66, 67, 68, 69, 70, 71, 72, 73, 74, 75, 76, 77, 78, 79, 80, 81, 82, 83, 84, 85, 86, 87, 88, 89, 90, 91, 92, 93, 94, 95, 96, 97, 98, 99, 100, 101, 102, 103, 104, 105] rfl (by decide +kernel)
set_option maxRecDepth 20000 in
theorem gX12_behind_X12_bad : GoodIn wsX12_behind (wsV RX12 185 RX12 yX12_bad wsX12_bad) := goodIn_app (goodIn_of _ (by decide +kernel)) ggX12_behind_X12_bad
theorem dX12_behind_0 : decode cX12_behind 0 = .ok (.aload_n 0, 1) := by decide +kernel
theorem dX12_behind_1 : decode cX12_behind 1 = .ok (.invokevirtual 452, 3) := by decide +kernel
theorem dX12_behind_4 : decode cX12_behind 4 = .ok (.aload_n 0, 1) := by decide +kernel
theorem dX12_behind_5 : decode cX12_behind 5 = .ok (.ldc2_w 129, 3) := by decide +kernel
theorem dX12_behind_8 : decode cX12_behind 8 = .ok (.invokevirtual 219, 3) := by decide +kernel
theorem dX12_behind_11 : decode cX12_behind 11 = .ok (.ifCond .ne 13, 3) := by decide +kernel
theorem dX12_behind_14 : decode cX12_behind 14 = .ok (.aload_n 0, 1) := by decide +kernel
theorem dX12_behind_15 : decode cX12_behind 15 = .ok (.ldc2_w 127, 3) := by decide +kernel
theorem dX12_behind_18 : decode cX12_behind 18 = .ok (.invokevirtual 219, 3) := by decide +kernel
theorem dX12_behind_21 : decode cX12_behind 21 = .ok (.ifCond .eq 71, 3) := by decide +kernel
theorem dX12_behind_24 : decode cX12_behind 24 = .ok (.aload_n 0, 1) := by decide +kernel
theorem dX12_behind_25 : decode cX12_behind 25 = .ok (.aload_n 0, 1) := by decide +kernel
theorem dX12_behind_26 : decode cX12_behind 26 = .ok (.ldc2_w 129, 3) := by decide +kernel
theorem dX12_behind_29 : decode cX12_behind 29 = .ok (.invokevirtual 219, 3) := by decide +kernel
theorem dX12_behind_32 : decode cX12_behind 32 = .ok (.ifCond .eq 8, 3) := by decide +kernel
theorem dX12_behind_35 : decode cX12_behind 35 = .ok (.bipush 21, 2) := by decide +kernel
theorem dX12_behind_37 : decode cX12_behind 37 = .ok (.goto 5, 3) := by decide +kernel
theorem dX12_behind_40 : decode cX12_behind 40 = .ok (.bipush 22, 2) := by decide +kernel
theorem dX12_behind_42 : decode cX12_behind 42 = .ok (.invokevirtual 455, 3) := by decide +kernel
theorem dX12_behind_45 : decode cX12_behind 45 = .ok (.aload_n 0, 1) := by decide +kernel
