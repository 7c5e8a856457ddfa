theorem dX12_readFlight_94 : decode cX12_readFlight 94 = .ok (.imul, 1) := by decide +kernel
theorem dX12_readFlight_95 : decode cX12_readFlight 95 = .ok (.iload_n 2, 1) := by decide +kernel
theorem dX12_readFlight_96 : decode cX12_readFlight 96 = .ok (.iadd, 1) := by decide +kernel
theorem dX12_readFlight_97 : decode cX12_readFlight 97 = .ok (.istore 4, 2) := by decide +kernel
theorem dX12_readFlight_99 : decode cX12_readFlight 99 = .ok (.aload_n 0, 1) := by decide +kernel
theorem dX12_readFlight_100 : decode cX12_readFlight 100 = .ok (.bipush 91, 2) := by decide +kernel
theorem dX12_readFlight_102 : decode cX12_readFlight 102 = .ok (.iload 4, 2) := by decide +kernel
theorem dX12_readFlight_104 : decode cX12_readFlight 104 = .ok (.iadd, 1) := by decide +kernel
theorem dX12_readFlight_105 : decode cX12_readFlight 105 = .ok (.iload_n 3, 1) := by decide +kernel
theorem dX12_readFlight_106 : decode cX12_readFlight 106 = .ok (.iconst 1, 1) := by decide +kernel
theorem dX12_readFlight_107 : decode cX12_readFlight 107 = .ok (.iadd, 1) := by decide +kernel
theorem dX12_readFlight_108 : decode cX12_readFlight 108 = .ok (.bipush 99, 2) := by decide +kernel
theorem dX12_readFlight_110 : decode cX12_readFlight 110 = .ok (.invokevirtual 226, 3) := by decide +kernel
theorem dX12_readFlight_113 : decode cX12_readFlight 113 = .ok (.ifCond .ne 5, 3) := by decide +kernel
theorem dX12_readFlight_116 : decode cX12_readFlight 116 = .ok (.iconst 0, 1) := by decide +kernel
theorem dX12_readFlight_117 : decode cX12_readFlight 117 = .ok (.ireturn, 1) := by decide +kernel
theorem dX12_readFlight_118 : decode cX12_readFlight 118 = .ok (.aload_n 0, 1) := by decide +kernel
theorem dX12_readFlight_119 : decode cX12_readFlight 119 = .ok (.getfield 195, 3) := by decide +kernel
theorem dX12_readFlight_122 : decode cX12_readFlight 122 = .ok (.istore_n 3, 1) := by decide +kernel
theorem dX12_readFlight_123 : decode cX12_readFlight 123 = .ok (.aload_n 0, 1) := by decide +kernel
theorem dX12_readFlight_124 : decode cX12_readFlight 124 = .ok (.sipush 131, 3) := by decide +kernel
theorem dX12_readFlight_127 : decode cX12_readFlight 127 = .ok (.iload 4, 2) := by decide +kernel
theorem dX12_readFlight_129 : decode cX12_readFlight 129 = .ok (.iadd, 1) := by decide +kernel
theorem dX12_readFlight_130 : decode cX12_readFlight 130 = .ok (.iconst 0, 1) := by decide +kernel
theorem dX12_readFlight_131 : decode cX12_readFlight 131 = .ok (.bipush 20, 2) := by decide +kernel
theorem dX12_readFlight_133 : decode cX12_readFlight 133 = .ok (.invokevirtual 226, 3) := by decide +kernel
theorem dX12_readFlight_136 : decode cX12_readFlight 136 = .ok (.ifCond .eq 19, 3) := by decide +kernel
theorem dX12_readFlight_139 : decode cX12_readFlight 139 = .ok (.aload_n 0, 1) := by decide +kernel
theorem dX12_readFlight_140 : decode cX12_readFlight 140 = .ok (.sipush 171, 3) := by decide +kernel
theorem dX12_readFlight_143 : decode cX12_readFlight 143 = .ok (.iload 4, 2) := by decide +kernel
theorem dX12_readFlight_145 : decode cX12_readFlight 145 = .ok (.iadd, 1) := by decide +kernel
theorem dX12_readFlight_146 : decode cX12_readFlight 146 = .ok (.iconst 0, 1) := by decide +kernel
theorem dX12_readFlight_147 : decode cX12_readFlight 147 = .ok (.bipush 20, 2) := by decide +kernel
theorem dX12_readFlight_149 : decode cX12_readFlight 149 = .ok (.invokevirtual 226, 3) := by decide +kernel
theorem dX12_readFlight_152 : decode cX12_readFlight 152 = .ok (.ifCond .ne 5, 3) := by decide +kernel
theorem dX12_readFlight_155 : decode cX12_readFlight 155 = .ok (.iconst 0, 1) := by decide +kernel
theorem dX12_readFlight_156 : decode cX12_readFlight 156 = .ok (.ireturn, 1) := by decide +kernel
theorem dX12_readFlight_157 : decode cX12_readFlight 157 = .ok (.iinc 2 1, 3) := by decide +kernel
theorem dX12_readFlight_160 : decode cX12_readFlight 160 = .ok (.goto (-104), 3) := by decide +kernel
theorem dX12_readFlight_163 : decode cX12_readFlight 163 = .ok (.aload_n 0, 1) := by decide +kernel
theorem dX12_readFlight_164 : decode cX12_readFlight 164 = .ok (.getfield 37, 3) := by decide +kernel
theorem dX12_readFlight_167 : decode cX12_readFlight 167 = .ok (.bipush 87, 2) := by decide +kernel
theorem dX12_readFlight_169 : decode cX12_readFlight 169 = .ok (.iload_n 1, 1) := by decide +kernel
theorem dX12_readFlight_170 : decode cX12_readFlight 170 = .ok (.iadd, 1) := by decide +kernel
theorem dX12_readFlight_171 : decode cX12_readFlight 171 = .ok (.iload_n 2, 1) := by decide +kernel
theorem dX12_readFlight_172 : decode cX12_readFlight 172 = .ok (.iastore, 1) := by decide +kernel
theorem dX12_readFlight_173 : decode cX12_readFlight 173 = .ok (.aload_n 0, 1) := by decide +kernel
theorem dX12_readFlight_174 : decode cX12_readFlight 174 = .ok (.getfield 37, 3) := by decide +kernel
theorem dX12_readFlight_177 : decode cX12_readFlight 177 = .ok (.iconst 2, 1) := by decide +kernel
theorem dX12_readFlight_178 : decode cX12_readFlight 178 = .ok (.dup2, 1) := by decide +kernel
theorem dX12_readFlight_179 : decode cX12_readFlight 179 = .ok (.iaload, 1) := by decide +kernel
theorem dX12_readFlight_180 : decode cX12_readFlight 180 = .ok (.iconst 1, 1) := by decide +kernel
theorem dX12_readFlight_181 : decode cX12_readFlight 181 = .ok (.iadd, 1) := by decide +kernel
theorem dX12_readFlight_182 : decode cX12_readFlight 182 = .ok (.iastore, 1) := by decide +kernel
theorem dX12_readFlight_183 : decode cX12_readFlight 183 = .ok (.iconst 1, 1) := by decide +kernel
theorem dX12_readFlight_184 : decode cX12_readFlight 184 = .ok (.ireturn, 1) := by decide +kernel
set_option maxRecDepth 20000 in
theorem ggX12_valley_X12_taken : GoodIn wsX12_valley wsX12_taken := goodIn_r _ [16, 17, 18, 19, 20, 122, 123, 124, 125, 126, 127, 128, 129, 130, 131, 132, 133, 134, 135, 136, 137, 138, 139, 140, 141, 142, 143, 144, 145, 146, 147, 148, 149, 150, 151, 152, 153, 154, 155, 156, 157, 158, 159, 160, 161, 162, 163, 164, 165, 166, 167, 168] rfl (by decide +kernel)
set_option maxRecDepth 20000 in
theorem gX12_valley_X12_taken : GoodIn wsX12_valley (wsV RX12 244 RX12 yX12_taken wsX12_taken) := goodIn_app (goodIn_of _ (by decide +kernel)) ggX12_valley_X12_taken
set_option maxRecDepth 20000 in
theorem ggX12_valley_X12_next : GoodIn wsX12_valley wsX12_next := goodIn_r _ [24, 19, 25, 26, 18, 20, 7, 27, 28, 29, 30, 31, 15, 32, 33, 34, 35, 36, 37, 38, 39, 122, 123, 124, 125, 126, 127, 128, 129, 130, 131, 132, 133, 134, 135, 136, 137, 138, 139, 140, 141, 142, 143, 144, 145, 146, 147, 148, 149, 150, 151, 152, 153, 154, 155, 156, 157, 158, 159, 160, 161, 162, 163, 164, 165, 166, 167, 168] rfl (by decide +kernel)
set_option maxRecDepth 20000 in
theorem gX12_valley_X12_next : GoodIn wsX12_valley (wsV RX12 188 RX12 yX12_next wsX12_next) := goodIn_app (goodIn_of _ (by decide +kernel)) ggX12_valley_X12_next
set_option maxRecDepth 20000 in
theorem ggX12_valley_X12_line : GoodIn wsX12_valley wsX12_line := goodIn_r _ [43, 44, 45, 46, 47, 48, 49, 50, 6, 51, 52, 5, 53, 54, 55, 56, 57, 58, 15, 59, 7, 28, 60, 61, 62, 63, 4, 64, 65, 66, 67, 68, 69, 70, 2, 25, 8, 21, 22, 23, 24, 19, 26, 18, 20, 27, 29, 30, 31, 32, 33, 34, 35, 36, 37, 38, 39, 71, 72, 73, 74, 75, 76, 77, 78, 79, 80, 81, 82, 83, 84, 85, 10, 86, 87, 88, 89, 90, 91, 92, 93, 94, 95, 96, 97, 98, 99, 100, 101, 102, 103, 104, 105, 106, 107, 108, 109, 110, 111, 112, 113, 114, 115, 116, 117, 122, 123, 124, 125, 126, 127, 128, 129, 130, 131, 132, 133, 134, 135, 136, 137, 138, 139, 140, 141, 142, 143, 144, 145, 146, 147, 148, 149, 150, 151, 152, 153, 154, 155, 156, 157, 158, 159, 160, 161, 162, 163, 164, 165, 166, 167, 168] rfl (by decide +kernel)
set_option maxRecDepth 20000 in
theorem gX12_valley_X12_line : GoodIn wsX12_valley (wsV RX12 250 RX12 yX12_line wsX12_line) := goodIn_app (goodIn_of _ (by decide +kernel)) ggX12_valley_X12_line
set_option maxRecDepth 20000 in
theorem ggX12_valley_X12_sign : GoodIn wsX12_valley wsX12_sign := goodIn_r _ [121, 107, 108, 109, 15, 110, 7, 27, 67, 68, 69, 70, 2, 25, 8, 21, 22, 23, 24, 19, 26, 18, 20, 28, 29, 30, 31, 32, 33, 34, 35, 36, 37, 38, 39, 122, 123, 124, 125, 126, 127, 128, 129, 130, 131, 132, 133, 134, 135, 136, 137, 138, 139, 140, 141, 142, 143, 144, 145, 146, 147, 148, 149, 150, 151, 152, 153, 154, 155, 156, 157, 158, 159, 160, 161, 162, 163, 164, 165, 166, 167, 168] rfl (by decide +kernel)
set_option maxRecDepth 20000 in
theorem gX12_valley_X12_sign : GoodIn wsX12_valley (wsV RX12 253 RX12 yX12_sign wsX12_sign) := goodIn_app (goodIn_of _ (by decide +kernel)) ggX12_valley_X12_sign
theorem dX12_valley_0 : decode cX12_valley 0 = .ok (.aload_n 0, 1) := by decide +kernel
theorem dX12_valley_1 : decode cX12_valley 1 = .ok (.iconst 0, 1) := by decide +kernel
theorem dX12_valley_2 : decode cX12_valley 2 = .ok (.putfield 1, 3) := by decide +kernel
theorem dX12_valley_5 : decode cX12_valley 5 = .ok (.aload_n 0, 1) := by decide +kernel
theorem dX12_valley_6 : decode cX12_valley 6 = .ok (.sipush 900, 3) := by decide +kernel
theorem dX12_valley_9 : decode cX12_valley 9 = .ok (.invokevirtual 244, 3) := by decide +kernel
theorem dX12_valley_12 : decode cX12_valley 12 = .ok (.aload_n 0, 1) := by decide +kernel
theorem dX12_valley_13 : decode cX12_valley 13 = .ok (.iconst 0, 1) := by decide +kernel
theorem dX12_valley_14 : decode cX12_valley 14 = .ok (.putfield 176, 3) := by decide +kernel
theorem dX12_valley_17 : decode cX12_valley 17 = .ok (.aload_n 0, 1) := by decide +kernel
theorem dX12_valley_18 : decode cX12_valley 18 = .ok (.iconst 0, 1) := by decide +kernel
theorem dX12_valley_19 : decode cX12_valley 19 = .ok (.putfield 247, 3) := by decide +kernel
theorem dX12_valley_22 : decode cX12_valley 22 = .ok (.aload_n 0, 1) := by decide +kernel
theorem dX12_valley_23 : decode cX12_valley 23 = .ok (.iconst 0, 1) := by decide +kernel
theorem dX12_valley_24 : decode cX12_valley 24 = .ok (.putfield 213, 3) := by decide +kernel
theorem dX12_valley_27 : decode cX12_valley 27 = .ok (.aload_n 0, 1) := by decide +kernel
theorem dX12_valley_28 : decode cX12_valley 28 = .ok (.iconst 0, 1) := by decide +kernel
theorem dX12_valley_29 : decode cX12_valley 29 = .ok (.putfield 232, 3) := by decide +kernel
theorem dX12_valley_32 : decode cX12_valley 32 = .ok (.iconst 0, 1) := by decide +kernel
theorem dX12_valley_33 : decode cX12_valley 33 = .ok (.istore_n 1, 1) := by decide +kernel
theorem dX12_valley_34 : decode cX12_valley 34 = .ok (.iload_n 1, 1) := by decide +kernel
theorem dX12_valley_35 : decode cX12_valley 35 = .ok (.sipush 211, 3) := by decide +kernel
theorem dX12_valley_38 : decode cX12_valley 38 = .ok (.if_icmp .ge 16, 3) := by decide +kernel
theorem dX12_valley_41 : decode cX12_valley 41 = .ok (.aload_n 0, 1) := by decide +kernel
theorem dX12_valley_42 : decode cX12_valley 42 = .ok (.getfield 37, 3) := by decide +kernel
theorem dX12_valley_45 : decode cX12_valley 45 = .ok (.iload_n 1, 1) := by decide +kernel
theorem dX12_valley_46 : decode cX12_valley 46 = .ok (.iconst 0, 1) := by decide +kernel
theorem dX12_valley_47 : decode cX12_valley 47 = .ok (.iastore, 1) := by decide +kernel
theorem dX12_valley_48 : decode cX12_valley 48 = .ok (.iinc 1 1, 3) := by decide +kernel
theorem dX12_valley_51 : decode cX12_valley 51 = .ok (.goto (-17), 3) := by decide +kernel
theorem dX12_valley_54 : decode cX12_valley 54 = .ok (.aload_n 0, 1) := by decide +kernel
theorem dX12_valley_55 : decode cX12_valley 55 = .ok (.getfield 37, 3) := by decide +kernel
theorem dX12_valley_58 : decode cX12_valley 58 = .ok (.iconst 3, 1) := by decide +kernel
theorem dX12_valley_59 : decode cX12_valley 59 = .ok (.bipush 99, 2) := by decide +kernel
theorem dX12_valley_61 : decode cX12_valley 61 = .ok (.iastore, 1) := by decide +kernel
theorem dX12_valley_62 : decode cX12_valley 62 = .ok (.aload_n 0, 1) := by decide +kernel
theorem dX12_valley_63 : decode cX12_valley 63 = .ok (.getfield 37, 3) := by decide +kernel
theorem dX12_valley_66 : decode cX12_valley 66 = .ok (.iconst 4, 1) := by decide +kernel
theorem dX12_valley_67 : decode cX12_valley 67 = .ok (.bipush 99, 2) := by decide +kernel
theorem dX12_valley_69 : decode cX12_valley 69 = .ok (.iastore, 1) := by decide +kernel
theorem dX12_valley_70 : decode cX12_valley 70 = .ok (.aload_n 0, 1) := by decide +kernel
theorem dX12_valley_71 : decode cX12_valley 71 = .ok (.invokevirtual 188, 3) := by decide +kernel
theorem dX12_valley_74 : decode cX12_valley 74 = .ok (.aload_n 0, 1) := by decide +kernel
theorem dX12_valley_75 : decode cX12_valley 75 = .ok (.getfield 159, 3) := by decide +kernel
theorem dX12_valley_78 : decode cX12_valley 78 = .ok (.ifCond .eq 39, 3) := by decide +kernel
theorem dX12_valley_81 : decode cX12_valley 81 = .ok (.aload_n 0, 1) := by decide +kernel
theorem dX12_valley_82 : decode cX12_valley 82 = .ok (.invokevirtual 250, 3) := by decide +kernel
theorem dX12_valley_85 : decode cX12_valley 85 = .ok (.ifCond .eq 12, 3) := by decide +kernel
theorem dX12_valley_88 : decode cX12_valley 88 = .ok (.aload_n 0, 1) := by decide +kernel
theorem dX12_valley_89 : decode cX12_valley 89 = .ok (.bipush 59, 2) := by decide +kernel
theorem dX12_valley_91 : decode cX12_valley 91 = .ok (.invokevirtual 253, 3) := by decide +kernel
theorem dX12_valley_94 : decode cX12_valley 94 = .ok (.ifCond .ne 10, 3) := by decide +kernel
theorem dX12_valley_97 : decode cX12_valley 97 = .ok (.iconst (-1), 1) := by decide +kernel
theorem dX12_valley_98 : decode cX12_valley 98 = .ok (.aload_n 0, 1) := by decide +kernel
theorem dX12_valley_99 : decode cX12_valley 99 = .ok (.getfield 179, 3) := by decide +kernel
theorem dX12_valley_102 : decode cX12_valley 102 = .ok (.isub, 1) := by decide +kernel
theorem dX12_valley_103 : decode cX12_valley 103 = .ok (.ireturn, 1) := by decide +kernel
theorem dX12_valley_104 : decode cX12_valley 104 = .ok (.aload_n 0, 1) := by decide +kernel
theorem dX12_valley_105 : decode cX12_valley 105 = .ok (.dup, 1) := by decide +kernel
theorem dX12_valley_106 : decode cX12_valley 106 = .ok (.getfield 247, 3) := by decide +kernel
theorem dX12_valley_109 : decode cX12_valley 109 = .ok (.iconst 1, 1) := by decide +kernel
theorem dX12_valley_110 : decode cX12_valley 110 = .ok (.iadd, 1) := by decide +kernel
theorem dX12_valley_111 : decode cX12_valley 111 = .ok (.putfield 247, 3) := by decide +kernel
theorem dX12_valley_114 : decode cX12_valley 114 = .ok (.goto (-40), 3) := by decide +kernel
theorem dX12_valley_117 : decode cX12_valley 117 = .ok (.iconst 0, 1) := by decide +kernel
theorem dX12_valley_118 : decode cX12_valley 118 = .ok (.istore_n 1, 1) := by decide +kernel
theorem dX12_valley_119 : decode cX12_valley 119 = .ok (.iload_n 1, 1) := by decide +kernel
theorem dX12_valley_120 : decode cX12_valley 120 = .ok (.sipush 427, 3) := by decide +kernel
theorem dX12_valley_123 : decode cX12_valley 123 = .ok (.if_icmp .ge 32, 3) := by decide +kernel
theorem dX12_valley_126 : decode cX12_valley 126 = .ok (.aload_n 0, 1) := by decide +kernel
theorem dX12_valley_127 : decode cX12_valley 127 = .ok (.getfield 33, 3) := by decide +kernel
theorem dX12_valley_130 : decode cX12_valley 130 = .ok (.iload_n 1, 1) := by decide +kernel
theorem dX12_valley_131 : decode cX12_valley 131 = .ok (.iload_n 1, 1) := by decide +kernel
theorem dX12_valley_132 : decode cX12_valley 132 = .ok (.sipush 211, 3) := by decide +kernel
theorem dX12_valley_135 : decode cX12_valley 135 = .ok (.if_icmp .ge 12, 3) := by decide +kernel
theorem dX12_valley_138 : decode cX12_valley 138 = .ok (.aload_n 0, 1) := by decide +kernel
theorem dX12_valley_139 : decode cX12_valley 139 = .ok (.getfield 37, 3) := by decide +kernel
theorem dX12_valley_142 : decode cX12_valley 142 = .ok (.iload_n 1, 1) := by decide +kernel
theorem dX12_valley_143 : decode cX12_valley 143 = .ok (.iaload, 1) := by decide +kernel
theorem dX12_valley_144 : decode cX12_valley 144 = .ok (.goto 4, 3) := by decide +kernel
theorem dX12_valley_147 : decode cX12_valley 147 = .ok (.iconst 0, 1) := by decide +kernel
theorem dX12_valley_148 : decode cX12_valley 148 = .ok (.iastore, 1) := by decide +kernel
theorem dX12_valley_149 : decode cX12_valley 149 = .ok (.iinc 1 1, 3) := by decide +kernel
theorem dX12_valley_152 : decode cX12_valley 152 = .ok (.goto (-33), 3) := by decide +kernel
theorem dX12_valley_155 : decode cX12_valley 155 = .ok (.iconst 0, 1) := by decide +kernel
theorem dX12_valley_156 : decode cX12_valley 156 = .ok (.istore_n 1, 1) := by decide +kernel
theorem dX12_valley_157 : decode cX12_valley 157 = .ok (.iload_n 1, 1) := by decide +kernel
theorem dX12_valley_158 : decode cX12_valley 158 = .ok (.bipush 16, 2) := by decide +kernel
theorem dX12_valley_160 : decode cX12_valley 160 = .ok (.if_icmp .ge 24, 3) := by decide +kernel
theorem dX12_valley_163 : decode cX12_valley 163 = .ok (.aload_n 0, 1) := by decide +kernel
theorem dX12_valley_164 : decode cX12_valley 164 = .ok (.getfield 43, 3) := by decide +kernel
theorem dX12_valley_167 : decode cX12_valley 167 = .ok (.iload_n 1, 1) := by decide +kernel
theorem dX12_valley_168 : decode cX12_valley 168 = .ok (.aload_n 0, 1) := by decide +kernel
theorem dX12_valley_169 : decode cX12_valley 169 = .ok (.getfield 43, 3) := by decide +kernel
theorem dX12_valley_172 : decode cX12_valley 172 = .ok (.bipush 16, 2) := by decide +kernel
theorem dX12_valley_174 : decode cX12_valley 174 = .ok (.iload_n 1, 1) := by decide +kernel
theorem dX12_valley_175 : decode cX12_valley 175 = .ok (.iadd, 1) := by decide +kernel
theorem dX12_valley_176 : decode cX12_valley 176 = .ok (.laload, 1) := by decide +kernel
theorem dX12_valley_177 : decode cX12_valley 177 = .ok (.lastore, 1) := by decide +kernel
theorem dX12_valley_178 : decode cX12_valley 178 = .ok (.iinc 1 1, 3) := by decide +kernel
theorem dX12_valley_181 : decode cX12_valley 181 = .ok (.goto (-24), 3) := by decide +kernel
theorem dX12_valley_184 : decode cX12_valley 184 = .ok (.iconst 0, 1) := by decide +kernel
theorem dX12_valley_185 : decode cX12_valley 185 = .ok (.istore_n 1, 1) := by decide +kernel
theorem dX12_valley_186 : decode cX12_valley 186 = .ok (.iload_n 1, 1) := by decide +kernel
theorem dX12_valley_187 : decode cX12_valley 187 = .ok (.bipush 8, 2) := by decide +kernel
theorem dX12_valley_189 : decode cX12_valley 189 = .ok (.if_icmp .ge 47, 3) := by decide +kernel
theorem dX12_valley_192 : decode cX12_valley 192 = .ok (.aload_n 0, 1) := by decide +kernel
theorem dX12_valley_193 : decode cX12_valley 193 = .ok (.getfield 33, 3) := by decide +kernel
theorem dX12_valley_196 : decode cX12_valley 196 = .ok (.sipush 214, 3) := by decide +kernel
theorem dX12_valley_199 : decode cX12_valley 199 = .ok (.iload_n 1, 1) := by decide +kernel
theorem dX12_valley_200 : decode cX12_valley 200 = .ok (.iadd, 1) := by decide +kernel
theorem dX12_valley_201 : decode cX12_valley 201 = .ok (.aload_n 0, 1) := by decide +kernel
theorem dX12_valley_202 : decode cX12_valley 202 = .ok (.getfield 33, 3) := by decide +kernel
theorem dX12_valley_205 : decode cX12_valley 205 = .ok (.bipush 31, 2) := by decide +kernel
theorem dX12_valley_207 : decode cX12_valley 207 = .ok (.iload_n 1, 1) := by decide +kernel
theorem dX12_valley_208 : decode cX12_valley 208 = .ok (.iadd, 1) := by decide +kernel
theorem dX12_valley_209 : decode cX12_valley 209 = .ok (.iaload, 1) := by decide +kernel
theorem dX12_valley_210 : decode cX12_valley 210 = .ok (.iastore, 1) := by decide +kernel
theorem dX12_valley_211 : decode cX12_valley 211 = .ok (.aload_n 0, 1) := by decide +kernel
theorem dX12_valley_212 : decode cX12_valley 212 = .ok (.getfield 33, 3) := by decide +kernel
theorem dX12_valley_215 : decode cX12_valley 215 = .ok (.sipush 222, 3) := by decide +kernel
theorem dX12_valley_218 : decode cX12_valley 218 = .ok (.iload_n 1, 1) := by decide +kernel
theorem dX12_valley_219 : decode cX12_valley 219 = .ok (.iadd, 1) := by decide +kernel
theorem dX12_valley_220 : decode cX12_valley 220 = .ok (.aload_n 0, 1) := by decide +kernel
theorem dX12_valley_221 : decode cX12_valley 221 = .ok (.getfield 33, 3) := by decide +kernel
theorem dX12_valley_224 : decode cX12_valley 224 = .ok (.bipush 47, 2) := by decide +kernel
theorem dX12_valley_226 : decode cX12_valley 226 = .ok (.iload_n 1, 1) := by decide +kernel
theorem dX12_valley_227 : decode cX12_valley 227 = .ok (.iadd, 1) := by decide +kernel
theorem dX12_valley_228 : decode cX12_valley 228 = .ok (.iaload, 1) := by decide +kernel
theorem dX12_valley_229 : decode cX12_valley 229 = .ok (.iastore, 1) := by decide +kernel
theorem dX12_valley_230 : decode cX12_valley 230 = .ok (.iinc 1 1, 3) := by decide +kernel
theorem dX12_valley_233 : decode cX12_valley 233 = .ok (.goto (-47), 3) := by decide +kernel
theorem dX12_valley_236 : decode cX12_valley 236 = .ok (.aload_n 0, 1) := by decide +kernel
theorem dX12_valley_237 : decode cX12_valley 237 = .ok (.iconst 0, 1) := by decide +kernel
theorem dX12_valley_238 : decode cX12_valley 238 = .ok (.putfield 256, 3) := by decide +kernel
theorem dX12_valley_241 : decode cX12_valley 241 = .ok (.aload_n 0, 1) := by decide +kernel
