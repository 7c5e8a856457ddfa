theorem dX12_whence_130 : decode cX12_whence 130 = .ok (.bipush 91, 2) := by decide +kernel
theorem dX12_whence_132 : decode cX12_whence 132 = .ok (.bipush 10, 2) := by decide +kernel
theorem dX12_whence_134 : decode cX12_whence 134 = .ok (.iload_n 2, 1) := by decide +kernel
theorem dX12_whence_135 : decode cX12_whence 135 = .ok (.imul, 1) := by decide +kernel
theorem dX12_whence_136 : decode cX12_whence 136 = .ok (.iadd, 1) := by decide +kernel
theorem dX12_whence_137 : decode cX12_whence 137 = .ok (.iload 5, 2) := by decide +kernel
theorem dX12_whence_139 : decode cX12_whence 139 = .ok (.iadd, 1) := by decide +kernel
theorem dX12_whence_140 : decode cX12_whence 140 = .ok (.iaload, 1) := by decide +kernel
theorem dX12_whence_141 : decode cX12_whence 141 = .ok (.aload_n 0, 1) := by decide +kernel
theorem dX12_whence_142 : decode cX12_whence 142 = .ok (.iload 4, 2) := by decide +kernel
theorem dX12_whence_144 : decode cX12_whence 144 = .ok (.iconst 1, 1) := by decide +kernel
theorem dX12_whence_145 : decode cX12_whence 145 = .ok (.iadd, 1) := by decide +kernel
theorem dX12_whence_146 : decode cX12_whence 146 = .ok (.invokevirtual 391, 3) := by decide +kernel
theorem dX12_whence_149 : decode cX12_whence 149 = .ok (.if_icmp .ne 23, 3) := by decide +kernel
theorem dX12_whence_152 : decode cX12_whence 152 = .ok (.aload_n 0, 1) := by decide +kernel
theorem dX12_whence_153 : decode cX12_whence 153 = .ok (.aload_n 0, 1) := by decide +kernel
theorem dX12_whence_154 : decode cX12_whence 154 = .ok (.iload 4, 2) := by decide +kernel
theorem dX12_whence_156 : decode cX12_whence 156 = .ok (.invokevirtual 391, 3) := by decide +kernel
theorem dX12_whence_159 : decode cX12_whence 159 = .ok (.iload_n 2, 1) := by decide +kernel
theorem dX12_whence_160 : decode cX12_whence 160 = .ok (.iload 5, 2) := by decide +kernel
theorem dX12_whence_162 : decode cX12_whence 162 = .ok (.invokevirtual 293, 3) := by decide +kernel
theorem dX12_whence_165 : decode cX12_whence 165 = .ok (.ifCond .eq 7, 3) := by decide +kernel
theorem dX12_whence_168 : decode cX12_whence 168 = .ok (.iconst 1, 1) := by decide +kernel
theorem dX12_whence_169 : decode cX12_whence 169 = .ok (.goto 4, 3) := by decide +kernel
theorem dX12_whence_172 : decode cX12_whence 172 = .ok (.iconst 0, 1) := by decide +kernel
theorem dX12_whence_173 : decode cX12_whence 173 = .ok (.istore_n 3, 1) := by decide +kernel
theorem dX12_whence_174 : decode cX12_whence 174 = .ok (.iinc 5 1, 3) := by decide +kernel
theorem dX12_whence_177 : decode cX12_whence 177 = .ok (.goto (-69), 3) := by decide +kernel
theorem dX12_whence_180 : decode cX12_whence 180 = .ok (.iinc 4 2, 3) := by decide +kernel
theorem dX12_whence_183 : decode cX12_whence 183 = .ok (.goto (-93), 3) := by decide +kernel
theorem dX12_whence_186 : decode cX12_whence 186 = .ok (.iload_n 1, 1) := by decide +kernel
theorem dX12_whence_187 : decode cX12_whence 187 = .ok (.iload_n 3, 1) := by decide +kernel
theorem dX12_whence_188 : decode cX12_whence 188 = .ok (.ifCond .eq 9, 3) := by decide +kernel
theorem dX12_whence_191 : decode cX12_whence 191 = .ok (.iconst 1, 1) := by decide +kernel
theorem dX12_whence_192 : decode cX12_whence 192 = .ok (.iload_n 2, 1) := by decide +kernel
theorem dX12_whence_193 : decode cX12_whence 193 = .ok (.ishl, 1) := by decide +kernel
theorem dX12_whence_194 : decode cX12_whence 194 = .ok (.goto 4, 3) := by decide +kernel
theorem dX12_whence_197 : decode cX12_whence 197 = .ok (.iconst 0, 1) := by decide +kernel
theorem dX12_whence_198 : decode cX12_whence 198 = .ok (.ior, 1) := by decide +kernel
theorem dX12_whence_199 : decode cX12_whence 199 = .ok (.istore_n 1, 1) := by decide +kernel
theorem dX12_whence_200 : decode cX12_whence 200 = .ok (.iinc 2 1, 3) := by decide +kernel
theorem dX12_whence_203 : decode cX12_whence 203 = .ok (.goto (-128), 3) := by decide +kernel
theorem dX12_whence_206 : decode cX12_whence 206 = .ok (.iload_n 1, 1) := by decide +kernel
theorem dX12_whence_207 : decode cX12_whence 207 = .ok (.ireturn, 1) := by decide +kernel
set_option maxRecDepth 20000 in
theorem ggX12_enough_X12_isFlight : GoodIn wsX12_enough wsX12_isFlight := goodIn_r _ [8, 2, 9, 10, 7, 11, 74, 75, 76, 77, 78, 79, 80, 81, 82, 83, 84, 85, 86, 87, 88, 89, 90, 91, 92, 93, 94, 95, 96, 97, 98, 99, 100, 101, 102, 103, 104, 105, 106, 107, 108, 109, 110, 111, 112, 113, 114, 115, 116, 117, 118, 119, 120] rfl (by decide +kernel)
set_option maxRecDepth 20000 in
theorem gX12_enough_X12_isFlight : GoodIn wsX12_enough (wsV RX12 259 RX12 yX12_isFlight wsX12_isFlight) := goodIn_app (goodIn_of _ (by decide +kernel)) ggX12_enough_X12_isFlight
set_option maxRecDepth 20000 in
theorem ggX12_enough_X12_asNow : GoodIn wsX12_enough wsX12_asNow := goodIn_r _ [15, 2, 16, 17, 18, 7, 19, 20, 21, 22, 74, 75, 76, 77, 78, 79, 80, 81, 82, 83, 84, 85, 86, 87, 88, 89, 90, 91, 92, 93, 94, 95, 96, 97, 98, 99, 100, 101, 102, 103, 104, 105, 106, 107, 108, 109, 110, 111, 112, 113, 114, 115, 116, 117, 118, 119, 120] rfl (by decide +kernel)
set_option maxRecDepth 20000 in
theorem gX12_enough_X12_asNow : GoodIn wsX12_enough (wsV RX12 318 RX12 yX12_asNow wsX12_asNow) := goodIn_app (goodIn_of _ (by decide +kernel)) ggX12_enough_X12_asNow
set_option maxRecDepth 20000 in
theorem ggX12_enough_X12_sharesBy : GoodIn wsX12_enough wsX12_sharesBy := goodIn_r _ [26, 27, 28, 29, 7, 30, 31, 3, 32, 33, 34, 35, 2, 36, 37, 38, 39, 40, 41, 42, 43, 22, 20, 44, 45, 46, 47, 21, 48, 49, 50, 51, 52, 53, 54, 55, 56, 57, 58, 59, 60, 61, 62, 63, 64, 65, 66, 67, 68, 69, 70, 71, 72, 73, 74, 75, 76, 77, 78, 79, 80, 81, 82, 83, 84, 85, 86, 87, 88, 89, 90, 91, 92, 93, 94, 95, 96, 97, 98, 99, 100, 101, 102, 103, 104, 105, 106, 107, 108, 109, 110, 111, 112, 113, 114, 115, 116, 117, 118, 119, 120] rfl (by decide +kernel)
set_option maxRecDepth 20000 in
theorem gX12_enough_X12_sharesBy : GoodIn wsX12_enough (wsV RX12 366 RX12 yX12_sharesBy wsX12_sharesBy) := goodIn_app (goodIn_of _ (by decide +kernel)) ggX12_enough_X12_sharesBy
theorem dX12_enough_0 : decode cX12_enough 0 = .ok (.aload_n 0, 1) := by decide +kernel
theorem dX12_enough_1 : decode cX12_enough 1 = .ok (.iconst 0, 1) := by decide +kernel
theorem dX12_enough_2 : decode cX12_enough 2 = .ok (.putfield 1, 3) := by decide +kernel
theorem dX12_enough_5 : decode cX12_enough 5 = .ok (.aload_n 0, 1) := by decide +kernel
theorem dX12_enough_6 : decode cX12_enough 6 = .ok (.iload_n 1, 1) := by decide +kernel
theorem dX12_enough_7 : decode cX12_enough 7 = .ok (.invokevirtual 259, 3) := by decide +kernel
theorem dX12_enough_10 : decode cX12_enough 10 = .ok (.ifCond .ne 5, 3) := by decide +kernel
theorem dX12_enough_13 : decode cX12_enough 13 = .ok (.iconst (-1), 1) := by decide +kernel
theorem dX12_enough_14 : decode cX12_enough 14 = .ok (.ireturn, 1) := by decide +kernel
theorem dX12_enough_15 : decode cX12_enough 15 = .ok (.aload_n 0, 1) := by decide +kernel
theorem dX12_enough_16 : decode cX12_enough 16 = .ok (.invokevirtual 318, 3) := by decide +kernel
theorem dX12_enough_19 : decode cX12_enough 19 = .ok (.aload_n 0, 1) := by decide +kernel
theorem dX12_enough_20 : decode cX12_enough 20 = .ok (.iload_n 1, 1) := by decide +kernel
theorem dX12_enough_21 : decode cX12_enough 21 = .ok (.aload_n 0, 1) := by decide +kernel
theorem dX12_enough_22 : decode cX12_enough 22 = .ok (.getfield 33, 3) := by decide +kernel
theorem dX12_enough_25 : decode cX12_enough 25 = .ok (.iconst 4, 1) := by decide +kernel
theorem dX12_enough_26 : decode cX12_enough 26 = .ok (.iaload, 1) := by decide +kernel
theorem dX12_enough_27 : decode cX12_enough 27 = .ok (.invokevirtual 366, 3) := by decide +kernel
theorem dX12_enough_30 : decode cX12_enough 30 = .ok (.iconst 0, 1) := by decide +kernel
theorem dX12_enough_31 : decode cX12_enough 31 = .ok (.istore_n 2, 1) := by decide +kernel
theorem dX12_enough_32 : decode cX12_enough 32 = .ok (.iconst 0, 1) := by decide +kernel
theorem dX12_enough_33 : decode cX12_enough 33 = .ok (.istore_n 3, 1) := by decide +kernel
theorem dX12_enough_34 : decode cX12_enough 34 = .ok (.iload_n 3, 1) := by decide +kernel
theorem dX12_enough_35 : decode cX12_enough 35 = .ok (.aload_n 0, 1) := by decide +kernel
theorem dX12_enough_36 : decode cX12_enough 36 = .ok (.getfield 33, 3) := by decide +kernel
theorem dX12_enough_39 : decode cX12_enough 39 = .ok (.iconst 1, 1) := by decide +kernel
theorem dX12_enough_40 : decode cX12_enough 40 = .ok (.iaload, 1) := by decide +kernel
theorem dX12_enough_41 : decode cX12_enough 41 = .ok (.if_icmp .ge 51, 3) := by decide +kernel
theorem dX12_enough_44 : decode cX12_enough 44 = .ok (.iload_n 2, 1) := by decide +kernel
theorem dX12_enough_45 : decode cX12_enough 45 = .ok (.aload_n 0, 1) := by decide +kernel
theorem dX12_enough_46 : decode cX12_enough 46 = .ok (.getfield 33, 3) := by decide +kernel
theorem dX12_enough_49 : decode cX12_enough 49 = .ok (.bipush 71, 2) := by decide +kernel
theorem dX12_enough_51 : decode cX12_enough 51 = .ok (.iload_n 3, 1) := by decide +kernel
theorem dX12_enough_52 : decode cX12_enough 52 = .ok (.iadd, 1) := by decide +kernel
theorem dX12_enough_53 : decode cX12_enough 53 = .ok (.iaload, 1) := by decide +kernel
theorem dX12_enough_54 : decode cX12_enough 54 = .ok (.ifCond .le 29, 3) := by decide +kernel
theorem dX12_enough_57 : decode cX12_enough 57 = .ok (.aload_n 0, 1) := by decide +kernel
theorem dX12_enough_58 : decode cX12_enough 58 = .ok (.getfield 59, 3) := by decide +kernel
theorem dX12_enough_61 : decode cX12_enough 61 = .ok (.iload_n 3, 1) := by decide +kernel
theorem dX12_enough_62 : decode cX12_enough 62 = .ok (.iaload, 1) := by decide +kernel
theorem dX12_enough_63 : decode cX12_enough 63 = .ok (.aload_n 0, 1) := by decide +kernel
theorem dX12_enough_64 : decode cX12_enough 64 = .ok (.getfield 33, 3) := by decide +kernel
theorem dX12_enough_67 : decode cX12_enough 67 = .ok (.bipush 71, 2) := by decide +kernel
theorem dX12_enough_69 : decode cX12_enough 69 = .ok (.iload_n 3, 1) := by decide +kernel
theorem dX12_enough_70 : decode cX12_enough 70 = .ok (.iadd, 1) := by decide +kernel
theorem dX12_enough_71 : decode cX12_enough 71 = .ok (.iaload, 1) := by decide +kernel
theorem dX12_enough_72 : decode cX12_enough 72 = .ok (.iconst 1, 1) := by decide +kernel
theorem dX12_enough_73 : decode cX12_enough 73 = .ok (.isub, 1) := by decide +kernel
theorem dX12_enough_74 : decode cX12_enough 74 = .ok (.if_icmp .lt 9, 3) := by decide +kernel
theorem dX12_enough_77 : decode cX12_enough 77 = .ok (.iconst 1, 1) := by decide +kernel
theorem dX12_enough_78 : decode cX12_enough 78 = .ok (.iload_n 3, 1) := by decide +kernel
theorem dX12_enough_79 : decode cX12_enough 79 = .ok (.ishl, 1) := by decide +kernel
theorem dX12_enough_80 : decode cX12_enough 80 = .ok (.goto 4, 3) := by decide +kernel
theorem dX12_enough_83 : decode cX12_enough 83 = .ok (.iconst 0, 1) := by decide +kernel
theorem dX12_enough_84 : decode cX12_enough 84 = .ok (.ior, 1) := by decide +kernel
theorem dX12_enough_85 : decode cX12_enough 85 = .ok (.istore_n 2, 1) := by decide +kernel
theorem dX12_enough_86 : decode cX12_enough 86 = .ok (.iinc 3 1, 3) := by decide +kernel
theorem dX12_enough_89 : decode cX12_enough 89 = .ok (.goto (-55), 3) := by decide +kernel
theorem dX12_enough_92 : decode cX12_enough 92 = .ok (.iload_n 2, 1) := by decide +kernel
theorem dX12_enough_93 : decode cX12_enough 93 = .ok (.ireturn, 1) := by decide +kernel
set_option maxRecDepth 20000 in
theorem ggX12_least_X12_isFlight : GoodIn wsX12_least wsX12_isFlight := goodIn_r _ [9, 3, 10, 11, 8, 12, 74, 75, 76, 77, 78, 79, 80, 81, 82, 83, 84, 85, 86, 87, 88, 89, 90, 91, 92, 93, 94, 95, 96, 97, 98, 99, 100, 101, 102, 103, 104, 105, 106, 107, 108, 109, 110, 111, 112, 113, 114, 115, 116, 117, 118, 119, 120] rfl (by decide +kernel)
set_option maxRecDepth 20000 in
theorem gX12_least_X12_isFlight : GoodIn wsX12_least (wsV RX12 259 RX12 yX12_isFlight wsX12_isFlight) := goodIn_app (goodIn_of _ (by decide +kernel)) ggX12_least_X12_isFlight
set_option maxRecDepth 20000 in
theorem ggX12_least_X12_asNow : GoodIn wsX12_least wsX12_asNow := goodIn_r _ [16, 3, 17, 18, 19, 8, 20, 21, 22, 23, 74, 75, 76, 77, 78, 79, 80, 81, 82, 83, 84, 85, 86, 87, 88, 89, 90, 91, 92, 93, 94, 95, 96, 97, 98, 99, 100, 101, 102, 103, 104, 105, 106, 107, 108, 109, 110, 111, 112, 113, 114, 115, 116, 117, 118, 119, 120] rfl (by decide +kernel)
set_option maxRecDepth 20000 in
theorem gX12_least_X12_asNow : GoodIn wsX12_least (wsV RX12 318 RX12 yX12_asNow wsX12_asNow) := goodIn_app (goodIn_of _ (by decide +kernel)) ggX12_least_X12_asNow
set_option maxRecDepth 20000 in
theorem ggX12_least_X12_sharesBy : GoodIn wsX12_least wsX12_sharesBy := goodIn_r _ [27, 28, 29, 30, 8, 31, 2, 4, 32, 33, 34, 35, 3, 36, 37, 38, 39, 40, 41, 42, 43, 23, 21, 44, 45, 46, 47, 22, 48, 49, 50, 51, 52, 53, 54, 55, 56, 57, 58, 59, 60, 61, 62, 63, 64, 65, 66, 67, 68, 69, 70, 71, 72, 73, 74, 75, 76, 77, 78, 79, 80, 81, 82, 83, 84, 85, 86, 87, 88, 89, 90, 91, 92, 93, 94, 95, 96, 97, 98, 99, 100, 101, 102, 103, 104, 105, 106, 107, 108, 109, 110, 111, 112, 113, 114, 115, 116, 117, 118, 119, 120] rfl (by decide +kernel)
set_option maxRecDepth 20000 in
theorem gX12_least_X12_sharesBy : GoodIn wsX12_least (wsV RX12 366 RX12 yX12_sharesBy wsX12_sharesBy) := goodIn_app (goodIn_of _ (by decide +kernel)) ggX12_least_X12_sharesBy
set_option maxRecDepth 20000 in
theorem ggX12_least_X12_bitOf : GoodIn wsX12_least wsX12_bitOf := goodIn_r _ [69] rfl (by decide +kernel)
set_option maxRecDepth 20000 in
theorem gX12_least_X12_bitOf : GoodIn wsX12_least (va_wsS RX12 216 yX12_bitOf wsX12_bitOf) := goodIn_app (goodIn_of _ (by decide +kernel)) ggX12_least_X12_bitOf
theorem dX12_least_0 : decode cX12_least 0 = .ok (.aload_n 0, 1) := by decide +kernel
theorem dX12_least_1 : decode cX12_least 1 = .ok (.iconst 0, 1) := by decide +kernel
theorem dX12_least_2 : decode cX12_least 2 = .ok (.putfield 1, 3) := by decide +kernel
theorem dX12_least_5 : decode cX12_least 5 = .ok (.aload_n 0, 1) := by decide +kernel
theorem dX12_least_6 : decode cX12_least 6 = .ok (.iload_n 1, 1) := by decide +kernel
theorem dX12_least_7 : decode cX12_least 7 = .ok (.invokevirtual 259, 3) := by decide +kernel
theorem dX12_least_10 : decode cX12_least 10 = .ok (.ifCond .ne 5, 3) := by decide +kernel
theorem dX12_least_13 : decode cX12_least 13 = .ok (.iconst (-1), 1) := by decide +kernel
theorem dX12_least_14 : decode cX12_least 14 = .ok (.ireturn, 1) := by decide +kernel
theorem dX12_least_15 : decode cX12_least 15 = .ok (.aload_n 0, 1) := by decide +kernel
theorem dX12_least_16 : decode cX12_least 16 = .ok (.invokevirtual 318, 3) := by decide +kernel
theorem dX12_least_19 : decode cX12_least 19 = .ok (.iconst 0, 1) := by decide +kernel
theorem dX12_least_20 : decode cX12_least 20 = .ok (.istore_n 2, 1) := by decide +kernel
theorem dX12_least_21 : decode cX12_least 21 = .ok (.iload_n 2, 1) := by decide +kernel
theorem dX12_least_22 : decode cX12_least 22 = .ok (.sipush 1000, 3) := by decide +kernel
theorem dX12_least_25 : decode cX12_least 25 = .ok (.if_icmp .ge 98, 3) := by decide +kernel
theorem dX12_least_28 : decode cX12_least 28 = .ok (.aload_n 0, 1) := by decide +kernel
theorem dX12_least_29 : decode cX12_least 29 = .ok (.iload_n 1, 1) := by decide +kernel
theorem dX12_least_30 : decode cX12_least 30 = .ok (.iload_n 2, 1) := by decide +kernel
theorem dX12_least_31 : decode cX12_least 31 = .ok (.invokevirtual 366, 3) := by decide +kernel
theorem dX12_least_34 : decode cX12_least 34 = .ok (.aload_n 0, 1) := by decide +kernel
theorem dX12_least_35 : decode cX12_least 35 = .ok (.getfield 305, 3) := by decide +kernel
theorem dX12_least_38 : decode cX12_least 38 = .ok (.ifCond .eq 7, 3) := by decide +kernel
theorem dX12_least_41 : decode cX12_least 41 = .ok (.iconst 1, 1) := by decide +kernel
theorem dX12_least_42 : decode cX12_least 42 = .ok (.goto 4, 3) := by decide +kernel
theorem dX12_least_45 : decode cX12_least 45 = .ok (.iconst 0, 1) := by decide +kernel
theorem dX12_least_46 : decode cX12_least 46 = .ok (.istore_n 3, 1) := by decide +kernel
theorem dX12_least_47 : decode cX12_least 47 = .ok (.iconst 0, 1) := by decide +kernel
theorem dX12_least_48 : decode cX12_least 48 = .ok (.istore 4, 2) := by decide +kernel
theorem dX12_least_50 : decode cX12_least 50 = .ok (.iload 4, 2) := by decide +kernel
theorem dX12_least_52 : decode cX12_least 52 = .ok (.aload_n 0, 1) := by decide +kernel
theorem dX12_least_53 : decode cX12_least 53 = .ok (.getfield 33, 3) := by decide +kernel
theorem dX12_least_56 : decode cX12_least 56 = .ok (.iconst 1, 1) := by decide +kernel
theorem dX12_least_57 : decode cX12_least 57 = .ok (.iaload, 1) := by decide +kernel
theorem dX12_least_58 : decode cX12_least 58 = .ok (.if_icmp .ge 53, 3) := by decide +kernel
theorem dX12_least_61 : decode cX12_least 61 = .ok (.iload_n 3, 1) := by decide +kernel
theorem dX12_least_62 : decode cX12_least 62 = .ok (.ifCond .eq 41, 3) := by decide +kernel
theorem dX12_least_65 : decode cX12_least 65 = .ok (.aload_n 0, 1) := by decide +kernel
theorem dX12_least_66 : decode cX12_least 66 = .ok (.getfield 305, 3) := by decide +kernel
theorem dX12_least_69 : decode cX12_least 69 = .ok (.iload 4, 2) := by decide +kernel
theorem dX12_least_71 : decode cX12_least 71 = .ok (.invokestatic 216, 3) := by decide +kernel
theorem dX12_least_74 : decode cX12_least 74 = .ok (.ifCond .eq 25, 3) := by decide +kernel
theorem dX12_least_77 : decode cX12_least 77 = .ok (.aload_n 0, 1) := by decide +kernel
theorem dX12_least_78 : decode cX12_least 78 = .ok (.getfield 59, 3) := by decide +kernel
theorem dX12_least_81 : decode cX12_least 81 = .ok (.iload 4, 2) := by decide +kernel
theorem dX12_least_83 : decode cX12_least 83 = .ok (.iaload, 1) := by decide +kernel
theorem dX12_least_84 : decode cX12_least 84 = .ok (.aload_n 0, 1) := by decide +kernel
theorem dX12_least_85 : decode cX12_least 85 = .ok (.getfield 33, 3) := by decide +kernel
theorem dX12_least_88 : decode cX12_least 88 = .ok (.bipush 71, 2) := by decide +kernel
theorem dX12_least_90 : decode cX12_least 90 = .ok (.iload 4, 2) := by decide +kernel
theorem dX12_least_92 : decode cX12_least 92 = .ok (.iadd, 1) := by decide +kernel
theorem dX12_least_93 : decode cX12_least 93 = .ok (.iaload, 1) := by decide +kernel
theorem dX12_least_94 : decode cX12_least 94 = .ok (.iconst 1, 1) := by decide +kernel
theorem dX12_least_95 : decode cX12_least 95 = .ok (.isub, 1) := by decide +kernel
theorem dX12_least_96 : decode cX12_least 96 = .ok (.if_icmp .lt 7, 3) := by decide +kernel
theorem dX12_least_99 : decode cX12_least 99 = .ok (.iconst 1, 1) := by decide +kernel
theorem dX12_least_100 : decode cX12_least 100 = .ok (.goto 4, 3) := by decide +kernel
theorem dX12_least_103 : decode cX12_least 103 = .ok (.iconst 0, 1) := by decide +kernel
theorem dX12_least_104 : decode cX12_least 104 = .ok (.istore_n 3, 1) := by decide +kernel
theorem dX12_least_105 : decode cX12_least 105 = .ok (.iinc 4 1, 3) := by decide +kernel
theorem dX12_least_108 : decode cX12_least 108 = .ok (.goto (-58), 3) := by decide +kernel
theorem dX12_least_111 : decode cX12_least 111 = .ok (.iload_n 3, 1) := by decide +kernel
theorem dX12_least_112 : decode cX12_least 112 = .ok (.ifCond .eq 5, 3) := by decide +kernel
theorem dX12_least_115 : decode cX12_least 115 = .ok (.iload_n 2, 1) := by decide +kernel
theorem dX12_least_116 : decode cX12_least 116 = .ok (.ireturn, 1) := by decide +kernel
theorem dX12_least_117 : decode cX12_least 117 = .ok (.iinc 2 1, 3) := by decide +kernel
theorem dX12_least_120 : decode cX12_least 120 = .ok (.goto (-99), 3) := by decide +kernel
theorem dX12_least_123 : decode cX12_least 123 = .ok (.iconst (-1), 1) := by decide +kernel
theorem dX12_least_124 : decode cX12_least 124 = .ok (.ireturn, 1) := by decide +kernel
set_option maxRecDepth 20000 in
theorem ggX12_poor_X12_asNow : GoodIn wsX12_poor wsX12_asNow := goodIn_r _ [7, 2, 8, 9, 10, 6, 11, 12, 13, 14, 38, 39, 40, 41, 42, 43, 44, 45, 46, 47, 48, 49, 50, 51, 52, 53, 54, 55, 56, 57, 58, 59, 60, 61, 62, 63, 64, 65, 66, 67, 68, 69, 70, 71, 72, 73, 74, 75, 76, 77, 78, 79, 80, 81, 82, 83, 84] rfl (by decide +kernel)
set_option maxRecDepth 20000 in
theorem gX12_poor_X12_asNow : GoodIn wsX12_poor (wsV RX12 318 RX12 yX12_asNow wsX12_asNow) := goodIn_app (goodIn_of _ (by decide +kernel)) ggX12_poor_X12_asNow
set_option maxRecDepth 20000 in
theorem ggX12_poor_X12_whoHears : GoodIn wsX12_poor wsX12_whoHears := goodIn_r _ [18, 2, 19, 20, 21, 6, 22, 14, 12, 23, 24, 25, 26, 13, 27, 28, 29, 30, 31, 32, 33, 34, 35, 36, 37, 38, 39, 40, 41, 42, 43, 44, 45, 46, 47, 48, 49, 50, 51, 52, 53, 54, 55, 56, 57, 58, 59, 60, 61, 62, 63, 64, 65, 66, 67, 68, 69, 70, 71, 72, 73, 74, 75, 76, 77, 78, 79, 80, 81, 82, 83, 84] rfl (by decide +kernel)
set_option maxRecDepth 20000 in
theorem gX12_poor_X12_whoHears : GoodIn wsX12_poor (wsV RX12 296 RX12 yX12_whoHears wsX12_whoHears) := goodIn_app (goodIn_of _ (by decide +kernel)) ggX12_poor_X12_whoHears
theorem dX12_poor_0 : decode cX12_poor 0 = .ok (.aload_n 0, 1) := by decide +kernel
theorem dX12_poor_1 : decode cX12_poor 1 = .ok (.iconst 0, 1) := by decide +kernel
theorem dX12_poor_2 : decode cX12_poor 2 = .ok (.putfield 1, 3) := by decide +kernel
theorem dX12_poor_5 : decode cX12_poor 5 = .ok (.aload_n 0, 1) := by decide +kernel
theorem dX12_poor_6 : decode cX12_poor 6 = .ok (.invokevirtual 318, 3) := by decide +kernel
theorem dX12_poor_9 : decode cX12_poor 9 = .ok (.iconst 1, 1) := by decide +kernel
theorem dX12_poor_10 : decode cX12_poor 10 = .ok (.aload_n 0, 1) := by decide +kernel
theorem dX12_poor_11 : decode cX12_poor 11 = .ok (.getfield 33, 3) := by decide +kernel
theorem dX12_poor_14 : decode cX12_poor 14 = .ok (.iconst 1, 1) := by decide +kernel
theorem dX12_poor_15 : decode cX12_poor 15 = .ok (.iaload, 1) := by decide +kernel
theorem dX12_poor_16 : decode cX12_poor 16 = .ok (.ishl, 1) := by decide +kernel
theorem dX12_poor_17 : decode cX12_poor 17 = .ok (.iconst 1, 1) := by decide +kernel
theorem dX12_poor_18 : decode cX12_poor 18 = .ok (.isub, 1) := by decide +kernel
theorem dX12_poor_19 : decode cX12_poor 19 = .ok (.istore_n 1, 1) := by decide +kernel
theorem dX12_poor_20 : decode cX12_poor 20 = .ok (.iconst 0, 1) := by decide +kernel
theorem dX12_poor_21 : decode cX12_poor 21 = .ok (.istore_n 2, 1) := by decide +kernel
theorem dX12_poor_22 : decode cX12_poor 22 = .ok (.iload_n 2, 1) := by decide +kernel
theorem dX12_poor_23 : decode cX12_poor 23 = .ok (.aload_n 0, 1) := by decide +kernel
theorem dX12_poor_24 : decode cX12_poor 24 = .ok (.getfield 33, 3) := by decide +kernel
theorem dX12_poor_27 : decode cX12_poor 27 = .ok (.iconst 2, 1) := by decide +kernel
theorem dX12_poor_28 : decode cX12_poor 28 = .ok (.iaload, 1) := by decide +kernel
theorem dX12_poor_29 : decode cX12_poor 29 = .ok (.if_icmp .ge 41, 3) := by decide +kernel
theorem dX12_poor_32 : decode cX12_poor 32 = .ok (.iconst 0, 1) := by decide +kernel
theorem dX12_poor_33 : decode cX12_poor 33 = .ok (.istore_n 3, 1) := by decide +kernel
theorem dX12_poor_34 : decode cX12_poor 34 = .ok (.iload_n 3, 1) := by decide +kernel
theorem dX12_poor_35 : decode cX12_poor 35 = .ok (.aload_n 0, 1) := by decide +kernel
theorem dX12_poor_36 : decode cX12_poor 36 = .ok (.getfield 33, 3) := by decide +kernel
