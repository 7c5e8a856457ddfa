set_option maxRecDepth 20000 in
theorem ggX12_sharesBy_X12_gives : GoodIn wsX12_sharesBy wsX12_gives := goodIn_r _ [46, 12, 7, 6, 47, 48, 4, 49, 50, 51, 52, 53, 54, 55, 56, 57, 58, 59, 60, 61, 62, 63, 64, 65, 66, 67, 68, 69, 70, 71, 72, 73, 74, 75, 76, 77, 78, 79, 80, 81, 82, 83, 84, 85, 86, 87, 88, 89, 90, 91, 92, 93, 94, 95, 96, 97, 98, 99, 100] rfl (by decide +kernel)
set_option maxRecDepth 20000 in
theorem gX12_sharesBy_X12_gives : GoodIn wsX12_sharesBy (wsV RX12 314 RX12 yX12_gives wsX12_gives) := goodIn_app (goodIn_of _ (by decide +kernel)) ggX12_sharesBy_X12_gives
theorem dX12_sharesBy_0 : decode cX12_sharesBy 0 = .ok (.aload_n 0, 1) := by decide +kernel
theorem dX12_sharesBy_1 : decode cX12_sharesBy 1 = .ok (.invokevirtual 308, 3) := by decide +kernel
theorem dX12_sharesBy_4 : decode cX12_sharesBy 4 = .ok (.iconst 0, 1) := by decide +kernel
theorem dX12_sharesBy_5 : decode cX12_sharesBy 5 = .ok (.istore_n 3, 1) := by decide +kernel
theorem dX12_sharesBy_6 : decode cX12_sharesBy 6 = .ok (.iload_n 3, 1) := by decide +kernel
theorem dX12_sharesBy_7 : decode cX12_sharesBy 7 = .ok (.iconst 2, 1) := by decide +kernel
theorem dX12_sharesBy_8 : decode cX12_sharesBy 8 = .ok (.if_icmp .ge 42, 3) := by decide +kernel
theorem dX12_sharesBy_11 : decode cX12_sharesBy 11 = .ok (.aload_n 0, 1) := by decide +kernel
theorem dX12_sharesBy_12 : decode cX12_sharesBy 12 = .ok (.iload_n 1, 1) := by decide +kernel
theorem dX12_sharesBy_13 : decode cX12_sharesBy 13 = .ok (.iload_n 3, 1) := by decide +kernel
theorem dX12_sharesBy_14 : decode cX12_sharesBy 14 = .ok (.invokevirtual 311, 3) := by decide +kernel
theorem dX12_sharesBy_17 : decode cX12_sharesBy 17 = .ok (.istore 4, 2) := by decide +kernel
theorem dX12_sharesBy_19 : decode cX12_sharesBy 19 = .ok (.iload 4, 2) := by decide +kernel
theorem dX12_sharesBy_21 : decode cX12_sharesBy 21 = .ok (.ifCond .lt 23, 3) := by decide +kernel
theorem dX12_sharesBy_24 : decode cX12_sharesBy 24 = .ok (.aload_n 0, 1) := by decide +kernel
theorem dX12_sharesBy_25 : decode cX12_sharesBy 25 = .ok (.aload_n 0, 1) := by decide +kernel
theorem dX12_sharesBy_26 : decode cX12_sharesBy 26 = .ok (.iload_n 1, 1) := by decide +kernel
theorem dX12_sharesBy_27 : decode cX12_sharesBy 27 = .ok (.iload 4, 2) := by decide +kernel
theorem dX12_sharesBy_29 : decode cX12_sharesBy 29 = .ok (.invokevirtual 296, 3) := by decide +kernel
theorem dX12_sharesBy_32 : decode cX12_sharesBy 32 = .ok (.aload_n 0, 1) := by decide +kernel
theorem dX12_sharesBy_33 : decode cX12_sharesBy 33 = .ok (.iload_n 3, 1) := by decide +kernel
theorem dX12_sharesBy_34 : decode cX12_sharesBy 34 = .ok (.invokevirtual 299, 3) := by decide +kernel
theorem dX12_sharesBy_37 : decode cX12_sharesBy 37 = .ok (.iand, 1) := by decide +kernel
theorem dX12_sharesBy_38 : decode cX12_sharesBy 38 = .ok (.iload 4, 2) := by decide +kernel
theorem dX12_sharesBy_40 : decode cX12_sharesBy 40 = .ok (.iload_n 2, 1) := by decide +kernel
theorem dX12_sharesBy_41 : decode cX12_sharesBy 41 = .ok (.invokevirtual 314, 3) := by decide +kernel
theorem dX12_sharesBy_44 : decode cX12_sharesBy 44 = .ok (.iinc 3 1, 3) := by decide +kernel
theorem dX12_sharesBy_47 : decode cX12_sharesBy 47 = .ok (.goto (-41), 3) := by decide +kernel
theorem dX12_sharesBy_50 : decode cX12_sharesBy 50 = .ok (.return_, 1) := by decide +kernel
set_option maxRecDepth 20000 in
theorem ggX12_sharesNow_X12_sharesNone : GoodIn wsX12_sharesNow wsX12_sharesNone := goodIn_r _ [7, 8, 9, 35, 36, 37, 38, 39, 40, 41, 42, 43, 44, 45, 46, 47, 48, 49, 50, 51, 52, 53, 54, 55, 56, 57, 58, 59, 60, 61, 62, 63, 64, 65, 66, 67, 68, 69, 70, 71, 72, 73, 74, 75, 76, 77, 78, 79, 80, 81] rfl (by decide +kernel)
set_option maxRecDepth 20000 in
theorem gX12_sharesNow_X12_sharesNone : GoodIn wsX12_sharesNow (wsV RX12 308 RX12 yX12_sharesNone wsX12_sharesNone) := goodIn_app (goodIn_of _ (by decide +kernel)) ggX12_sharesNow_X12_sharesNone
set_option maxRecDepth 20000 in
theorem ggX12_sharesNow_X12_asNow : GoodIn wsX12_sharesNow wsX12_asNow := goodIn_r _ [13, 1, 14, 15, 16, 6, 17, 2, 18, 19, 35, 36, 37, 38, 39, 40, 41, 42, 43, 44, 45, 46, 47, 48, 49, 50, 51, 52, 53, 54, 55, 56, 57, 58, 59, 60, 61, 62, 63, 64, 65, 66, 67, 68, 69, 70, 71, 72, 73, 74, 75, 76, 77, 78, 79, 80, 81] rfl (by decide +kernel)
set_option maxRecDepth 20000 in
theorem gX12_sharesNow_X12_asNow : GoodIn wsX12_sharesNow (wsV RX12 318 RX12 yX12_asNow wsX12_asNow) := goodIn_app (goodIn_of _ (by decide +kernel)) ggX12_sharesNow_X12_asNow
set_option maxRecDepth 20000 in
theorem ggX12_sharesNow_X12_valleyOf : GoodIn wsX12_sharesNow wsX12_valleyOf := goodIn_r _ [23, 1, 35, 36, 37, 38, 39, 40, 41, 42, 43, 44, 45, 46, 47, 48, 49, 50, 51, 52, 53, 54, 55, 56, 57, 58, 59, 60, 61, 62, 63, 64, 65, 66, 67, 68, 69, 70, 71, 72, 73, 74, 75, 76, 77, 78, 79, 80, 81] rfl (by decide +kernel)
set_option maxRecDepth 20000 in
theorem gX12_sharesNow_X12_valleyOf : GoodIn wsX12_sharesNow (wsV RX12 265 RX12 yX12_valleyOf wsX12_valleyOf) := goodIn_app (goodIn_of _ (by decide +kernel)) ggX12_sharesNow_X12_valleyOf
set_option maxRecDepth 20000 in
theorem ggX12_sharesNow_X12_gives : GoodIn wsX12_sharesNow wsX12_gives := goodIn_r _ [27, 1, 9, 8, 28, 29, 6, 30, 31, 32, 33, 34, 35, 36, 37, 38, 39, 40, 41, 42, 43, 44, 45, 46, 47, 48, 49, 50, 51, 52, 53, 54, 55, 56, 57, 58, 59, 60, 61, 62, 63, 64, 65, 66, 67, 68, 69, 70, 71, 72, 73, 74, 75, 76, 77, 78, 79, 80, 81] rfl (by decide +kernel)
set_option maxRecDepth 20000 in
theorem gX12_sharesNow_X12_gives : GoodIn wsX12_sharesNow (wsV RX12 314 RX12 yX12_gives wsX12_gives) := goodIn_app (goodIn_of _ (by decide +kernel)) ggX12_sharesNow_X12_gives
theorem dX12_sharesNow_0 : decode cX12_sharesNow 0 = .ok (.aload_n 0, 1) := by decide +kernel
theorem dX12_sharesNow_1 : decode cX12_sharesNow 1 = .ok (.invokevirtual 308, 3) := by decide +kernel
theorem dX12_sharesNow_4 : decode cX12_sharesNow 4 = .ok (.aload_n 0, 1) := by decide +kernel
theorem dX12_sharesNow_5 : decode cX12_sharesNow 5 = .ok (.invokevirtual 318, 3) := by decide +kernel
theorem dX12_sharesNow_8 : decode cX12_sharesNow 8 = .ok (.iconst 0, 1) := by decide +kernel
theorem dX12_sharesNow_9 : decode cX12_sharesNow 9 = .ok (.istore_n 1, 1) := by decide +kernel
theorem dX12_sharesNow_10 : decode cX12_sharesNow 10 = .ok (.iload_n 1, 1) := by decide +kernel
theorem dX12_sharesNow_11 : decode cX12_sharesNow 11 = .ok (.iconst 2, 1) := by decide +kernel
theorem dX12_sharesNow_12 : decode cX12_sharesNow 12 = .ok (.if_icmp .ge 174, 3) := by decide +kernel
theorem dX12_sharesNow_15 : decode cX12_sharesNow 15 = .ok (.iconst (-1), 1) := by decide +kernel
theorem dX12_sharesNow_16 : decode cX12_sharesNow 16 = .ok (.istore_n 2, 1) := by decide +kernel
theorem dX12_sharesNow_17 : decode cX12_sharesNow 17 = .ok (.iconst 0, 1) := by decide +kernel
theorem dX12_sharesNow_18 : decode cX12_sharesNow 18 = .ok (.istore_n 3, 1) := by decide +kernel
theorem dX12_sharesNow_19 : decode cX12_sharesNow 19 = .ok (.iload_n 3, 1) := by decide +kernel
theorem dX12_sharesNow_20 : decode cX12_sharesNow 20 = .ok (.aload_n 0, 1) := by decide +kernel
theorem dX12_sharesNow_21 : decode cX12_sharesNow 21 = .ok (.getfield 33, 3) := by decide +kernel
theorem dX12_sharesNow_24 : decode cX12_sharesNow 24 = .ok (.iconst 1, 1) := by decide +kernel
theorem dX12_sharesNow_25 : decode cX12_sharesNow 25 = .ok (.iaload, 1) := by decide +kernel
theorem dX12_sharesNow_26 : decode cX12_sharesNow 26 = .ok (.if_icmp .ge 69, 3) := by decide +kernel
theorem dX12_sharesNow_29 : decode cX12_sharesNow 29 = .ok (.aload_n 0, 1) := by decide +kernel
theorem dX12_sharesNow_30 : decode cX12_sharesNow 30 = .ok (.getfield 33, 3) := by decide +kernel
theorem dX12_sharesNow_33 : decode cX12_sharesNow 33 = .ok (.sipush 230, 3) := by decide +kernel
theorem dX12_sharesNow_36 : decode cX12_sharesNow 36 = .ok (.iload_n 3, 1) := by decide +kernel
theorem dX12_sharesNow_37 : decode cX12_sharesNow 37 = .ok (.iadd, 1) := by decide +kernel
theorem dX12_sharesNow_38 : decode cX12_sharesNow 38 = .ok (.iaload, 1) := by decide +kernel
theorem dX12_sharesNow_39 : decode cX12_sharesNow 39 = .ok (.ifCond .le 50, 3) := by decide +kernel
theorem dX12_sharesNow_42 : decode cX12_sharesNow 42 = .ok (.aload_n 0, 1) := by decide +kernel
theorem dX12_sharesNow_43 : decode cX12_sharesNow 43 = .ok (.aload_n 0, 1) := by decide +kernel
theorem dX12_sharesNow_44 : decode cX12_sharesNow 44 = .ok (.getfield 50, 3) := by decide +kernel
theorem dX12_sharesNow_47 : decode cX12_sharesNow 47 = .ok (.iload_n 3, 1) := by decide +kernel
theorem dX12_sharesNow_48 : decode cX12_sharesNow 48 = .ok (.iaload, 1) := by decide +kernel
theorem dX12_sharesNow_49 : decode cX12_sharesNow 49 = .ok (.invokevirtual 265, 3) := by decide +kernel
theorem dX12_sharesNow_52 : decode cX12_sharesNow 52 = .ok (.iload_n 1, 1) := by decide +kernel
theorem dX12_sharesNow_53 : decode cX12_sharesNow 53 = .ok (.if_icmp .ne 36, 3) := by decide +kernel
theorem dX12_sharesNow_56 : decode cX12_sharesNow 56 = .ok (.iload_n 2, 1) := by decide +kernel
theorem dX12_sharesNow_57 : decode cX12_sharesNow 57 = .ok (.ifCond .lt 19, 3) := by decide +kernel
theorem dX12_sharesNow_60 : decode cX12_sharesNow 60 = .ok (.aload_n 0, 1) := by decide +kernel
theorem dX12_sharesNow_61 : decode cX12_sharesNow 61 = .ok (.getfield 33, 3) := by decide +kernel
theorem dX12_sharesNow_64 : decode cX12_sharesNow 64 = .ok (.sipush 230, 3) := by decide +kernel
theorem dX12_sharesNow_67 : decode cX12_sharesNow 67 = .ok (.iload_n 3, 1) := by decide +kernel
theorem dX12_sharesNow_68 : decode cX12_sharesNow 68 = .ok (.iadd, 1) := by decide +kernel
theorem dX12_sharesNow_69 : decode cX12_sharesNow 69 = .ok (.iaload, 1) := by decide +kernel
theorem dX12_sharesNow_70 : decode cX12_sharesNow 70 = .ok (.iconst 1, 1) := by decide +kernel
theorem dX12_sharesNow_71 : decode cX12_sharesNow 71 = .ok (.isub, 1) := by decide +kernel
theorem dX12_sharesNow_72 : decode cX12_sharesNow 72 = .ok (.iload_n 2, 1) := by decide +kernel
theorem dX12_sharesNow_73 : decode cX12_sharesNow 73 = .ok (.if_icmp .ge 16, 3) := by decide +kernel
theorem dX12_sharesNow_76 : decode cX12_sharesNow 76 = .ok (.aload_n 0, 1) := by decide +kernel
theorem dX12_sharesNow_77 : decode cX12_sharesNow 77 = .ok (.getfield 33, 3) := by decide +kernel
theorem dX12_sharesNow_80 : decode cX12_sharesNow 80 = .ok (.sipush 230, 3) := by decide +kernel
theorem dX12_sharesNow_83 : decode cX12_sharesNow 83 = .ok (.iload_n 3, 1) := by decide +kernel
theorem dX12_sharesNow_84 : decode cX12_sharesNow 84 = .ok (.iadd, 1) := by decide +kernel
theorem dX12_sharesNow_85 : decode cX12_sharesNow 85 = .ok (.iaload, 1) := by decide +kernel
theorem dX12_sharesNow_86 : decode cX12_sharesNow 86 = .ok (.iconst 1, 1) := by decide +kernel
theorem dX12_sharesNow_87 : decode cX12_sharesNow 87 = .ok (.isub, 1) := by decide +kernel
theorem dX12_sharesNow_88 : decode cX12_sharesNow 88 = .ok (.istore_n 2, 1) := by decide +kernel
theorem dX12_sharesNow_89 : decode cX12_sharesNow 89 = .ok (.iinc 3 1, 3) := by decide +kernel
theorem dX12_sharesNow_92 : decode cX12_sharesNow 92 = .ok (.goto (-73), 3) := by decide +kernel
theorem dX12_sharesNow_95 : decode cX12_sharesNow 95 = .ok (.iconst 0, 1) := by decide +kernel
theorem dX12_sharesNow_96 : decode cX12_sharesNow 96 = .ok (.istore_n 3, 1) := by decide +kernel
theorem dX12_sharesNow_97 : decode cX12_sharesNow 97 = .ok (.iconst 0, 1) := by decide +kernel
theorem dX12_sharesNow_98 : decode cX12_sharesNow 98 = .ok (.istore 4, 2) := by decide +kernel
theorem dX12_sharesNow_100 : decode cX12_sharesNow 100 = .ok (.iload 4, 2) := by decide +kernel
theorem dX12_sharesNow_102 : decode cX12_sharesNow 102 = .ok (.aload_n 0, 1) := by decide +kernel
theorem dX12_sharesNow_103 : decode cX12_sharesNow 103 = .ok (.getfield 33, 3) := by decide +kernel
theorem dX12_sharesNow_106 : decode cX12_sharesNow 106 = .ok (.iconst 1, 1) := by decide +kernel
theorem dX12_sharesNow_107 : decode cX12_sharesNow 107 = .ok (.iaload, 1) := by decide +kernel
theorem dX12_sharesNow_108 : decode cX12_sharesNow 108 = .ok (.if_icmp .ge 56, 3) := by decide +kernel
theorem dX12_sharesNow_111 : decode cX12_sharesNow 111 = .ok (.iload_n 3, 1) := by decide +kernel
theorem dX12_sharesNow_112 : decode cX12_sharesNow 112 = .ok (.iload_n 2, 1) := by decide +kernel
theorem dX12_sharesNow_113 : decode cX12_sharesNow 113 = .ok (.ifCond .lt 42, 3) := by decide +kernel
theorem dX12_sharesNow_116 : decode cX12_sharesNow 116 = .ok (.aload_n 0, 1) := by decide +kernel
theorem dX12_sharesNow_117 : decode cX12_sharesNow 117 = .ok (.getfield 33, 3) := by decide +kernel
theorem dX12_sharesNow_120 : decode cX12_sharesNow 120 = .ok (.sipush 230, 3) := by decide +kernel
theorem dX12_sharesNow_123 : decode cX12_sharesNow 123 = .ok (.iload 4, 2) := by decide +kernel
theorem dX12_sharesNow_125 : decode cX12_sharesNow 125 = .ok (.iadd, 1) := by decide +kernel
theorem dX12_sharesNow_126 : decode cX12_sharesNow 126 = .ok (.iaload, 1) := by decide +kernel
theorem dX12_sharesNow_127 : decode cX12_sharesNow 127 = .ok (.iload_n 2, 1) := by decide +kernel
theorem dX12_sharesNow_128 : decode cX12_sharesNow 128 = .ok (.iconst 1, 1) := by decide +kernel
theorem dX12_sharesNow_129 : decode cX12_sharesNow 129 = .ok (.iadd, 1) := by decide +kernel
theorem dX12_sharesNow_130 : decode cX12_sharesNow 130 = .ok (.if_icmp .ne 25, 3) := by decide +kernel
theorem dX12_sharesNow_133 : decode cX12_sharesNow 133 = .ok (.aload_n 0, 1) := by decide +kernel
theorem dX12_sharesNow_134 : decode cX12_sharesNow 134 = .ok (.aload_n 0, 1) := by decide +kernel
theorem dX12_sharesNow_135 : decode cX12_sharesNow 135 = .ok (.getfield 50, 3) := by decide +kernel
theorem dX12_sharesNow_138 : decode cX12_sharesNow 138 = .ok (.iload 4, 2) := by decide +kernel
theorem dX12_sharesNow_140 : decode cX12_sharesNow 140 = .ok (.iaload, 1) := by decide +kernel
theorem dX12_sharesNow_141 : decode cX12_sharesNow 141 = .ok (.invokevirtual 265, 3) := by decide +kernel
theorem dX12_sharesNow_144 : decode cX12_sharesNow 144 = .ok (.iload_n 1, 1) := by decide +kernel
theorem dX12_sharesNow_145 : decode cX12_sharesNow 145 = .ok (.if_icmp .ne 10, 3) := by decide +kernel
theorem dX12_sharesNow_148 : decode cX12_sharesNow 148 = .ok (.iconst 1, 1) := by decide +kernel
theorem dX12_sharesNow_149 : decode cX12_sharesNow 149 = .ok (.iload 4, 2) := by decide +kernel
theorem dX12_sharesNow_151 : decode cX12_sharesNow 151 = .ok (.ishl, 1) := by decide +kernel
theorem dX12_sharesNow_152 : decode cX12_sharesNow 152 = .ok (.goto 4, 3) := by decide +kernel
theorem dX12_sharesNow_155 : decode cX12_sharesNow 155 = .ok (.iconst 0, 1) := by decide +kernel
theorem dX12_sharesNow_156 : decode cX12_sharesNow 156 = .ok (.ior, 1) := by decide +kernel
theorem dX12_sharesNow_157 : decode cX12_sharesNow 157 = .ok (.istore_n 3, 1) := by decide +kernel
theorem dX12_sharesNow_158 : decode cX12_sharesNow 158 = .ok (.iinc 4 1, 3) := by decide +kernel
theorem dX12_sharesNow_161 : decode cX12_sharesNow 161 = .ok (.goto (-61), 3) := by decide +kernel
theorem dX12_sharesNow_164 : decode cX12_sharesNow 164 = .ok (.iload_n 3, 1) := by decide +kernel
theorem dX12_sharesNow_165 : decode cX12_sharesNow 165 = .ok (.ifCond .eq 15, 3) := by decide +kernel
theorem dX12_sharesNow_168 : decode cX12_sharesNow 168 = .ok (.aload_n 0, 1) := by decide +kernel
theorem dX12_sharesNow_169 : decode cX12_sharesNow 169 = .ok (.iload_n 3, 1) := by decide +kernel
theorem dX12_sharesNow_170 : decode cX12_sharesNow 170 = .ok (.iload_n 2, 1) := by decide +kernel
theorem dX12_sharesNow_171 : decode cX12_sharesNow 171 = .ok (.aload_n 0, 1) := by decide +kernel
theorem dX12_sharesNow_172 : decode cX12_sharesNow 172 = .ok (.getfield 33, 3) := by decide +kernel
theorem dX12_sharesNow_175 : decode cX12_sharesNow 175 = .ok (.iconst 4, 1) := by decide +kernel
theorem dX12_sharesNow_176 : decode cX12_sharesNow 176 = .ok (.iaload, 1) := by decide +kernel
theorem dX12_sharesNow_177 : decode cX12_sharesNow 177 = .ok (.invokevirtual 314, 3) := by decide +kernel
theorem dX12_sharesNow_180 : decode cX12_sharesNow 180 = .ok (.iinc 1 1, 3) := by decide +kernel
theorem dX12_sharesNow_183 : decode cX12_sharesNow 183 = .ok (.goto (-173), 3) := by decide +kernel
theorem dX12_sharesNow_186 : decode cX12_sharesNow 186 = .ok (.return_, 1) := by decide +kernel
theorem dX12_sum_0 : decode cX12_sum 0 = .ok (.iconst 0, 1) := by decide +kernel
theorem dX12_sum_1 : decode cX12_sum 1 = .ok (.istore_n 2, 1) := by decide +kernel
theorem dX12_sum_2 : decode cX12_sum 2 = .ok (.iconst 0, 1) := by decide +kernel
theorem dX12_sum_3 : decode cX12_sum 3 = .ok (.istore_n 3, 1) := by decide +kernel
theorem dX12_sum_4 : decode cX12_sum 4 = .ok (.iload_n 3, 1) := by decide +kernel
theorem dX12_sum_5 : decode cX12_sum 5 = .ok (.bipush 8, 2) := by decide +kernel
theorem dX12_sum_7 : decode cX12_sum 7 = .ok (.if_icmp .ge 20, 3) := by decide +kernel
theorem dX12_sum_10 : decode cX12_sum 10 = .ok (.iload_n 2, 1) := by decide +kernel
theorem dX12_sum_11 : decode cX12_sum 11 = .ok (.aload_n 0, 1) := by decide +kernel
theorem dX12_sum_12 : decode cX12_sum 12 = .ok (.getfield 33, 3) := by decide +kernel
theorem dX12_sum_15 : decode cX12_sum 15 = .ok (.iload_n 1, 1) := by decide +kernel
theorem dX12_sum_16 : decode cX12_sum 16 = .ok (.iload_n 3, 1) := by decide +kernel
theorem dX12_sum_17 : decode cX12_sum 17 = .ok (.iadd, 1) := by decide +kernel
theorem dX12_sum_18 : decode cX12_sum 18 = .ok (.iaload, 1) := by decide +kernel
theorem dX12_sum_19 : decode cX12_sum 19 = .ok (.iadd, 1) := by decide +kernel
theorem dX12_sum_20 : decode cX12_sum 20 = .ok (.istore_n 2, 1) := by decide +kernel
theorem dX12_sum_21 : decode cX12_sum 21 = .ok (.iinc 3 1, 3) := by decide +kernel
theorem dX12_sum_24 : decode cX12_sum 24 = .ok (.goto (-20), 3) := by decide +kernel
theorem dX12_sum_27 : decode cX12_sum 27 = .ok (.iload_n 2, 1) := by decide +kernel
theorem dX12_sum_28 : decode cX12_sum 28 = .ok (.ireturn, 1) := by decide +kernel
theorem dX12_isPast_0 : decode cX12_isPast 0 = .ok (.aload_n 0, 1) := by decide +kernel
theorem dX12_isPast_1 : decode cX12_isPast 1 = .ok (.getfield 33, 3) := by decide +kernel
theorem dX12_isPast_4 : decode cX12_isPast 4 = .ok (.sipush 212, 3) := by decide +kernel
theorem dX12_isPast_7 : decode cX12_isPast 7 = .ok (.iaload, 1) := by decide +kernel
theorem dX12_isPast_8 : decode cX12_isPast 8 = .ok (.iconst 1, 1) := by decide +kernel
theorem dX12_isPast_9 : decode cX12_isPast 9 = .ok (.isub, 1) := by decide +kernel
theorem dX12_isPast_10 : decode cX12_isPast 10 = .ok (.istore_n 2, 1) := by decide +kernel
theorem dX12_isPast_11 : decode cX12_isPast 11 = .ok (.iload_n 2, 1) := by decide +kernel
theorem dX12_isPast_12 : decode cX12_isPast 12 = .ok (.ifCond .lt 45, 3) := by decide +kernel
theorem dX12_isPast_15 : decode cX12_isPast 15 = .ok (.iload_n 1, 1) := by decide +kernel
theorem dX12_isPast_16 : decode cX12_isPast 16 = .ok (.aload_n 0, 1) := by decide +kernel
theorem dX12_isPast_17 : decode cX12_isPast 17 = .ok (.getfield 33, 3) := by decide +kernel
theorem dX12_isPast_20 : decode cX12_isPast 20 = .ok (.bipush 87, 2) := by decide +kernel
theorem dX12_isPast_22 : decode cX12_isPast 22 = .ok (.iload_n 2, 1) := by decide +kernel
theorem dX12_isPast_23 : decode cX12_isPast 23 = .ok (.iadd, 1) := by decide +kernel
theorem dX12_isPast_24 : decode cX12_isPast 24 = .ok (.iaload, 1) := by decide +kernel
theorem dX12_isPast_25 : decode cX12_isPast 25 = .ok (.if_icmp .ge 32, 3) := by decide +kernel
theorem dX12_isPast_28 : decode cX12_isPast 28 = .ok (.aload_n 0, 1) := by decide +kernel
theorem dX12_isPast_29 : decode cX12_isPast 29 = .ok (.getfield 33, 3) := by decide +kernel
theorem dX12_isPast_32 : decode cX12_isPast 32 = .ok (.bipush 91, 2) := by decide +kernel
theorem dX12_isPast_34 : decode cX12_isPast 34 = .ok (.bipush 10, 2) := by decide +kernel
theorem dX12_isPast_36 : decode cX12_isPast 36 = .ok (.iload_n 2, 1) := by decide +kernel
theorem dX12_isPast_37 : decode cX12_isPast 37 = .ok (.imul, 1) := by decide +kernel
theorem dX12_isPast_38 : decode cX12_isPast 38 = .ok (.iadd, 1) := by decide +kernel
theorem dX12_isPast_39 : decode cX12_isPast 39 = .ok (.iload_n 1, 1) := by decide +kernel
theorem dX12_isPast_40 : decode cX12_isPast 40 = .ok (.iadd, 1) := by decide +kernel
theorem dX12_isPast_41 : decode cX12_isPast 41 = .ok (.iaload, 1) := by decide +kernel
theorem dX12_isPast_42 : decode cX12_isPast 42 = .ok (.aload_n 0, 1) := by decide +kernel
theorem dX12_isPast_43 : decode cX12_isPast 43 = .ok (.getfield 33, 3) := by decide +kernel
theorem dX12_isPast_46 : decode cX12_isPast 46 = .ok (.sipush 213, 3) := by decide +kernel
theorem dX12_isPast_49 : decode cX12_isPast 49 = .ok (.iaload, 1) := by decide +kernel
theorem dX12_isPast_50 : decode cX12_isPast 50 = .ok (.if_icmp .gt 7, 3) := by decide +kernel
theorem dX12_isPast_53 : decode cX12_isPast 53 = .ok (.iconst 1, 1) := by decide +kernel
theorem dX12_isPast_54 : decode cX12_isPast 54 = .ok (.goto 4, 3) := by decide +kernel
theorem dX12_isPast_57 : decode cX12_isPast 57 = .ok (.iconst 0, 1) := by decide +kernel
theorem dX12_isPast_58 : decode cX12_isPast 58 = .ok (.ireturn, 1) := by decide +kernel
set_option maxRecDepth 20000 in
theorem ggX12_pastOf_X12_isPast : GoodIn wsX12_pastOf wsX12_isPast := goodIn_r _ [5, 6, 7, 8, 9, 10, 11, 12, 13, 14, 15, 16, 17, 18, 19, 20, 21, 22, 23, 24, 25, 26, 27, 28, 29, 30, 31, 32, 33, 34, 35, 36, 37, 38, 39, 40, 41, 42, 43, 44, 45, 46, 47, 48, 49, 50, 51, 52, 53] rfl (by decide +kernel)
set_option maxRecDepth 20000 in
theorem gX12_pastOf_X12_isPast : GoodIn wsX12_pastOf (wsV RX12 321 RX12 yX12_isPast wsX12_isPast) := goodIn_app (goodIn_of _ (by decide +kernel)) ggX12_pastOf_X12_isPast
theorem dX12_pastOf_0 : decode cX12_pastOf 0 = .ok (.iconst 0, 1) := by decide +kernel
theorem dX12_pastOf_1 : decode cX12_pastOf 1 = .ok (.istore_n 1, 1) := by decide +kernel
theorem dX12_pastOf_2 : decode cX12_pastOf 2 = .ok (.iload_n 1, 1) := by decide +kernel
theorem dX12_pastOf_3 : decode cX12_pastOf 3 = .ok (.bipush 10, 2) := by decide +kernel
theorem dX12_pastOf_5 : decode cX12_pastOf 5 = .ok (.if_icmp .ge 17, 3) := by decide +kernel
theorem dX12_pastOf_8 : decode cX12_pastOf 8 = .ok (.aload_n 0, 1) := by decide +kernel
theorem dX12_pastOf_9 : decode cX12_pastOf 9 = .ok (.iload_n 1, 1) := by decide +kernel
theorem dX12_pastOf_10 : decode cX12_pastOf 10 = .ok (.invokevirtual 321, 3) := by decide +kernel
theorem dX12_pastOf_13 : decode cX12_pastOf 13 = .ok (.ifCond .eq 9, 3) := by decide +kernel
theorem dX12_pastOf_16 : decode cX12_pastOf 16 = .ok (.iinc 1 1, 3) := by decide +kernel
theorem dX12_pastOf_19 : decode cX12_pastOf 19 = .ok (.goto (-17), 3) := by decide +kernel
