theorem dX12_canHear_115 : decode cX12_canHear 115 = .ok (.aload_n 0, 1) := by decide +kernel
theorem dX12_canHear_116 : decode cX12_canHear 116 = .ok (.getfield 33, 3) := by decide +kernel
theorem dX12_canHear_119 : decode cX12_canHear 119 = .ok (.sipush 131, 3) := by decide +kernel
theorem dX12_canHear_122 : decode cX12_canHear 122 = .ok (.bipush 10, 2) := by decide +kernel
theorem dX12_canHear_124 : decode cX12_canHear 124 = .ok (.iload_n 2, 1) := by decide +kernel
theorem dX12_canHear_125 : decode cX12_canHear 125 = .ok (.imul, 1) := by decide +kernel
theorem dX12_canHear_126 : decode cX12_canHear 126 = .ok (.iadd, 1) := by decide +kernel
theorem dX12_canHear_127 : decode cX12_canHear 127 = .ok (.iload_n 3, 1) := by decide +kernel
theorem dX12_canHear_128 : decode cX12_canHear 128 = .ok (.iadd, 1) := by decide +kernel
theorem dX12_canHear_129 : decode cX12_canHear 129 = .ok (.iaload, 1) := by decide +kernel
theorem dX12_canHear_130 : decode cX12_canHear 130 = .ok (.invokevirtual 265, 3) := by decide +kernel
theorem dX12_canHear_133 : decode cX12_canHear 133 = .ok (.if_icmp .eq 6, 3) := by decide +kernel
theorem dX12_canHear_136 : decode cX12_canHear 136 = .ok (.iinc 5 (-3), 3) := by decide +kernel
theorem dX12_canHear_139 : decode cX12_canHear 139 = .ok (.aload_n 0, 1) := by decide +kernel
theorem dX12_canHear_140 : decode cX12_canHear 140 = .ok (.iload 4, 2) := by decide +kernel
theorem dX12_canHear_142 : decode cX12_canHear 142 = .ok (.iload_n 2, 1) := by decide +kernel
theorem dX12_canHear_143 : decode cX12_canHear 143 = .ok (.iload_n 3, 1) := by decide +kernel
theorem dX12_canHear_144 : decode cX12_canHear 144 = .ok (.invokevirtual 289, 3) := by decide +kernel
theorem dX12_canHear_147 : decode cX12_canHear 147 = .ok (.iload 5, 2) := by decide +kernel
theorem dX12_canHear_149 : decode cX12_canHear 149 = .ok (.if_icmp .gt 7, 3) := by decide +kernel
theorem dX12_canHear_152 : decode cX12_canHear 152 = .ok (.iconst 1, 1) := by decide +kernel
theorem dX12_canHear_153 : decode cX12_canHear 153 = .ok (.goto 4, 3) := by decide +kernel
theorem dX12_canHear_156 : decode cX12_canHear 156 = .ok (.iconst 0, 1) := by decide +kernel
theorem dX12_canHear_157 : decode cX12_canHear 157 = .ok (.ireturn, 1) := by decide +kernel
set_option maxRecDepth 20000 in
theorem ggX12_whoHears_X12_canHear : GoodIn wsX12_whoHears wsX12_canHear := goodIn_r _ [6, 1, 7, 8, 9, 10, 11, 5, 12, 13, 14, 15, 16, 17, 18, 19, 20, 21, 22, 23, 24, 25, 26, 27, 28, 29, 30, 31, 32, 33, 34, 35, 36, 37, 38, 39, 40, 41, 42, 43, 44, 45, 46, 47, 48, 49, 50, 51, 52, 53, 54, 55, 56, 57, 58, 59, 60, 61, 62, 63, 64, 65, 66, 67, 68, 69, 70, 71] rfl (by decide +kernel)
set_option maxRecDepth 20000 in
theorem gX12_whoHears_X12_canHear : GoodIn wsX12_whoHears (wsV RX12 293 RX12 yX12_canHear wsX12_canHear) := goodIn_app (goodIn_of _ (by decide +kernel)) ggX12_whoHears_X12_canHear
theorem dX12_whoHears_0 : decode cX12_whoHears 0 = .ok (.iconst 0, 1) := by decide +kernel
theorem dX12_whoHears_1 : decode cX12_whoHears 1 = .ok (.istore_n 3, 1) := by decide +kernel
theorem dX12_whoHears_2 : decode cX12_whoHears 2 = .ok (.iconst 0, 1) := by decide +kernel
theorem dX12_whoHears_3 : decode cX12_whoHears 3 = .ok (.istore 4, 2) := by decide +kernel
theorem dX12_whoHears_5 : decode cX12_whoHears 5 = .ok (.iload 4, 2) := by decide +kernel
theorem dX12_whoHears_7 : decode cX12_whoHears 7 = .ok (.aload_n 0, 1) := by decide +kernel
theorem dX12_whoHears_8 : decode cX12_whoHears 8 = .ok (.getfield 33, 3) := by decide +kernel
theorem dX12_whoHears_11 : decode cX12_whoHears 11 = .ok (.iconst 1, 1) := by decide +kernel
theorem dX12_whoHears_12 : decode cX12_whoHears 12 = .ok (.iaload, 1) := by decide +kernel
theorem dX12_whoHears_13 : decode cX12_whoHears 13 = .ok (.if_icmp .ge 31, 3) := by decide +kernel
theorem dX12_whoHears_16 : decode cX12_whoHears 16 = .ok (.iload_n 3, 1) := by decide +kernel
theorem dX12_whoHears_17 : decode cX12_whoHears 17 = .ok (.aload_n 0, 1) := by decide +kernel
theorem dX12_whoHears_18 : decode cX12_whoHears 18 = .ok (.iload 4, 2) := by decide +kernel
theorem dX12_whoHears_20 : decode cX12_whoHears 20 = .ok (.iload_n 1, 1) := by decide +kernel
theorem dX12_whoHears_21 : decode cX12_whoHears 21 = .ok (.iload_n 2, 1) := by decide +kernel
theorem dX12_whoHears_22 : decode cX12_whoHears 22 = .ok (.invokevirtual 293, 3) := by decide +kernel
theorem dX12_whoHears_25 : decode cX12_whoHears 25 = .ok (.ifCond .eq 10, 3) := by decide +kernel
theorem dX12_whoHears_28 : decode cX12_whoHears 28 = .ok (.iconst 1, 1) := by decide +kernel
theorem dX12_whoHears_29 : decode cX12_whoHears 29 = .ok (.iload 4, 2) := by decide +kernel
theorem dX12_whoHears_31 : decode cX12_whoHears 31 = .ok (.ishl, 1) := by decide +kernel
theorem dX12_whoHears_32 : decode cX12_whoHears 32 = .ok (.goto 4, 3) := by decide +kernel
theorem dX12_whoHears_35 : decode cX12_whoHears 35 = .ok (.iconst 0, 1) := by decide +kernel
theorem dX12_whoHears_36 : decode cX12_whoHears 36 = .ok (.ior, 1) := by decide +kernel
theorem dX12_whoHears_37 : decode cX12_whoHears 37 = .ok (.istore_n 3, 1) := by decide +kernel
theorem dX12_whoHears_38 : decode cX12_whoHears 38 = .ok (.iinc 4 1, 3) := by decide +kernel
theorem dX12_whoHears_41 : decode cX12_whoHears 41 = .ok (.goto (-36), 3) := by decide +kernel
theorem dX12_whoHears_44 : decode cX12_whoHears 44 = .ok (.iload_n 3, 1) := by decide +kernel
theorem dX12_whoHears_45 : decode cX12_whoHears 45 = .ok (.ireturn, 1) := by decide +kernel
set_option maxRecDepth 20000 in
theorem ggX12_menIn_X12_valleyOf : GoodIn wsX12_menIn wsX12_valleyOf := goodIn_r _ [7, 1, 8, 9, 10, 11, 12, 13, 14, 15, 16, 17, 18, 19, 20, 21, 22, 23, 24, 25, 26, 27, 28, 29, 30, 31, 32, 33, 34, 35, 36, 37, 38, 39, 40, 41, 42, 43, 44, 45, 46, 47, 48, 49, 50, 51, 52, 53, 54] rfl (by decide +kernel)
set_option maxRecDepth 20000 in
theorem gX12_menIn_X12_valleyOf : GoodIn wsX12_menIn (wsV RX12 265 RX12 yX12_valleyOf wsX12_valleyOf) := goodIn_app (goodIn_of _ (by decide +kernel)) ggX12_menIn_X12_valleyOf
theorem dX12_menIn_0 : decode cX12_menIn 0 = .ok (.iconst 0, 1) := by decide +kernel
theorem dX12_menIn_1 : decode cX12_menIn 1 = .ok (.istore_n 2, 1) := by decide +kernel
theorem dX12_menIn_2 : decode cX12_menIn 2 = .ok (.iconst 0, 1) := by decide +kernel
theorem dX12_menIn_3 : decode cX12_menIn 3 = .ok (.istore_n 3, 1) := by decide +kernel
theorem dX12_menIn_4 : decode cX12_menIn 4 = .ok (.iload_n 3, 1) := by decide +kernel
theorem dX12_menIn_5 : decode cX12_menIn 5 = .ok (.aload_n 0, 1) := by decide +kernel
theorem dX12_menIn_6 : decode cX12_menIn 6 = .ok (.getfield 33, 3) := by decide +kernel
theorem dX12_menIn_9 : decode cX12_menIn 9 = .ok (.iconst 1, 1) := by decide +kernel
theorem dX12_menIn_10 : decode cX12_menIn 10 = .ok (.iaload, 1) := by decide +kernel
theorem dX12_menIn_11 : decode cX12_menIn 11 = .ok (.if_icmp .ge 33, 3) := by decide +kernel
theorem dX12_menIn_14 : decode cX12_menIn 14 = .ok (.iload_n 2, 1) := by decide +kernel
theorem dX12_menIn_15 : decode cX12_menIn 15 = .ok (.aload_n 0, 1) := by decide +kernel
theorem dX12_menIn_16 : decode cX12_menIn 16 = .ok (.aload_n 0, 1) := by decide +kernel
theorem dX12_menIn_17 : decode cX12_menIn 17 = .ok (.getfield 50, 3) := by decide +kernel
theorem dX12_menIn_20 : decode cX12_menIn 20 = .ok (.iload_n 3, 1) := by decide +kernel
theorem dX12_menIn_21 : decode cX12_menIn 21 = .ok (.iaload, 1) := by decide +kernel
theorem dX12_menIn_22 : decode cX12_menIn 22 = .ok (.invokevirtual 265, 3) := by decide +kernel
theorem dX12_menIn_25 : decode cX12_menIn 25 = .ok (.iload_n 1, 1) := by decide +kernel
theorem dX12_menIn_26 : decode cX12_menIn 26 = .ok (.if_icmp .ne 9, 3) := by decide +kernel
theorem dX12_menIn_29 : decode cX12_menIn 29 = .ok (.iconst 1, 1) := by decide +kernel
theorem dX12_menIn_30 : decode cX12_menIn 30 = .ok (.iload_n 3, 1) := by decide +kernel
theorem dX12_menIn_31 : decode cX12_menIn 31 = .ok (.ishl, 1) := by decide +kernel
theorem dX12_menIn_32 : decode cX12_menIn 32 = .ok (.goto 4, 3) := by decide +kernel
theorem dX12_menIn_35 : decode cX12_menIn 35 = .ok (.iconst 0, 1) := by decide +kernel
theorem dX12_menIn_36 : decode cX12_menIn 36 = .ok (.ior, 1) := by decide +kernel
theorem dX12_menIn_37 : decode cX12_menIn 37 = .ok (.istore_n 2, 1) := by decide +kernel
theorem dX12_menIn_38 : decode cX12_menIn 38 = .ok (.iinc 3 1, 3) := by decide +kernel
theorem dX12_menIn_41 : decode cX12_menIn 41 = .ok (.goto (-37), 3) := by decide +kernel
theorem dX12_menIn_44 : decode cX12_menIn 44 = .ok (.iload_n 2, 1) := by decide +kernel
theorem dX12_menIn_45 : decode cX12_menIn 45 = .ok (.ireturn, 1) := by decide +kernel
set_option maxRecDepth 20000 in
theorem ggX12_firstIn_X12_whoHears : GoodIn wsX12_firstIn wsX12_whoHears := goodIn_r _ [6, 1, 7, 8, 9, 5, 10, 11, 12, 13, 14, 15, 16, 17, 18, 19, 20, 21, 22, 23, 24, 25, 26, 27, 28, 33, 34, 35, 36, 37, 38, 39, 40, 41, 42, 43, 44, 45, 46, 47, 48, 49, 50, 51, 52, 53, 54, 55, 56, 57, 58, 59, 60, 61, 62, 63, 64, 65, 66, 67, 68, 69, 70, 71, 72, 73, 74, 75, 76, 77, 78, 79] rfl (by decide +kernel)
set_option maxRecDepth 20000 in
theorem gX12_firstIn_X12_whoHears : GoodIn wsX12_firstIn (wsV RX12 296 RX12 yX12_whoHears wsX12_whoHears) := goodIn_app (goodIn_of _ (by decide +kernel)) ggX12_firstIn_X12_whoHears
set_option maxRecDepth 20000 in
theorem ggX12_firstIn_X12_menIn : GoodIn wsX12_firstIn wsX12_menIn := goodIn_r _ [32, 1, 12, 18, 19, 20, 5, 21, 33, 34, 35, 36, 37, 38, 39, 40, 41, 42, 43, 44, 45, 46, 47, 48, 49, 50, 51, 52, 53, 54, 55, 56, 57, 58, 59, 60, 61, 62, 63, 64, 65, 66, 67, 68, 69, 70, 71, 72, 73, 74, 75, 76, 77, 78, 79] rfl (by decide +kernel)
set_option maxRecDepth 20000 in
theorem gX12_firstIn_X12_menIn : GoodIn wsX12_firstIn (wsV RX12 299 RX12 yX12_menIn wsX12_menIn) := goodIn_app (goodIn_of _ (by decide +kernel)) ggX12_firstIn_X12_menIn
theorem dX12_firstIn_0 : decode cX12_firstIn 0 = .ok (.iconst 0, 1) := by decide +kernel
theorem dX12_firstIn_1 : decode cX12_firstIn 1 = .ok (.istore_n 3, 1) := by decide +kernel
theorem dX12_firstIn_2 : decode cX12_firstIn 2 = .ok (.iload_n 3, 1) := by decide +kernel
theorem dX12_firstIn_3 : decode cX12_firstIn 3 = .ok (.aload_n 0, 1) := by decide +kernel
theorem dX12_firstIn_4 : decode cX12_firstIn 4 = .ok (.getfield 33, 3) := by decide +kernel
theorem dX12_firstIn_7 : decode cX12_firstIn 7 = .ok (.bipush 87, 2) := by decide +kernel
theorem dX12_firstIn_9 : decode cX12_firstIn 9 = .ok (.iload_n 1, 1) := by decide +kernel
theorem dX12_firstIn_10 : decode cX12_firstIn 10 = .ok (.iadd, 1) := by decide +kernel
theorem dX12_firstIn_11 : decode cX12_firstIn 11 = .ok (.iaload, 1) := by decide +kernel
theorem dX12_firstIn_12 : decode cX12_firstIn 12 = .ok (.if_icmp .ge 26, 3) := by decide +kernel
theorem dX12_firstIn_15 : decode cX12_firstIn 15 = .ok (.aload_n 0, 1) := by decide +kernel
theorem dX12_firstIn_16 : decode cX12_firstIn 16 = .ok (.iload_n 1, 1) := by decide +kernel
theorem dX12_firstIn_17 : decode cX12_firstIn 17 = .ok (.iload_n 3, 1) := by decide +kernel
theorem dX12_firstIn_18 : decode cX12_firstIn 18 = .ok (.invokevirtual 296, 3) := by decide +kernel
theorem dX12_firstIn_21 : decode cX12_firstIn 21 = .ok (.aload_n 0, 1) := by decide +kernel
theorem dX12_firstIn_22 : decode cX12_firstIn 22 = .ok (.iload_n 2, 1) := by decide +kernel
theorem dX12_firstIn_23 : decode cX12_firstIn 23 = .ok (.invokevirtual 299, 3) := by decide +kernel
theorem dX12_firstIn_26 : decode cX12_firstIn 26 = .ok (.iand, 1) := by decide +kernel
theorem dX12_firstIn_27 : decode cX12_firstIn 27 = .ok (.ifCond .eq 5, 3) := by decide +kernel
theorem dX12_firstIn_30 : decode cX12_firstIn 30 = .ok (.iload_n 3, 1) := by decide +kernel
theorem dX12_firstIn_31 : decode cX12_firstIn 31 = .ok (.ireturn, 1) := by decide +kernel
theorem dX12_firstIn_32 : decode cX12_firstIn 32 = .ok (.iinc 3 1, 3) := by decide +kernel
theorem dX12_firstIn_35 : decode cX12_firstIn 35 = .ok (.goto (-33), 3) := by decide +kernel
theorem dX12_firstIn_38 : decode cX12_firstIn 38 = .ok (.iconst (-1), 1) := by decide +kernel
theorem dX12_firstIn_39 : decode cX12_firstIn 39 = .ok (.ireturn, 1) := by decide +kernel
theorem dX12_weightOf_0 : decode cX12_weightOf 0 = .ok (.aload_n 0, 1) := by decide +kernel
theorem dX12_weightOf_1 : decode cX12_weightOf 1 = .ok (.getfield 33, 3) := by decide +kernel
theorem dX12_weightOf_4 : decode cX12_weightOf 4 = .ok (.bipush 55, 2) := by decide +kernel
theorem dX12_weightOf_6 : decode cX12_weightOf 6 = .ok (.iload_n 1, 1) := by decide +kernel
theorem dX12_weightOf_7 : decode cX12_weightOf 7 = .ok (.iadd, 1) := by decide +kernel
theorem dX12_weightOf_8 : decode cX12_weightOf 8 = .ok (.iaload, 1) := by decide +kernel
theorem dX12_weightOf_9 : decode cX12_weightOf 9 = .ok (.iconst 1, 1) := by decide +kernel
theorem dX12_weightOf_10 : decode cX12_weightOf 10 = .ok (.if_icmp .ne 7, 3) := by decide +kernel
theorem dX12_weightOf_13 : decode cX12_weightOf 13 = .ok (.iconst 1, 1) := by decide +kernel
theorem dX12_weightOf_14 : decode cX12_weightOf 14 = .ok (.goto 4, 3) := by decide +kernel
theorem dX12_weightOf_17 : decode cX12_weightOf 17 = .ok (.iconst 3, 1) := by decide +kernel
theorem dX12_weightOf_18 : decode cX12_weightOf 18 = .ok (.ireturn, 1) := by decide +kernel
set_option maxRecDepth 20000 in
theorem ggX12_gives_X12_bitOf : GoodIn wsX12_gives wsX12_bitOf := goodIn_r _ [7] rfl (by decide +kernel)
set_option maxRecDepth 20000 in
theorem gX12_gives_X12_bitOf : GoodIn wsX12_gives (va_wsS RX12 216 yX12_bitOf wsX12_bitOf) := goodIn_app (goodIn_of _ (by decide +kernel)) ggX12_gives_X12_bitOf
set_option maxRecDepth 20000 in
theorem ggX12_gives_X12_weightOf : GoodIn wsX12_gives wsX12_weightOf := goodIn_r _ [11, 1, 12, 13, 14, 15, 16, 17, 18, 19, 20, 21, 22, 23, 24, 25, 26, 27, 28, 29, 30, 31, 32, 33, 34, 35, 36, 37, 38, 39, 40, 41, 42, 43, 44, 45, 46, 47, 48, 49, 50, 51, 52, 53, 54, 55, 56, 57, 58] rfl (by decide +kernel)
set_option maxRecDepth 20000 in
theorem gX12_gives_X12_weightOf : GoodIn wsX12_gives (wsV RX12 302 RX12 yX12_weightOf wsX12_weightOf) := goodIn_app (goodIn_of _ (by decide +kernel)) ggX12_gives_X12_weightOf
theorem dX12_gives_0 : decode cX12_gives 0 = .ok (.iconst 0, 1) := by decide +kernel
theorem dX12_gives_1 : decode cX12_gives 1 = .ok (.istore 4, 2) := by decide +kernel
theorem dX12_gives_3 : decode cX12_gives 3 = .ok (.iconst 0, 1) := by decide +kernel
theorem dX12_gives_4 : decode cX12_gives 4 = .ok (.istore 5, 2) := by decide +kernel
theorem dX12_gives_6 : decode cX12_gives 6 = .ok (.iload 5, 2) := by decide +kernel
theorem dX12_gives_8 : decode cX12_gives 8 = .ok (.aload_n 0, 1) := by decide +kernel
theorem dX12_gives_9 : decode cX12_gives 9 = .ok (.getfield 33, 3) := by decide +kernel
theorem dX12_gives_12 : decode cX12_gives 12 = .ok (.iconst 1, 1) := by decide +kernel
theorem dX12_gives_13 : decode cX12_gives 13 = .ok (.iaload, 1) := by decide +kernel
theorem dX12_gives_14 : decode cX12_gives 14 = .ok (.if_icmp .ge 33, 3) := by decide +kernel
theorem dX12_gives_17 : decode cX12_gives 17 = .ok (.iload 4, 2) := by decide +kernel
theorem dX12_gives_19 : decode cX12_gives 19 = .ok (.iload_n 1, 1) := by decide +kernel
theorem dX12_gives_20 : decode cX12_gives 20 = .ok (.iload 5, 2) := by decide +kernel
theorem dX12_gives_22 : decode cX12_gives 22 = .ok (.invokestatic 216, 3) := by decide +kernel
theorem dX12_gives_25 : decode cX12_gives 25 = .ok (.ifCond .eq 12, 3) := by decide +kernel
theorem dX12_gives_28 : decode cX12_gives 28 = .ok (.aload_n 0, 1) := by decide +kernel
theorem dX12_gives_29 : decode cX12_gives 29 = .ok (.iload 5, 2) := by decide +kernel
theorem dX12_gives_31 : decode cX12_gives 31 = .ok (.invokevirtual 302, 3) := by decide +kernel
theorem dX12_gives_34 : decode cX12_gives 34 = .ok (.goto 4, 3) := by decide +kernel
theorem dX12_gives_37 : decode cX12_gives 37 = .ok (.iconst 0, 1) := by decide +kernel
theorem dX12_gives_38 : decode cX12_gives 38 = .ok (.iadd, 1) := by decide +kernel
theorem dX12_gives_39 : decode cX12_gives 39 = .ok (.istore 4, 2) := by decide +kernel
theorem dX12_gives_41 : decode cX12_gives 41 = .ok (.iinc 5 1, 3) := by decide +kernel
theorem dX12_gives_44 : decode cX12_gives 44 = .ok (.goto (-38), 3) := by decide +kernel
theorem dX12_gives_47 : decode cX12_gives 47 = .ok (.iconst 0, 1) := by decide +kernel
theorem dX12_gives_48 : decode cX12_gives 48 = .ok (.istore 5, 2) := by decide +kernel
theorem dX12_gives_50 : decode cX12_gives 50 = .ok (.iload 5, 2) := by decide +kernel
theorem dX12_gives_52 : decode cX12_gives 52 = .ok (.aload_n 0, 1) := by decide +kernel
theorem dX12_gives_53 : decode cX12_gives 53 = .ok (.getfield 33, 3) := by decide +kernel
theorem dX12_gives_56 : decode cX12_gives 56 = .ok (.iconst 1, 1) := by decide +kernel
theorem dX12_gives_57 : decode cX12_gives 57 = .ok (.iaload, 1) := by decide +kernel
theorem dX12_gives_58 : decode cX12_gives 58 = .ok (.if_icmp .ge 48, 3) := by decide +kernel
theorem dX12_gives_61 : decode cX12_gives 61 = .ok (.iload_n 1, 1) := by decide +kernel
theorem dX12_gives_62 : decode cX12_gives 62 = .ok (.iload 5, 2) := by decide +kernel
theorem dX12_gives_64 : decode cX12_gives 64 = .ok (.invokestatic 216, 3) := by decide +kernel
theorem dX12_gives_67 : decode cX12_gives 67 = .ok (.ifCond .eq 33, 3) := by decide +kernel
theorem dX12_gives_70 : decode cX12_gives 70 = .ok (.aload_n 0, 1) := by decide +kernel
theorem dX12_gives_71 : decode cX12_gives 71 = .ok (.getfield 59, 3) := by decide +kernel
theorem dX12_gives_74 : decode cX12_gives 74 = .ok (.iload 5, 2) := by decide +kernel
theorem dX12_gives_76 : decode cX12_gives 76 = .ok (.iload_n 2, 1) := by decide +kernel
theorem dX12_gives_77 : decode cX12_gives 77 = .ok (.bipush 8, 2) := by decide +kernel
theorem dX12_gives_79 : decode cX12_gives 79 = .ok (.if_icmp .ne 9, 3) := by decide +kernel
theorem dX12_gives_82 : decode cX12_gives 82 = .ok (.iload_n 3, 1) := by decide +kernel
theorem dX12_gives_83 : decode cX12_gives 83 = .ok (.iconst 2, 1) := by decide +kernel
theorem dX12_gives_84 : decode cX12_gives 84 = .ok (.idiv, 1) := by decide +kernel
theorem dX12_gives_85 : decode cX12_gives 85 = .ok (.goto 4, 3) := by decide +kernel
theorem dX12_gives_88 : decode cX12_gives 88 = .ok (.iload_n 3, 1) := by decide +kernel
theorem dX12_gives_89 : decode cX12_gives 89 = .ok (.aload_n 0, 1) := by decide +kernel
theorem dX12_gives_90 : decode cX12_gives 90 = .ok (.iload 5, 2) := by decide +kernel
theorem dX12_gives_92 : decode cX12_gives 92 = .ok (.invokevirtual 302, 3) := by decide +kernel
theorem dX12_gives_95 : decode cX12_gives 95 = .ok (.imul, 1) := by decide +kernel
theorem dX12_gives_96 : decode cX12_gives 96 = .ok (.iload 4, 2) := by decide +kernel
theorem dX12_gives_98 : decode cX12_gives 98 = .ok (.idiv, 1) := by decide +kernel
theorem dX12_gives_99 : decode cX12_gives 99 = .ok (.iastore, 1) := by decide +kernel
theorem dX12_gives_100 : decode cX12_gives 100 = .ok (.iinc 5 1, 3) := by decide +kernel
theorem dX12_gives_103 : decode cX12_gives 103 = .ok (.goto (-53), 3) := by decide +kernel
theorem dX12_gives_106 : decode cX12_gives 106 = .ok (.aload_n 0, 1) := by decide +kernel
theorem dX12_gives_107 : decode cX12_gives 107 = .ok (.dup, 1) := by decide +kernel
theorem dX12_gives_108 : decode cX12_gives 108 = .ok (.getfield 305, 3) := by decide +kernel
theorem dX12_gives_111 : decode cX12_gives 111 = .ok (.iload_n 1, 1) := by decide +kernel
theorem dX12_gives_112 : decode cX12_gives 112 = .ok (.ior, 1) := by decide +kernel
theorem dX12_gives_113 : decode cX12_gives 113 = .ok (.putfield 305, 3) := by decide +kernel
theorem dX12_gives_116 : decode cX12_gives 116 = .ok (.return_, 1) := by decide +kernel
theorem dX12_sharesNone_0 : decode cX12_sharesNone 0 = .ok (.aload_n 0, 1) := by decide +kernel
theorem dX12_sharesNone_1 : decode cX12_sharesNone 1 = .ok (.iconst 0, 1) := by decide +kernel
theorem dX12_sharesNone_2 : decode cX12_sharesNone 2 = .ok (.putfield 305, 3) := by decide +kernel
theorem dX12_sharesNone_5 : decode cX12_sharesNone 5 = .ok (.iconst 0, 1) := by decide +kernel
theorem dX12_sharesNone_6 : decode cX12_sharesNone 6 = .ok (.istore_n 1, 1) := by decide +kernel
theorem dX12_sharesNone_7 : decode cX12_sharesNone 7 = .ok (.iload_n 1, 1) := by decide +kernel
theorem dX12_sharesNone_8 : decode cX12_sharesNone 8 = .ok (.bipush 8, 2) := by decide +kernel
theorem dX12_sharesNone_10 : decode cX12_sharesNone 10 = .ok (.if_icmp .ge 16, 3) := by decide +kernel
theorem dX12_sharesNone_13 : decode cX12_sharesNone 13 = .ok (.aload_n 0, 1) := by decide +kernel
theorem dX12_sharesNone_14 : decode cX12_sharesNone 14 = .ok (.getfield 59, 3) := by decide +kernel
theorem dX12_sharesNone_17 : decode cX12_sharesNone 17 = .ok (.iload_n 1, 1) := by decide +kernel
theorem dX12_sharesNone_18 : decode cX12_sharesNone 18 = .ok (.iconst 0, 1) := by decide +kernel
theorem dX12_sharesNone_19 : decode cX12_sharesNone 19 = .ok (.iastore, 1) := by decide +kernel
theorem dX12_sharesNone_20 : decode cX12_sharesNone 20 = .ok (.iinc 1 1, 3) := by decide +kernel
theorem dX12_sharesNone_23 : decode cX12_sharesNone 23 = .ok (.goto (-16), 3) := by decide +kernel
theorem dX12_sharesNone_26 : decode cX12_sharesNone 26 = .ok (.return_, 1) := by decide +kernel
set_option maxRecDepth 20000 in
theorem ggX12_sharesBy_X12_sharesNone : GoodIn wsX12_sharesBy wsX12_sharesNone := goodIn_r _ [5, 6, 7, 54, 55, 56, 57, 58, 59, 60, 61, 62, 63, 64, 65, 66, 67, 68, 69, 70, 71, 72, 73, 74, 75, 76, 77, 78, 79, 80, 81, 82, 83, 84, 85, 86, 87, 88, 89, 90, 91, 92, 93, 94, 95, 96, 97, 98, 99, 100] rfl (by decide +kernel)
set_option maxRecDepth 20000 in
theorem gX12_sharesBy_X12_sharesNone : GoodIn wsX12_sharesBy (wsV RX12 308 RX12 yX12_sharesNone wsX12_sharesNone) := goodIn_app (goodIn_of _ (by decide +kernel)) ggX12_sharesBy_X12_sharesNone
set_option maxRecDepth 20000 in
theorem ggX12_sharesBy_X12_firstIn : GoodIn wsX12_sharesBy wsX12_firstIn := goodIn_r _ [11, 12, 13, 14, 15, 4, 16, 17, 18, 19, 20, 21, 22, 23, 24, 25, 26, 27, 28, 29, 30, 31, 32, 33, 34, 35, 36, 37, 38, 39, 40, 41, 42, 54, 55, 56, 57, 58, 59, 60, 61, 62, 63, 64, 65, 66, 67, 68, 69, 70, 71, 72, 73, 74, 75, 76, 77, 78, 79, 80, 81, 82, 83, 84, 85, 86, 87, 88, 89, 90, 91, 92, 93, 94, 95, 96, 97, 98, 99, 100] rfl (by decide +kernel)
set_option maxRecDepth 20000 in
theorem gX12_sharesBy_X12_firstIn : GoodIn wsX12_sharesBy (wsV RX12 311 RX12 yX12_firstIn wsX12_firstIn) := goodIn_app (goodIn_of _ (by decide +kernel)) ggX12_sharesBy_X12_firstIn
set_option maxRecDepth 20000 in
theorem ggX12_sharesBy_X12_whoHears : GoodIn wsX12_sharesBy wsX12_whoHears := goodIn_r _ [16, 12, 17, 18, 19, 4, 20, 21, 22, 23, 24, 25, 26, 27, 28, 29, 30, 31, 32, 33, 34, 35, 36, 37, 38, 54, 55, 56, 57, 58, 59, 60, 61, 62, 63, 64, 65, 66, 67, 68, 69, 70, 71, 72, 73, 74, 75, 76, 77, 78, 79, 80, 81, 82, 83, 84, 85, 86, 87, 88, 89, 90, 91, 92, 93, 94, 95, 96, 97, 98, 99, 100] rfl (by decide +kernel)
set_option maxRecDepth 20000 in
theorem gX12_sharesBy_X12_whoHears : GoodIn wsX12_sharesBy (wsV RX12 296 RX12 yX12_whoHears wsX12_whoHears) := goodIn_app (goodIn_of _ (by decide +kernel)) ggX12_sharesBy_X12_whoHears
set_option maxRecDepth 20000 in
theorem ggX12_sharesBy_X12_menIn : GoodIn wsX12_sharesBy wsX12_menIn := goodIn_r _ [42, 12, 22, 28, 29, 30, 4, 31, 54, 55, 56, 57, 58, 59, 60, 61, 62, 63, 64, 65, 66, 67, 68, 69, 70, 71, 72, 73, 74, 75, 76, 77, 78, 79, 80, 81, 82, 83, 84, 85, 86, 87, 88, 89, 90, 91, 92, 93, 94, 95, 96, 97, 98, 99, 100] rfl (by decide +kernel)
set_option maxRecDepth 20000 in
theorem gX12_sharesBy_X12_menIn : GoodIn wsX12_sharesBy (wsV RX12 299 RX12 yX12_menIn wsX12_menIn) := goodIn_app (goodIn_of _ (by decide +kernel)) ggX12_sharesBy_X12_menIn
