theorem dX12_draws_22 : decode cX12_draws 22 = .ok (.if_icmp .ge 145, 3) := by decide +kernel
theorem dX12_draws_25 : decode cX12_draws 25 = .ok (.iconst 0, 1) := by decide +kernel
theorem dX12_draws_26 : decode cX12_draws 26 = .ok (.istore 4, 2) := by decide +kernel
theorem dX12_draws_28 : decode cX12_draws 28 = .ok (.iload 4, 2) := by decide +kernel
theorem dX12_draws_30 : decode cX12_draws 30 = .ok (.aload_n 0, 1) := by decide +kernel
theorem dX12_draws_31 : decode cX12_draws 31 = .ok (.getfield 33, 3) := by decide +kernel
theorem dX12_draws_34 : decode cX12_draws 34 = .ok (.iconst 1, 1) := by decide +kernel
theorem dX12_draws_35 : decode cX12_draws 35 = .ok (.iaload, 1) := by decide +kernel
theorem dX12_draws_36 : decode cX12_draws 36 = .ok (.if_icmp .ge 56, 3) := by decide +kernel
theorem dX12_draws_39 : decode cX12_draws 39 = .ok (.aload_n 0, 1) := by decide +kernel
theorem dX12_draws_40 : decode cX12_draws 40 = .ok (.iconst 4, 1) := by decide +kernel
theorem dX12_draws_41 : decode cX12_draws 41 = .ok (.invokevirtual 404, 3) := by decide +kernel
theorem dX12_draws_44 : decode cX12_draws 44 = .ok (.ifCond .le 6, 3) := by decide +kernel
theorem dX12_draws_47 : decode cX12_draws 47 = .ok (.goto 39, 3) := by decide +kernel
theorem dX12_draws_50 : decode cX12_draws 50 = .ok (.aload_n 0, 1) := by decide +kernel
theorem dX12_draws_51 : decode cX12_draws 51 = .ok (.aload_n 0, 1) := by decide +kernel
theorem dX12_draws_52 : decode cX12_draws 52 = .ok (.getfield 33, 3) := by decide +kernel
theorem dX12_draws_55 : decode cX12_draws 55 = .ok (.iconst 0, 1) := by decide +kernel
theorem dX12_draws_56 : decode cX12_draws 56 = .ok (.iaload, 1) := by decide +kernel
theorem dX12_draws_57 : decode cX12_draws 57 = .ok (.invokevirtual 404, 3) := by decide +kernel
theorem dX12_draws_60 : decode cX12_draws 60 = .ok (.istore 5, 2) := by decide +kernel
theorem dX12_draws_62 : decode cX12_draws 62 = .ok (.aload_n 0, 1) := by decide +kernel
theorem dX12_draws_63 : decode cX12_draws 63 = .ok (.iload 4, 2) := by decide +kernel
theorem dX12_draws_65 : decode cX12_draws 65 = .ok (.iload 5, 2) := by decide +kernel
theorem dX12_draws_67 : decode cX12_draws 67 = .ok (.invokevirtual 342, 3) := by decide +kernel
theorem dX12_draws_70 : decode cX12_draws 70 = .ok (.ifCond .ne 16, 3) := by decide +kernel
theorem dX12_draws_73 : decode cX12_draws 73 = .ok (.aload_n 0, 1) := by decide +kernel
theorem dX12_draws_74 : decode cX12_draws 74 = .ok (.getfield 33, 3) := by decide +kernel
theorem dX12_draws_77 : decode cX12_draws 77 = .ok (.sipush 214, 3) := by decide +kernel
theorem dX12_draws_80 : decode cX12_draws 80 = .ok (.iload 4, 2) := by decide +kernel
theorem dX12_draws_82 : decode cX12_draws 82 = .ok (.iadd, 1) := by decide +kernel
theorem dX12_draws_83 : decode cX12_draws 83 = .ok (.iload 5, 2) := by decide +kernel
theorem dX12_draws_85 : decode cX12_draws 85 = .ok (.iastore, 1) := by decide +kernel
theorem dX12_draws_86 : decode cX12_draws 86 = .ok (.iinc 4 1, 3) := by decide +kernel
theorem dX12_draws_89 : decode cX12_draws 89 = .ok (.goto (-61), 3) := by decide +kernel
theorem dX12_draws_92 : decode cX12_draws 92 = .ok (.aload_n 0, 1) := by decide +kernel
theorem dX12_draws_93 : decode cX12_draws 93 = .ok (.aload_n 0, 1) := by decide +kernel
theorem dX12_draws_94 : decode cX12_draws 94 = .ok (.invokevirtual 372, 3) := by decide +kernel
theorem dX12_draws_97 : decode cX12_draws 97 = .ok (.invokevirtual 404, 3) := by decide +kernel
theorem dX12_draws_100 : decode cX12_draws 100 = .ok (.istore 4, 2) := by decide +kernel
theorem dX12_draws_102 : decode cX12_draws 102 = .ok (.iconst 0, 1) := by decide +kernel
theorem dX12_draws_103 : decode cX12_draws 103 = .ok (.istore 5, 2) := by decide +kernel
theorem dX12_draws_105 : decode cX12_draws 105 = .ok (.iload 4, 2) := by decide +kernel
theorem dX12_draws_107 : decode cX12_draws 107 = .ok (.aload_n 0, 1) := by decide +kernel
theorem dX12_draws_108 : decode cX12_draws 108 = .ok (.getfield 33, 3) := by decide +kernel
theorem dX12_draws_111 : decode cX12_draws 111 = .ok (.bipush 79, 2) := by decide +kernel
theorem dX12_draws_113 : decode cX12_draws 113 = .ok (.iload 5, 2) := by decide +kernel
theorem dX12_draws_115 : decode cX12_draws 115 = .ok (.iadd, 1) := by decide +kernel
theorem dX12_draws_116 : decode cX12_draws 116 = .ok (.iaload, 1) := by decide +kernel
theorem dX12_draws_117 : decode cX12_draws 117 = .ok (.if_icmp .lt 24, 3) := by decide +kernel
theorem dX12_draws_120 : decode cX12_draws 120 = .ok (.iload 4, 2) := by decide +kernel
theorem dX12_draws_122 : decode cX12_draws 122 = .ok (.aload_n 0, 1) := by decide +kernel
theorem dX12_draws_123 : decode cX12_draws 123 = .ok (.getfield 33, 3) := by decide +kernel
theorem dX12_draws_126 : decode cX12_draws 126 = .ok (.bipush 79, 2) := by decide +kernel
theorem dX12_draws_128 : decode cX12_draws 128 = .ok (.iload 5, 2) := by decide +kernel
theorem dX12_draws_130 : decode cX12_draws 130 = .ok (.iadd, 1) := by decide +kernel
theorem dX12_draws_131 : decode cX12_draws 131 = .ok (.iaload, 1) := by decide +kernel
theorem dX12_draws_132 : decode cX12_draws 132 = .ok (.isub, 1) := by decide +kernel
theorem dX12_draws_133 : decode cX12_draws 133 = .ok (.istore 4, 2) := by decide +kernel
theorem dX12_draws_135 : decode cX12_draws 135 = .ok (.iinc 5 1, 3) := by decide +kernel
theorem dX12_draws_138 : decode cX12_draws 138 = .ok (.goto (-33), 3) := by decide +kernel
theorem dX12_draws_141 : decode cX12_draws 141 = .ok (.aload_n 0, 1) := by decide +kernel
theorem dX12_draws_142 : decode cX12_draws 142 = .ok (.invokevirtual 318, 3) := by decide +kernel
theorem dX12_draws_145 : decode cX12_draws 145 = .ok (.aload_n 0, 1) := by decide +kernel
theorem dX12_draws_146 : decode cX12_draws 146 = .ok (.iload 5, 2) := by decide +kernel
theorem dX12_draws_148 : decode cX12_draws 148 = .ok (.aload_n 0, 1) := by decide +kernel
theorem dX12_draws_149 : decode cX12_draws 149 = .ok (.getfield 33, 3) := by decide +kernel
theorem dX12_draws_152 : decode cX12_draws 152 = .ok (.iconst 4, 1) := by decide +kernel
theorem dX12_draws_153 : decode cX12_draws 153 = .ok (.iaload, 1) := by decide +kernel
theorem dX12_draws_154 : decode cX12_draws 154 = .ok (.invokevirtual 366, 3) := by decide +kernel
theorem dX12_draws_157 : decode cX12_draws 157 = .ok (.aload_n 0, 1) := by decide +kernel
theorem dX12_draws_158 : decode cX12_draws 158 = .ok (.invokevirtual 363, 3) := by decide +kernel
theorem dX12_draws_161 : decode cX12_draws 161 = .ok (.iinc 3 1, 3) := by decide +kernel
theorem dX12_draws_164 : decode cX12_draws 164 = .ok (.goto (-157), 3) := by decide +kernel
theorem dX12_draws_167 : decode cX12_draws 167 = .ok (.iload_n 3, 1) := by decide +kernel
theorem dX12_draws_168 : decode cX12_draws 168 = .ok (.ireturn, 1) := by decide +kernel
set_option maxRecDepth 20000 in
theorem ggX12_drawn_X12_isIn : GoodIn wsX12_drawn wsX12_isIn := goodIn_r _ [6] rfl (by decide +kernel)
set_option maxRecDepth 20000 in
theorem gX12_drawn_X12_isIn : GoodIn wsX12_drawn (va_wsS RX12 191 yX12_isIn wsX12_isIn) := goodIn_app (goodIn_of _ (by decide +kernel)) ggX12_drawn_X12_isIn
set_option maxRecDepth 20000 in
theorem ggX12_drawn_X12_keep : GoodIn wsX12_drawn wsX12_keep := goodIn_r _ [10, 11, 12, 2, 106, 107, 108, 109, 110, 111, 112, 113, 114, 115, 116, 117, 118, 119, 120, 121, 122, 123, 124, 125, 126, 127, 128, 129, 130, 131, 132, 133, 134, 135, 136, 137, 138, 139, 140, 141, 142, 143, 144, 145, 146, 147, 148, 149, 150, 151, 152] rfl (by decide +kernel)
set_option maxRecDepth 20000 in
theorem gX12_drawn_X12_keep : GoodIn wsX12_drawn (wsV RX12 336 RX12 yX12_keep wsX12_keep) := goodIn_app (goodIn_of _ (by decide +kernel)) ggX12_drawn_X12_keep
set_option maxRecDepth 20000 in
theorem ggX12_drawn_X12_draws : GoodIn wsX12_drawn wsX12_draws := goodIn_r _ [16, 17, 2, 18, 19, 20, 5, 21, 22, 23, 24, 25, 26, 27, 28, 29, 30, 31, 32, 33, 34, 35, 36, 37, 38, 39, 40, 41, 42, 43, 44, 45, 46, 47, 48, 49, 50, 51, 52, 53, 54, 55, 56, 57, 58, 59, 60, 61, 62, 63, 64, 65, 66, 67, 68, 69, 70, 71, 72, 73, 74, 75, 76, 77, 78, 79, 80, 81, 82, 83, 84, 85, 86, 87, 88, 89, 90, 91, 92, 93, 94, 95, 96, 97, 98, 99, 100, 101, 102, 103, 104, 105, 106, 107, 108, 109, 110, 111, 112, 113, 114, 115, 116, 117, 118, 119, 120, 121, 122, 123, 124, 125, 126, 127, 128, 129, 130, 131, 132, 133, 134, 135, 136, 137, 138, 139, 140, 141, 142, 143, 144, 145, 146, 147, 148, 149, 150, 151, 152] rfl (by decide +kernel)
set_option maxRecDepth 20000 in
theorem gX12_drawn_X12_draws : GoodIn wsX12_drawn (wsV RX12 407 RX12 yX12_draws wsX12_draws) := goodIn_app (goodIn_of _ (by decide +kernel)) ggX12_drawn_X12_draws
theorem dX12_drawn_0 : decode cX12_drawn 0 = .ok (.aload_n 0, 1) := by decide +kernel
theorem dX12_drawn_1 : decode cX12_drawn 1 = .ok (.iconst 0, 1) := by decide +kernel
theorem dX12_drawn_2 : decode cX12_drawn 2 = .ok (.putfield 1, 3) := by decide +kernel
theorem dX12_drawn_5 : decode cX12_drawn 5 = .ok (.iload_n 1, 1) := by decide +kernel
theorem dX12_drawn_6 : decode cX12_drawn 6 = .ok (.iconst 1, 1) := by decide +kernel
theorem dX12_drawn_7 : decode cX12_drawn 7 = .ok (.bipush 40, 2) := by decide +kernel
theorem dX12_drawn_9 : decode cX12_drawn 9 = .ok (.invokestatic 191, 3) := by decide +kernel
theorem dX12_drawn_12 : decode cX12_drawn 12 = .ok (.ifCond .eq 21, 3) := by decide +kernel
theorem dX12_drawn_15 : decode cX12_drawn 15 = .ok (.aload_n 0, 1) := by decide +kernel
theorem dX12_drawn_16 : decode cX12_drawn 16 = .ok (.getfield 33, 3) := by decide +kernel
theorem dX12_drawn_19 : decode cX12_drawn 19 = .ok (.iconst 0, 1) := by decide +kernel
theorem dX12_drawn_20 : decode cX12_drawn 20 = .ok (.iaload, 1) := by decide +kernel
theorem dX12_drawn_21 : decode cX12_drawn 21 = .ok (.ifCond .eq 12, 3) := by decide +kernel
theorem dX12_drawn_24 : decode cX12_drawn 24 = .ok (.aload_n 0, 1) := by decide +kernel
theorem dX12_drawn_25 : decode cX12_drawn 25 = .ok (.getfield 33, 3) := by decide +kernel
theorem dX12_drawn_28 : decode cX12_drawn 28 = .ok (.iconst 2, 1) := by decide +kernel
theorem dX12_drawn_29 : decode cX12_drawn 29 = .ok (.iaload, 1) := by decide +kernel
theorem dX12_drawn_30 : decode cX12_drawn 30 = .ok (.ifCond .ne 5, 3) := by decide +kernel
theorem dX12_drawn_33 : decode cX12_drawn 33 = .ok (.iconst (-1), 1) := by decide +kernel
theorem dX12_drawn_34 : decode cX12_drawn 34 = .ok (.ireturn, 1) := by decide +kernel
theorem dX12_drawn_35 : decode cX12_drawn 35 = .ok (.aload_n 0, 1) := by decide +kernel
theorem dX12_drawn_36 : decode cX12_drawn 36 = .ok (.getfield 33, 3) := by decide +kernel
theorem dX12_drawn_39 : decode cX12_drawn 39 = .ok (.sipush 211, 3) := by decide +kernel
theorem dX12_drawn_42 : decode cX12_drawn 42 = .ok (.iaload, 1) := by decide +kernel
theorem dX12_drawn_43 : decode cX12_drawn 43 = .ok (.bipush 99, 2) := by decide +kernel
theorem dX12_drawn_45 : decode cX12_drawn 45 = .ok (.if_icmp .ge 7, 3) := by decide +kernel
theorem dX12_drawn_48 : decode cX12_drawn 48 = .ok (.aload_n 0, 1) := by decide +kernel
theorem dX12_drawn_49 : decode cX12_drawn 49 = .ok (.invokevirtual 336, 3) := by decide +kernel
theorem dX12_drawn_52 : decode cX12_drawn 52 = .ok (.aload_n 0, 1) := by decide +kernel
theorem dX12_drawn_53 : decode cX12_drawn 53 = .ok (.iload_n 1, 1) := by decide +kernel
theorem dX12_drawn_54 : decode cX12_drawn 54 = .ok (.iload_n 2, 1) := by decide +kernel
theorem dX12_drawn_55 : decode cX12_drawn 55 = .ok (.invokevirtual 407, 3) := by decide +kernel
theorem dX12_drawn_58 : decode cX12_drawn 58 = .ok (.ireturn, 1) := by decide +kernel
set_option maxRecDepth 20000 in
theorem ggX12_odds_X12_isMan : GoodIn wsX12_odds wsX12_isMan := goodIn_r _ [7, 2, 8, 9, 6, 10, 113, 114, 115, 116, 117, 118, 119, 120, 121, 122, 123, 124, 125, 126, 127, 128, 129, 130, 131, 132, 133, 134, 135, 136, 137, 138, 139, 140, 141, 142, 143, 144, 145, 146, 147, 148, 149, 150, 151, 152, 153, 154, 155, 156, 157, 158, 159] rfl (by decide +kernel)
set_option maxRecDepth 20000 in
theorem gX12_odds_X12_isMan : GoodIn wsX12_odds (wsV RX12 269 RX12 yX12_isMan wsX12_isMan) := goodIn_app (goodIn_of _ (by decide +kernel)) ggX12_odds_X12_isMan
set_option maxRecDepth 20000 in
theorem ggX12_odds_X12_isIn : GoodIn wsX12_odds wsX12_isIn := goodIn_r _ [10] rfl (by decide +kernel)
set_option maxRecDepth 20000 in
theorem gX12_odds_X12_isIn : GoodIn wsX12_odds (va_wsS RX12 191 yX12_isIn wsX12_isIn) := goodIn_app (goodIn_of _ (by decide +kernel)) ggX12_odds_X12_isIn
set_option maxRecDepth 20000 in
theorem ggX12_odds_X12_tries : GoodIn wsX12_odds wsX12_tries := goodIn_r _ [14, 15, 2, 113, 114, 115, 116, 117, 118, 119, 120, 121, 122, 123, 124, 125, 126, 127, 128, 129, 130, 131, 132, 133, 134, 135, 136, 137, 138, 139, 140, 141, 142, 143, 144, 145, 146, 147, 148, 149, 150, 151, 152, 153, 154, 155, 156, 157, 158, 159] rfl (by decide +kernel)
set_option maxRecDepth 20000 in
theorem gX12_odds_X12_tries : GoodIn wsX12_odds (wsV RX12 410 RX12 yX12_tries wsX12_tries) := goodIn_app (goodIn_of _ (by decide +kernel)) ggX12_odds_X12_tries
set_option maxRecDepth 20000 in
theorem ggX12_odds_X12_draws : GoodIn wsX12_odds wsX12_draws := goodIn_r _ [19, 20, 2, 21, 22, 23, 6, 24, 25, 26, 27, 28, 29, 30, 31, 32, 33, 34, 35, 36, 37, 38, 39, 40, 41, 42, 43, 44, 45, 46, 47, 48, 49, 50, 51, 52, 53, 54, 55, 56, 57, 58, 59, 60, 61, 62, 63, 64, 65, 66, 67, 68, 69, 70, 71, 72, 73, 74, 75, 76, 77, 78, 79, 80, 81, 82, 83, 84, 85, 86, 87, 88, 89, 90, 91, 92, 93, 94, 95, 96, 97, 98, 99, 100, 101, 102, 103, 104, 105, 106, 107, 108, 113, 114, 115, 116, 117, 118, 119, 120, 121, 122, 123, 124, 125, 126, 127, 128, 129, 130, 131, 132, 133, 134, 135, 136, 137, 138, 139, 140, 141, 142, 143, 144, 145, 146, 147, 148, 149, 150, 151, 152, 153, 154, 155, 156, 157, 158, 159] rfl (by decide +kernel)
set_option maxRecDepth 20000 in
theorem gX12_odds_X12_draws : GoodIn wsX12_odds (wsV RX12 407 RX12 yX12_draws wsX12_draws) := goodIn_app (goodIn_of _ (by decide +kernel)) ggX12_odds_X12_draws
set_option maxRecDepth 20000 in
theorem ggX12_odds_X12_back : GoodIn wsX12_odds wsX12_back := goodIn_r _ [112, 2, 15, 113, 114, 115, 116, 117, 118, 119, 120, 121, 122, 123, 124, 125, 126, 127, 128, 129, 130, 131, 132, 133, 134, 135, 136, 137, 138, 139, 140, 141, 142, 143, 144, 145, 146, 147, 148, 149, 150, 151, 152, 153, 154, 155, 156, 157, 158, 159] rfl (by decide +kernel)
set_option maxRecDepth 20000 in
theorem gX12_odds_X12_back : GoodIn wsX12_odds (wsV RX12 413 RX12 yX12_back wsX12_back) := goodIn_app (goodIn_of _ (by decide +kernel)) ggX12_odds_X12_back
theorem dX12_odds_0 : decode cX12_odds 0 = .ok (.aload_n 0, 1) := by decide +kernel
theorem dX12_odds_1 : decode cX12_odds 1 = .ok (.iconst 0, 1) := by decide +kernel
theorem dX12_odds_2 : decode cX12_odds 2 = .ok (.putfield 1, 3) := by decide +kernel
theorem dX12_odds_5 : decode cX12_odds 5 = .ok (.aload_n 0, 1) := by decide +kernel
theorem dX12_odds_6 : decode cX12_odds 6 = .ok (.iload_n 1, 1) := by decide +kernel
theorem dX12_odds_7 : decode cX12_odds 7 = .ok (.invokevirtual 269, 3) := by decide +kernel
theorem dX12_odds_10 : decode cX12_odds 10 = .ok (.ifCond .eq 33, 3) := by decide +kernel
theorem dX12_odds_13 : decode cX12_odds 13 = .ok (.iload_n 2, 1) := by decide +kernel
theorem dX12_odds_14 : decode cX12_odds 14 = .ok (.iconst 0, 1) := by decide +kernel
theorem dX12_odds_15 : decode cX12_odds 15 = .ok (.sipush 999, 3) := by decide +kernel
theorem dX12_odds_18 : decode cX12_odds 18 = .ok (.invokestatic 191, 3) := by decide +kernel
theorem dX12_odds_21 : decode cX12_odds 21 = .ok (.ifCond .eq 22, 3) := by decide +kernel
theorem dX12_odds_24 : decode cX12_odds 24 = .ok (.iload_n 3, 1) := by decide +kernel
theorem dX12_odds_25 : decode cX12_odds 25 = .ok (.iconst 1, 1) := by decide +kernel
theorem dX12_odds_26 : decode cX12_odds 26 = .ok (.bipush 30, 2) := by decide +kernel
theorem dX12_odds_28 : decode cX12_odds 28 = .ok (.invokestatic 191, 3) := by decide +kernel
theorem dX12_odds_31 : decode cX12_odds 31 = .ok (.ifCond .eq 12, 3) := by decide +kernel
theorem dX12_odds_34 : decode cX12_odds 34 = .ok (.aload_n 0, 1) := by decide +kernel
theorem dX12_odds_35 : decode cX12_odds 35 = .ok (.getfield 33, 3) := by decide +kernel
theorem dX12_odds_38 : decode cX12_odds 38 = .ok (.iconst 2, 1) := by decide +kernel
theorem dX12_odds_39 : decode cX12_odds 39 = .ok (.iaload, 1) := by decide +kernel
theorem dX12_odds_40 : decode cX12_odds 40 = .ok (.ifCond .ne 5, 3) := by decide +kernel
theorem dX12_odds_43 : decode cX12_odds 43 = .ok (.iconst (-1), 1) := by decide +kernel
theorem dX12_odds_44 : decode cX12_odds 44 = .ok (.ireturn, 1) := by decide +kernel
theorem dX12_odds_45 : decode cX12_odds 45 = .ok (.aload_n 0, 1) := by decide +kernel
theorem dX12_odds_46 : decode cX12_odds 46 = .ok (.invokevirtual 410, 3) := by decide +kernel
theorem dX12_odds_49 : decode cX12_odds 49 = .ok (.iconst 0, 1) := by decide +kernel
theorem dX12_odds_50 : decode cX12_odds 50 = .ok (.istore 5, 2) := by decide +kernel
theorem dX12_odds_52 : decode cX12_odds 52 = .ok (.iconst 0, 1) := by decide +kernel
theorem dX12_odds_53 : decode cX12_odds 53 = .ok (.istore 6, 2) := by decide +kernel
theorem dX12_odds_55 : decode cX12_odds 55 = .ok (.iload 6, 2) := by decide +kernel
theorem dX12_odds_57 : decode cX12_odds 57 = .ok (.iload_n 3, 1) := by decide +kernel
theorem dX12_odds_58 : decode cX12_odds 58 = .ok (.if_icmp .ge 63, 3) := by decide +kernel
theorem dX12_odds_61 : decode cX12_odds 61 = .ok (.aload_n 0, 1) := by decide +kernel
theorem dX12_odds_62 : decode cX12_odds 62 = .ok (.getfield 33, 3) := by decide +kernel
theorem dX12_odds_65 : decode cX12_odds 65 = .ok (.sipush 238, 3) := by decide +kernel
theorem dX12_odds_68 : decode cX12_odds 68 = .ok (.iload_n 1, 1) := by decide +kernel
theorem dX12_odds_69 : decode cX12_odds 69 = .ok (.iadd, 1) := by decide +kernel
theorem dX12_odds_70 : decode cX12_odds 70 = .ok (.iaload, 1) := by decide +kernel
theorem dX12_odds_71 : decode cX12_odds 71 = .ok (.istore 7, 2) := by decide +kernel
theorem dX12_odds_73 : decode cX12_odds 73 = .ok (.aload_n 0, 1) := by decide +kernel
theorem dX12_odds_74 : decode cX12_odds 74 = .ok (.iconst 5, 1) := by decide +kernel
theorem dX12_odds_75 : decode cX12_odds 75 = .ok (.iload 4, 2) := by decide +kernel
theorem dX12_odds_77 : decode cX12_odds 77 = .ok (.iload 6, 2) := by decide +kernel
theorem dX12_odds_79 : decode cX12_odds 79 = .ok (.iadd, 1) := by decide +kernel
theorem dX12_odds_80 : decode cX12_odds 80 = .ok (.invokevirtual 407, 3) := by decide +kernel
theorem dX12_odds_83 : decode cX12_odds 83 = .ok (.pop, 1) := by decide +kernel
theorem dX12_odds_84 : decode cX12_odds 84 = .ok (.iload 5, 2) := by decide +kernel
theorem dX12_odds_86 : decode cX12_odds 86 = .ok (.aload_n 0, 1) := by decide +kernel
theorem dX12_odds_87 : decode cX12_odds 87 = .ok (.getfield 33, 3) := by decide +kernel
theorem dX12_odds_90 : decode cX12_odds 90 = .ok (.sipush 238, 3) := by decide +kernel
theorem dX12_odds_93 : decode cX12_odds 93 = .ok (.iload_n 1, 1) := by decide +kernel
theorem dX12_odds_94 : decode cX12_odds 94 = .ok (.iadd, 1) := by decide +kernel
theorem dX12_odds_95 : decode cX12_odds 95 = .ok (.iaload, 1) := by decide +kernel
theorem dX12_odds_96 : decode cX12_odds 96 = .ok (.iload 7, 2) := by decide +kernel
theorem dX12_odds_98 : decode cX12_odds 98 = .ok (.iload_n 2, 1) := by decide +kernel
theorem dX12_odds_99 : decode cX12_odds 99 = .ok (.iadd, 1) := by decide +kernel
theorem dX12_odds_100 : decode cX12_odds 100 = .ok (.if_icmp .le 7, 3) := by decide +kernel
theorem dX12_odds_103 : decode cX12_odds 103 = .ok (.iconst 1, 1) := by decide +kernel
theorem dX12_odds_104 : decode cX12_odds 104 = .ok (.goto 4, 3) := by decide +kernel
theorem dX12_odds_107 : decode cX12_odds 107 = .ok (.iconst 0, 1) := by decide +kernel
theorem dX12_odds_108 : decode cX12_odds 108 = .ok (.iadd, 1) := by decide +kernel
theorem dX12_odds_109 : decode cX12_odds 109 = .ok (.istore 5, 2) := by decide +kernel
theorem dX12_odds_111 : decode cX12_odds 111 = .ok (.aload_n 0, 1) := by decide +kernel
theorem dX12_odds_112 : decode cX12_odds 112 = .ok (.invokevirtual 413, 3) := by decide +kernel
theorem dX12_odds_115 : decode cX12_odds 115 = .ok (.iinc 6 1, 3) := by decide +kernel
theorem dX12_odds_118 : decode cX12_odds 118 = .ok (.goto (-63), 3) := by decide +kernel
theorem dX12_odds_121 : decode cX12_odds 121 = .ok (.iload 5, 2) := by decide +kernel
theorem dX12_odds_123 : decode cX12_odds 123 = .ok (.ireturn, 1) := by decide +kernel
set_option maxRecDepth 20000 in
theorem ggX12_rollLine_X12_isWord : GoodIn wsX12_rollLine wsX12_isWord := goodIn_r _ [15, 16, 17, 70, 71, 72, 73, 74, 75, 76, 77, 78, 79, 80, 81, 82, 83, 84, 85, 86, 87, 88, 89, 90, 91, 92, 93, 94, 95, 96, 97, 98, 99, 100, 101, 102, 103, 104, 105, 106, 107, 108, 109, 110, 111, 112, 113, 114, 115, 116] rfl (by decide +kernel)
set_option maxRecDepth 20000 in
theorem gX12_rollLine_X12_isWord : GoodIn wsX12_rollLine (wsV RX12 219 RX12 yX12_isWord wsX12_isWord) := goodIn_app (goodIn_of _ (by decide +kernel)) ggX12_rollLine_X12_isWord
set_option maxRecDepth 20000 in
theorem ggX12_rollLine_X12_bad : GoodIn wsX12_rollLine wsX12_bad := goodIn_r _ [21, 22, 23, 24, 70, 71, 72, 73, 74, 75, 76, 77, 78, 79, 80, 81, 82, 83, 84, 85, 86, 87, 88, 89, 90, 91, 92, 93, 94, 95, 96, 97, 98, 99, 100, 101, 102, 103, 104, 105, 106, 107, 108, 109, 110, 111, 112, 113, 114, 115, 116] rfl (by decide +kernel)
set_option maxRecDepth 20000 in
theorem gX12_rollLine_X12_bad : GoodIn wsX12_rollLine (wsV RX12 185 RX12 yX12_bad wsX12_bad) := goodIn_app (goodIn_of _ (by decide +kernel)) ggX12_rollLine_X12_bad
set_option maxRecDepth 20000 in
theorem ggX12_rollLine_X12_next : GoodIn wsX12_rollLine wsX12_next := goodIn_r _ [28, 29, 23, 30, 31, 32, 16, 33, 17, 34, 35, 36, 14, 37, 38, 39, 40, 41, 42, 43, 44, 70, 71, 72, 73, 74, 75, 76, 77, 78, 79, 80, 81, 82, 83, 84, 85, 86, 87, 88, 89, 90, 91, 92, 93, 94, 95, 96, 97, 98, 99, 100, 101, 102, 103, 104, 105, 106, 107, 108, 109, 110, 111, 112, 113, 114, 115, 116] rfl (by decide +kernel)
set_option maxRecDepth 20000 in
theorem gX12_rollLine_X12_next : GoodIn wsX12_rollLine (wsV RX12 188 RX12 yX12_next wsX12_next) := goodIn_app (goodIn_of _ (by decide +kernel)) ggX12_rollLine_X12_next
set_option maxRecDepth 20000 in
theorem ggX12_rollLine_X12_takes : GoodIn wsX12_rollLine wsX12_takes := goodIn_r _ [48, 16, 33, 6, 18, 19, 20, 14, 21, 22, 23, 24, 49, 50, 51, 25, 26, 27, 28, 29, 30, 31, 32, 17, 34, 35, 36, 37, 38, 39, 40, 41, 42, 43, 44, 70, 71, 72, 73, 74, 75, 76, 77, 78, 79, 80, 81, 82, 83, 84, 85, 86, 87, 88, 89, 90, 91, 92, 93, 94, 95, 96, 97, 98, 99, 100, 101, 102, 103, 104, 105, 106, 107, 108, 109, 110, 111, 112, 113, 114, 115, 116] rfl (by decide +kernel)
set_option maxRecDepth 20000 in
theorem gX12_rollLine_X12_takes : GoodIn wsX12_rollLine (wsV RX12 198 RX12 yX12_takes wsX12_takes) := goodIn_app (goodIn_of _ (by decide +kernel)) ggX12_rollLine_X12_takes
set_option maxRecDepth 20000 in
theorem ggX12_rollLine_X12_looksAt : GoodIn wsX12_rollLine wsX12_looksAt := goodIn_r _ [55, 6, 56, 57, 58, 14, 59, 16, 17, 60, 18, 19, 20, 21, 22, 23, 24, 61, 62, 63, 64, 65, 70, 71, 72, 73, 74, 75, 76, 77, 78, 79, 80, 81, 82, 83, 84, 85, 86, 87, 88, 89, 90, 91, 92, 93, 94, 95, 96, 97, 98, 99, 100, 101, 102, 103, 104, 105, 106, 107, 108, 109, 110, 111, 112, 113, 114, 115, 116] rfl (by decide +kernel)
set_option maxRecDepth 20000 in
theorem gX12_rollLine_X12_looksAt : GoodIn wsX12_rollLine (wsV RX12 210 RX12 yX12_looksAt wsX12_looksAt) := goodIn_app (goodIn_of _ (by decide +kernel)) ggX12_rollLine_X12_looksAt
set_option maxRecDepth 20000 in
theorem ggX12_rollLine_X12_takesName : GoodIn wsX12_rollLine wsX12_takesName := goodIn_r _ [69, 52, 53, 54, 14, 55, 6, 56, 57, 58, 59, 16, 17, 60, 18, 19, 20, 21, 22, 23, 24, 61, 62, 63, 64, 65, 25, 26, 27, 28, 29, 30, 31, 32, 33, 34, 35, 36, 37, 38, 39, 40, 41, 42, 43, 44, 70, 71, 72, 73, 74, 75, 76, 77, 78, 79, 80, 81, 82, 83, 84, 85, 86, 87, 88, 89, 90, 91, 92, 93, 94, 95, 96, 97, 98, 99, 100, 101, 102, 103, 104, 105, 106, 107, 108, 109, 110, 111, 112, 113, 114, 115, 116] rfl (by decide +kernel)
set_option maxRecDepth 20000 in
theorem gX12_rollLine_X12_takesName : GoodIn wsX12_rollLine (wsV RX12 235 RX12 yX12_takesName wsX12_takesName) := goodIn_app (goodIn_of _ (by decide +kernel)) ggX12_rollLine_X12_takesName
theorem dX12_rollLine_0 : decode cX12_rollLine 0 = .ok (.iconst 3, 1) := by decide +kernel
theorem dX12_rollLine_1 : decode cX12_rollLine 1 = .ok (.aload_n 0, 1) := by decide +kernel
theorem dX12_rollLine_2 : decode cX12_rollLine 2 = .ok (.getfield 416, 3) := by decide +kernel
theorem dX12_rollLine_5 : decode cX12_rollLine 5 = .ok (.imul, 1) := by decide +kernel
theorem dX12_rollLine_6 : decode cX12_rollLine 6 = .ok (.istore_n 1, 1) := by decide +kernel
theorem dX12_rollLine_7 : decode cX12_rollLine 7 = .ok (.aload_n 0, 1) := by decide +kernel
theorem dX12_rollLine_8 : decode cX12_rollLine 8 = .ok (.ldc2_w 115, 3) := by decide +kernel
theorem dX12_rollLine_11 : decode cX12_rollLine 11 = .ok (.invokevirtual 219, 3) := by decide +kernel
theorem dX12_rollLine_14 : decode cX12_rollLine 14 = .ok (.ifCond .eq 7, 3) := by decide +kernel
theorem dX12_rollLine_17 : decode cX12_rollLine 17 = .ok (.iconst 0, 1) := by decide +kernel
theorem dX12_rollLine_18 : decode cX12_rollLine 18 = .ok (.goto 32, 3) := by decide +kernel
theorem dX12_rollLine_21 : decode cX12_rollLine 21 = .ok (.aload_n 0, 1) := by decide +kernel
