theorem dX12_hill_131 : decode cX12_hill 131 = .ok (.aload_n 0, 1) := by decide +kernel
theorem dX12_hill_132 : decode cX12_hill 132 = .ok (.getfield 33, 3) := by decide +kernel
theorem dX12_hill_135 : decode cX12_hill 135 = .ok (.bipush 7, 2) := by decide +kernel
theorem dX12_hill_137 : decode cX12_hill 137 = .ok (.iload_n 1, 1) := by decide +kernel
theorem dX12_hill_138 : decode cX12_hill 138 = .ok (.iadd, 1) := by decide +kernel
theorem dX12_hill_139 : decode cX12_hill 139 = .ok (.iaload, 1) := by decide +kernel
theorem dX12_hill_140 : decode cX12_hill 140 = .ok (.invokevirtual 265, 3) := by decide +kernel
theorem dX12_hill_143 : decode cX12_hill 143 = .ok (.ireturn, 1) := by decide +kernel
theorem dX12_hill_144 : decode cX12_hill 144 = .ok (.iload_n 3, 1) := by decide +kernel
theorem dX12_hill_145 : decode cX12_hill 145 = .ok (.ireturn, 1) := by decide +kernel
theorem dX12_hill_146 : decode cX12_hill 146 = .ok (.iconst (-1), 1) := by decide +kernel
theorem dX12_hill_147 : decode cX12_hill 147 = .ok (.ireturn, 1) := by decide +kernel
set_option maxRecDepth 20000 in
theorem ggX12_man_X12_isMan : GoodIn wsX12_man wsX12_isMan := goodIn_r _ [6, 1, 7, 8, 5, 9, 15, 16, 17, 18, 19, 20, 21, 22, 23, 24, 25, 26, 27, 28, 29, 30, 31, 32, 33, 34, 35, 36, 37, 38, 39, 40, 41, 42, 43, 44, 45, 46, 47, 48, 49, 50, 51, 52, 53, 54, 55, 56, 57, 58, 59, 60, 61] rfl (by decide +kernel)
set_option maxRecDepth 20000 in
theorem gX12_man_X12_isMan : GoodIn wsX12_man (wsV RX12 269 RX12 yX12_isMan wsX12_isMan) := goodIn_app (goodIn_of _ (by decide +kernel)) ggX12_man_X12_isMan
set_option maxRecDepth 20000 in
theorem ggX12_man_X12_isIn : GoodIn wsX12_man wsX12_isIn := goodIn_r _ [9] rfl (by decide +kernel)
set_option maxRecDepth 20000 in
theorem gX12_man_X12_isIn : GoodIn wsX12_man (va_wsS RX12 191 yX12_isIn wsX12_isIn) := goodIn_app (goodIn_of _ (by decide +kernel)) ggX12_man_X12_isIn
set_option maxRecDepth 20000 in
theorem ggX12_man_X12_throwsIf : GoodIn wsX12_man wsX12_throwsIf := goodIn_r _ [13, 14, 15, 16, 17, 18, 19, 20, 21, 22, 23, 24, 25, 26, 27, 28, 29, 30, 31, 32, 33, 34, 35, 36, 37, 38, 39, 40, 41, 42, 43, 44, 45, 46, 47, 48, 49, 50, 51, 52, 53, 54, 55, 56, 57, 58, 59, 60, 61] rfl (by decide +kernel)
set_option maxRecDepth 20000 in
theorem gX12_man_X12_throwsIf : GoodIn wsX12_man (wsV RX12 272 RX12 yX12_throwsIf wsX12_throwsIf) := goodIn_app (goodIn_of _ (by decide +kernel)) ggX12_man_X12_throwsIf
theorem dX12_man_0 : decode cX12_man 0 = .ok (.aload_n 0, 1) := by decide +kernel
theorem dX12_man_1 : decode cX12_man 1 = .ok (.aload_n 0, 1) := by decide +kernel
theorem dX12_man_2 : decode cX12_man 2 = .ok (.iload_n 1, 1) := by decide +kernel
theorem dX12_man_3 : decode cX12_man 3 = .ok (.invokevirtual 269, 3) := by decide +kernel
theorem dX12_man_6 : decode cX12_man 6 = .ok (.ifCond .eq 13, 3) := by decide +kernel
theorem dX12_man_9 : decode cX12_man 9 = .ok (.iload_n 2, 1) := by decide +kernel
theorem dX12_man_10 : decode cX12_man 10 = .ok (.iconst 0, 1) := by decide +kernel
theorem dX12_man_11 : decode cX12_man 11 = .ok (.bipush 7, 2) := by decide +kernel
theorem dX12_man_13 : decode cX12_man 13 = .ok (.invokestatic 191, 3) := by decide +kernel
theorem dX12_man_16 : decode cX12_man 16 = .ok (.ifCond .ne 7, 3) := by decide +kernel
theorem dX12_man_19 : decode cX12_man 19 = .ok (.iconst 1, 1) := by decide +kernel
theorem dX12_man_20 : decode cX12_man 20 = .ok (.goto 4, 3) := by decide +kernel
theorem dX12_man_23 : decode cX12_man 23 = .ok (.iconst 0, 1) := by decide +kernel
theorem dX12_man_24 : decode cX12_man 24 = .ok (.invokevirtual 272, 3) := by decide +kernel
theorem dX12_man_27 : decode cX12_man 27 = .ok (.ifCond .eq 5, 3) := by decide +kernel
theorem dX12_man_30 : decode cX12_man 30 = .ok (.iconst 0, 1) := by decide +kernel
theorem dX12_man_31 : decode cX12_man 31 = .ok (.ireturn, 1) := by decide +kernel
theorem dX12_man_32 : decode cX12_man 32 = .ok (.iload_n 2, 1) := by decide +kernel
theorem dX12_man_33 : decode cX12_man 33 = .ok (.tableswitch 121 0 6 #[43, 54, 64, 75, 85, 97, 110], 43) := by decide +kernel
theorem dX12_man_76 : decode cX12_man 76 = .ok (.aload_n 0, 1) := by decide +kernel
theorem dX12_man_77 : decode cX12_man 77 = .ok (.getfield 33, 3) := by decide +kernel
theorem dX12_man_80 : decode cX12_man 80 = .ok (.sipush 214, 3) := by decide +kernel
theorem dX12_man_83 : decode cX12_man 83 = .ok (.iload_n 1, 1) := by decide +kernel
theorem dX12_man_84 : decode cX12_man 84 = .ok (.iadd, 1) := by decide +kernel
theorem dX12_man_85 : decode cX12_man 85 = .ok (.iaload, 1) := by decide +kernel
theorem dX12_man_86 : decode cX12_man 86 = .ok (.ireturn, 1) := by decide +kernel
theorem dX12_man_87 : decode cX12_man 87 = .ok (.aload_n 0, 1) := by decide +kernel
theorem dX12_man_88 : decode cX12_man 88 = .ok (.getfield 33, 3) := by decide +kernel
theorem dX12_man_91 : decode cX12_man 91 = .ok (.bipush 39, 2) := by decide +kernel
theorem dX12_man_93 : decode cX12_man 93 = .ok (.iload_n 1, 1) := by decide +kernel
theorem dX12_man_94 : decode cX12_man 94 = .ok (.iadd, 1) := by decide +kernel
theorem dX12_man_95 : decode cX12_man 95 = .ok (.iaload, 1) := by decide +kernel
theorem dX12_man_96 : decode cX12_man 96 = .ok (.ireturn, 1) := by decide +kernel
theorem dX12_man_97 : decode cX12_man 97 = .ok (.aload_n 0, 1) := by decide +kernel
theorem dX12_man_98 : decode cX12_man 98 = .ok (.getfield 33, 3) := by decide +kernel
theorem dX12_man_101 : decode cX12_man 101 = .ok (.sipush 222, 3) := by decide +kernel
theorem dX12_man_104 : decode cX12_man 104 = .ok (.iload_n 1, 1) := by decide +kernel
theorem dX12_man_105 : decode cX12_man 105 = .ok (.iadd, 1) := by decide +kernel
theorem dX12_man_106 : decode cX12_man 106 = .ok (.iaload, 1) := by decide +kernel
theorem dX12_man_107 : decode cX12_man 107 = .ok (.ireturn, 1) := by decide +kernel
theorem dX12_man_108 : decode cX12_man 108 = .ok (.aload_n 0, 1) := by decide +kernel
theorem dX12_man_109 : decode cX12_man 109 = .ok (.getfield 33, 3) := by decide +kernel
theorem dX12_man_112 : decode cX12_man 112 = .ok (.bipush 55, 2) := by decide +kernel
theorem dX12_man_114 : decode cX12_man 114 = .ok (.iload_n 1, 1) := by decide +kernel
theorem dX12_man_115 : decode cX12_man 115 = .ok (.iadd, 1) := by decide +kernel
theorem dX12_man_116 : decode cX12_man 116 = .ok (.iaload, 1) := by decide +kernel
theorem dX12_man_117 : decode cX12_man 117 = .ok (.ireturn, 1) := by decide +kernel
theorem dX12_man_118 : decode cX12_man 118 = .ok (.aload_n 0, 1) := by decide +kernel
theorem dX12_man_119 : decode cX12_man 119 = .ok (.getfield 33, 3) := by decide +kernel
theorem dX12_man_122 : decode cX12_man 122 = .ok (.bipush 63, 2) := by decide +kernel
theorem dX12_man_124 : decode cX12_man 124 = .ok (.iload_n 1, 1) := by decide +kernel
theorem dX12_man_125 : decode cX12_man 125 = .ok (.iadd, 1) := by decide +kernel
theorem dX12_man_126 : decode cX12_man 126 = .ok (.iaload, 1) := by decide +kernel
theorem dX12_man_127 : decode cX12_man 127 = .ok (.iconst 1, 1) := by decide +kernel
theorem dX12_man_128 : decode cX12_man 128 = .ok (.isub, 1) := by decide +kernel
theorem dX12_man_129 : decode cX12_man 129 = .ok (.ireturn, 1) := by decide +kernel
theorem dX12_man_130 : decode cX12_man 130 = .ok (.aload_n 0, 1) := by decide +kernel
theorem dX12_man_131 : decode cX12_man 131 = .ok (.getfield 33, 3) := by decide +kernel
theorem dX12_man_134 : decode cX12_man 134 = .ok (.sipush 230, 3) := by decide +kernel
theorem dX12_man_137 : decode cX12_man 137 = .ok (.iload_n 1, 1) := by decide +kernel
theorem dX12_man_138 : decode cX12_man 138 = .ok (.iadd, 1) := by decide +kernel
theorem dX12_man_139 : decode cX12_man 139 = .ok (.iaload, 1) := by decide +kernel
theorem dX12_man_140 : decode cX12_man 140 = .ok (.iconst 1, 1) := by decide +kernel
theorem dX12_man_141 : decode cX12_man 141 = .ok (.isub, 1) := by decide +kernel
theorem dX12_man_142 : decode cX12_man 142 = .ok (.ireturn, 1) := by decide +kernel
theorem dX12_man_143 : decode cX12_man 143 = .ok (.aload_n 0, 1) := by decide +kernel
theorem dX12_man_144 : decode cX12_man 144 = .ok (.getfield 33, 3) := by decide +kernel
theorem dX12_man_147 : decode cX12_man 147 = .ok (.sipush 238, 3) := by decide +kernel
theorem dX12_man_150 : decode cX12_man 150 = .ok (.iload_n 1, 1) := by decide +kernel
theorem dX12_man_151 : decode cX12_man 151 = .ok (.iadd, 1) := by decide +kernel
theorem dX12_man_152 : decode cX12_man 152 = .ok (.iaload, 1) := by decide +kernel
theorem dX12_man_153 : decode cX12_man 153 = .ok (.ireturn, 1) := by decide +kernel
theorem dX12_man_154 : decode cX12_man 154 = .ok (.aload_n 0, 1) := by decide +kernel
theorem dX12_man_155 : decode cX12_man 155 = .ok (.getfield 33, 3) := by decide +kernel
theorem dX12_man_158 : decode cX12_man 158 = .ok (.bipush 71, 2) := by decide +kernel
theorem dX12_man_160 : decode cX12_man 160 = .ok (.iload_n 1, 1) := by decide +kernel
theorem dX12_man_161 : decode cX12_man 161 = .ok (.iadd, 1) := by decide +kernel
theorem dX12_man_162 : decode cX12_man 162 = .ok (.iaload, 1) := by decide +kernel
theorem dX12_man_163 : decode cX12_man 163 = .ok (.iconst 1, 1) := by decide +kernel
theorem dX12_man_164 : decode cX12_man 164 = .ok (.isub, 1) := by decide +kernel
theorem dX12_man_165 : decode cX12_man 165 = .ok (.ireturn, 1) := by decide +kernel
set_option maxRecDepth 20000 in
theorem ggX12_flight_X12_isFlight : GoodIn wsX12_flight wsX12_isFlight := goodIn_r _ [7, 2, 8, 9, 6, 10, 11, 12, 13, 14, 15, 16, 17, 18, 19, 20, 21, 22, 23, 24, 25, 26, 27, 28, 29, 30, 31, 32, 33, 34, 35, 36, 37, 38, 39, 40, 41, 42, 43, 44, 45, 46, 47, 48, 49, 50, 51, 52, 53, 54, 55, 56, 57] rfl (by decide +kernel)
set_option maxRecDepth 20000 in
theorem gX12_flight_X12_isFlight : GoodIn wsX12_flight (wsV RX12 259 RX12 yX12_isFlight wsX12_isFlight) := goodIn_app (goodIn_of _ (by decide +kernel)) ggX12_flight_X12_isFlight
theorem dX12_flight_0 : decode cX12_flight 0 = .ok (.aload_n 0, 1) := by decide +kernel
theorem dX12_flight_1 : decode cX12_flight 1 = .ok (.iconst 0, 1) := by decide +kernel
theorem dX12_flight_2 : decode cX12_flight 2 = .ok (.putfield 1, 3) := by decide +kernel
theorem dX12_flight_5 : decode cX12_flight 5 = .ok (.aload_n 0, 1) := by decide +kernel
theorem dX12_flight_6 : decode cX12_flight 6 = .ok (.iload_n 1, 1) := by decide +kernel
theorem dX12_flight_7 : decode cX12_flight 7 = .ok (.invokevirtual 259, 3) := by decide +kernel
theorem dX12_flight_10 : decode cX12_flight 10 = .ok (.ifCond .ne 5, 3) := by decide +kernel
theorem dX12_flight_13 : decode cX12_flight 13 = .ok (.iconst (-1), 1) := by decide +kernel
theorem dX12_flight_14 : decode cX12_flight 14 = .ok (.ireturn, 1) := by decide +kernel
theorem dX12_flight_15 : decode cX12_flight 15 = .ok (.iload_n 2, 1) := by decide +kernel
theorem dX12_flight_16 : decode cX12_flight 16 = .ok (.ifCond .ne 15, 3) := by decide +kernel
theorem dX12_flight_19 : decode cX12_flight 19 = .ok (.aload_n 0, 1) := by decide +kernel
theorem dX12_flight_20 : decode cX12_flight 20 = .ok (.getfield 33, 3) := by decide +kernel
theorem dX12_flight_23 : decode cX12_flight 23 = .ok (.bipush 79, 2) := by decide +kernel
theorem dX12_flight_25 : decode cX12_flight 25 = .ok (.iload_n 1, 1) := by decide +kernel
theorem dX12_flight_26 : decode cX12_flight 26 = .ok (.iadd, 1) := by decide +kernel
theorem dX12_flight_27 : decode cX12_flight 27 = .ok (.iaload, 1) := by decide +kernel
theorem dX12_flight_28 : decode cX12_flight 28 = .ok (.goto 38, 3) := by decide +kernel
theorem dX12_flight_31 : decode cX12_flight 31 = .ok (.iload_n 2, 1) := by decide +kernel
theorem dX12_flight_32 : decode cX12_flight 32 = .ok (.iconst 1, 1) := by decide +kernel
theorem dX12_flight_33 : decode cX12_flight 33 = .ok (.if_icmp .ne 15, 3) := by decide +kernel
theorem dX12_flight_36 : decode cX12_flight 36 = .ok (.aload_n 0, 1) := by decide +kernel
theorem dX12_flight_37 : decode cX12_flight 37 = .ok (.getfield 33, 3) := by decide +kernel
theorem dX12_flight_40 : decode cX12_flight 40 = .ok (.bipush 83, 2) := by decide +kernel
theorem dX12_flight_42 : decode cX12_flight 42 = .ok (.iload_n 1, 1) := by decide +kernel
theorem dX12_flight_43 : decode cX12_flight 43 = .ok (.iadd, 1) := by decide +kernel
theorem dX12_flight_44 : decode cX12_flight 44 = .ok (.iaload, 1) := by decide +kernel
theorem dX12_flight_45 : decode cX12_flight 45 = .ok (.goto 21, 3) := by decide +kernel
theorem dX12_flight_48 : decode cX12_flight 48 = .ok (.iload_n 2, 1) := by decide +kernel
theorem dX12_flight_49 : decode cX12_flight 49 = .ok (.iconst 2, 1) := by decide +kernel
theorem dX12_flight_50 : decode cX12_flight 50 = .ok (.if_icmp .ne 15, 3) := by decide +kernel
theorem dX12_flight_53 : decode cX12_flight 53 = .ok (.aload_n 0, 1) := by decide +kernel
theorem dX12_flight_54 : decode cX12_flight 54 = .ok (.getfield 33, 3) := by decide +kernel
theorem dX12_flight_57 : decode cX12_flight 57 = .ok (.bipush 87, 2) := by decide +kernel
theorem dX12_flight_59 : decode cX12_flight 59 = .ok (.iload_n 1, 1) := by decide +kernel
theorem dX12_flight_60 : decode cX12_flight 60 = .ok (.iadd, 1) := by decide +kernel
theorem dX12_flight_61 : decode cX12_flight 61 = .ok (.iaload, 1) := by decide +kernel
theorem dX12_flight_62 : decode cX12_flight 62 = .ok (.goto 4, 3) := by decide +kernel
theorem dX12_flight_65 : decode cX12_flight 65 = .ok (.iconst (-1), 1) := by decide +kernel
theorem dX12_flight_66 : decode cX12_flight 66 = .ok (.ireturn, 1) := by decide +kernel
set_option maxRecDepth 20000 in
theorem ggX12_call_X12_isCall : GoodIn wsX12_call wsX12_isCall := goodIn_r _ [7, 2, 8, 9, 10, 6, 11, 12, 13, 14, 19, 20, 21, 22, 23, 24, 25, 26, 27, 28, 29, 30, 31, 32, 33, 34, 35, 36, 37, 38, 39, 40, 41, 42, 43, 44, 45, 46, 47, 48, 49, 50, 51, 52, 53, 54, 55, 56, 57, 58, 59, 60, 61, 62, 63, 64, 65] rfl (by decide +kernel)
set_option maxRecDepth 20000 in
theorem gX12_call_X12_isCall : GoodIn wsX12_call (wsV RX12 276 RX12 yX12_isCall wsX12_isCall) := goodIn_app (goodIn_of _ (by decide +kernel)) ggX12_call_X12_isCall
set_option maxRecDepth 20000 in
theorem ggX12_call_X12_valleyOf : GoodIn wsX12_call wsX12_valleyOf := goodIn_r _ [18, 2, 19, 20, 21, 22, 23, 24, 25, 26, 27, 28, 29, 30, 31, 32, 33, 34, 35, 36, 37, 38, 39, 40, 41, 42, 43, 44, 45, 46, 47, 48, 49, 50, 51, 52, 53, 54, 55, 56, 57, 58, 59, 60, 61, 62, 63, 64, 65] rfl (by decide +kernel)
set_option maxRecDepth 20000 in
theorem gX12_call_X12_valleyOf : GoodIn wsX12_call (wsV RX12 265 RX12 yX12_valleyOf wsX12_valleyOf) := goodIn_app (goodIn_of _ (by decide +kernel)) ggX12_call_X12_valleyOf
theorem dX12_call_0 : decode cX12_call 0 = .ok (.aload_n 0, 1) := by decide +kernel
theorem dX12_call_1 : decode cX12_call 1 = .ok (.iconst 0, 1) := by decide +kernel
theorem dX12_call_2 : decode cX12_call 2 = .ok (.putfield 1, 3) := by decide +kernel
theorem dX12_call_5 : decode cX12_call 5 = .ok (.aload_n 0, 1) := by decide +kernel
theorem dX12_call_6 : decode cX12_call 6 = .ok (.iload_n 1, 1) := by decide +kernel
theorem dX12_call_7 : decode cX12_call 7 = .ok (.iload_n 2, 1) := by decide +kernel
theorem dX12_call_8 : decode cX12_call 8 = .ok (.invokevirtual 276, 3) := by decide +kernel
theorem dX12_call_11 : decode cX12_call 11 = .ok (.ifCond .ne 5, 3) := by decide +kernel
theorem dX12_call_14 : decode cX12_call 14 = .ok (.iconst (-1), 1) := by decide +kernel
theorem dX12_call_15 : decode cX12_call 15 = .ok (.ireturn, 1) := by decide +kernel
theorem dX12_call_16 : decode cX12_call 16 = .ok (.bipush 10, 2) := by decide +kernel
theorem dX12_call_18 : decode cX12_call 18 = .ok (.iload_n 1, 1) := by decide +kernel
theorem dX12_call_19 : decode cX12_call 19 = .ok (.imul, 1) := by decide +kernel
theorem dX12_call_20 : decode cX12_call 20 = .ok (.iload_n 2, 1) := by decide +kernel
theorem dX12_call_21 : decode cX12_call 21 = .ok (.iadd, 1) := by decide +kernel
theorem dX12_call_22 : decode cX12_call 22 = .ok (.istore 4, 2) := by decide +kernel
theorem dX12_call_24 : decode cX12_call 24 = .ok (.iload_n 3, 1) := by decide +kernel
theorem dX12_call_25 : decode cX12_call 25 = .ok (.tableswitch 82 0 3 #[31, 42, 54, 66], 31) := by decide +kernel
theorem dX12_call_56 : decode cX12_call 56 = .ok (.aload_n 0, 1) := by decide +kernel
theorem dX12_call_57 : decode cX12_call 57 = .ok (.getfield 33, 3) := by decide +kernel
theorem dX12_call_60 : decode cX12_call 60 = .ok (.bipush 91, 2) := by decide +kernel
theorem dX12_call_62 : decode cX12_call 62 = .ok (.iload 4, 2) := by decide +kernel
theorem dX12_call_64 : decode cX12_call 64 = .ok (.iadd, 1) := by decide +kernel
theorem dX12_call_65 : decode cX12_call 65 = .ok (.iaload, 1) := by decide +kernel
theorem dX12_call_66 : decode cX12_call 66 = .ok (.ireturn, 1) := by decide +kernel
theorem dX12_call_67 : decode cX12_call 67 = .ok (.aload_n 0, 1) := by decide +kernel
theorem dX12_call_68 : decode cX12_call 68 = .ok (.getfield 33, 3) := by decide +kernel
theorem dX12_call_71 : decode cX12_call 71 = .ok (.sipush 131, 3) := by decide +kernel
theorem dX12_call_74 : decode cX12_call 74 = .ok (.iload 4, 2) := by decide +kernel
theorem dX12_call_76 : decode cX12_call 76 = .ok (.iadd, 1) := by decide +kernel
theorem dX12_call_77 : decode cX12_call 77 = .ok (.iaload, 1) := by decide +kernel
theorem dX12_call_78 : decode cX12_call 78 = .ok (.ireturn, 1) := by decide +kernel
theorem dX12_call_79 : decode cX12_call 79 = .ok (.aload_n 0, 1) := by decide +kernel
theorem dX12_call_80 : decode cX12_call 80 = .ok (.getfield 33, 3) := by decide +kernel
theorem dX12_call_83 : decode cX12_call 83 = .ok (.sipush 171, 3) := by decide +kernel
theorem dX12_call_86 : decode cX12_call 86 = .ok (.iload 4, 2) := by decide +kernel
theorem dX12_call_88 : decode cX12_call 88 = .ok (.iadd, 1) := by decide +kernel
theorem dX12_call_89 : decode cX12_call 89 = .ok (.iaload, 1) := by decide +kernel
theorem dX12_call_90 : decode cX12_call 90 = .ok (.ireturn, 1) := by decide +kernel
theorem dX12_call_91 : decode cX12_call 91 = .ok (.aload_n 0, 1) := by decide +kernel
theorem dX12_call_92 : decode cX12_call 92 = .ok (.aload_n 0, 1) := by decide +kernel
theorem dX12_call_93 : decode cX12_call 93 = .ok (.getfield 33, 3) := by decide +kernel
theorem dX12_call_96 : decode cX12_call 96 = .ok (.sipush 131, 3) := by decide +kernel
theorem dX12_call_99 : decode cX12_call 99 = .ok (.iload 4, 2) := by decide +kernel
theorem dX12_call_101 : decode cX12_call 101 = .ok (.iadd, 1) := by decide +kernel
theorem dX12_call_102 : decode cX12_call 102 = .ok (.iaload, 1) := by decide +kernel
theorem dX12_call_103 : decode cX12_call 103 = .ok (.invokevirtual 265, 3) := by decide +kernel
theorem dX12_call_106 : decode cX12_call 106 = .ok (.ireturn, 1) := by decide +kernel
theorem dX12_call_107 : decode cX12_call 107 = .ok (.iconst (-1), 1) := by decide +kernel
theorem dX12_call_108 : decode cX12_call 108 = .ok (.ireturn, 1) := by decide +kernel
theorem dX12_stands_0 : decode cX12_stands 0 = .ok (.aload_n 0, 1) := by decide +kernel
theorem dX12_stands_1 : decode cX12_stands 1 = .ok (.getfield 50, 3) := by decide +kernel
theorem dX12_stands_4 : decode cX12_stands 4 = .ok (.iload_n 1, 1) := by decide +kernel
theorem dX12_stands_5 : decode cX12_stands 5 = .ok (.aload_n 0, 1) := by decide +kernel
theorem dX12_stands_6 : decode cX12_stands 6 = .ok (.getfield 33, 3) := by decide +kernel
theorem dX12_stands_9 : decode cX12_stands 9 = .ok (.bipush 7, 2) := by decide +kernel
theorem dX12_stands_11 : decode cX12_stands 11 = .ok (.iload_n 2, 1) := by decide +kernel
theorem dX12_stands_12 : decode cX12_stands 12 = .ok (.iadd, 1) := by decide +kernel
theorem dX12_stands_13 : decode cX12_stands 13 = .ok (.iaload, 1) := by decide +kernel
theorem dX12_stands_14 : decode cX12_stands 14 = .ok (.iastore, 1) := by decide +kernel
theorem dX12_stands_15 : decode cX12_stands 15 = .ok (.aload_n 0, 1) := by decide +kernel
theorem dX12_stands_16 : decode cX12_stands 16 = .ok (.getfield 53, 3) := by decide +kernel
theorem dX12_stands_19 : decode cX12_stands 19 = .ok (.iload_n 1, 1) := by decide +kernel
theorem dX12_stands_20 : decode cX12_stands 20 = .ok (.aload_n 0, 1) := by decide +kernel
theorem dX12_stands_21 : decode cX12_stands 21 = .ok (.getfield 33, 3) := by decide +kernel
theorem dX12_stands_24 : decode cX12_stands 24 = .ok (.bipush 15, 2) := by decide +kernel
theorem dX12_stands_26 : decode cX12_stands 26 = .ok (.iload_n 2, 1) := by decide +kernel
theorem dX12_stands_27 : decode cX12_stands 27 = .ok (.iadd, 1) := by decide +kernel
theorem dX12_stands_28 : decode cX12_stands 28 = .ok (.iaload, 1) := by decide +kernel
theorem dX12_stands_29 : decode cX12_stands 29 = .ok (.iastore, 1) := by decide +kernel
theorem dX12_stands_30 : decode cX12_stands 30 = .ok (.aload_n 0, 1) := by decide +kernel
theorem dX12_stands_31 : decode cX12_stands 31 = .ok (.getfield 56, 3) := by decide +kernel
theorem dX12_stands_34 : decode cX12_stands 34 = .ok (.iload_n 1, 1) := by decide +kernel
