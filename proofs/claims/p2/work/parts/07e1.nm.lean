theorem dX12_valley_242 : decode cX12_valley 242 = .ok (.getfield 247, 3) := by decide +kernel
theorem dX12_valley_245 : decode cX12_valley 245 = .ok (.ireturn, 1) := by decide +kernel
theorem dX12_fault_0 : decode cX12_fault 0 = .ok (.aload_n 0, 1) := by decide +kernel
theorem dX12_fault_1 : decode cX12_fault 1 = .ok (.iconst 0, 1) := by decide +kernel
theorem dX12_fault_2 : decode cX12_fault 2 = .ok (.putfield 1, 3) := by decide +kernel
theorem dX12_fault_5 : decode cX12_fault 5 = .ok (.aload_n 0, 1) := by decide +kernel
theorem dX12_fault_6 : decode cX12_fault 6 = .ok (.getfield 176, 3) := by decide +kernel
theorem dX12_fault_9 : decode cX12_fault 9 = .ok (.ireturn, 1) := by decide +kernel
set_option maxRecDepth 20000 in
theorem ggX12_isHill_X12_isIn : GoodIn wsX12_isHill wsX12_isIn := goodIn_r _ [5] rfl (by decide +kernel)
set_option maxRecDepth 20000 in
theorem gX12_isHill_X12_isIn : GoodIn wsX12_isHill (va_wsS RX12 191 yX12_isIn wsX12_isIn) := goodIn_app (goodIn_of _ (by decide +kernel)) ggX12_isHill_X12_isIn
theorem dX12_isHill_0 : decode cX12_isHill 0 = .ok (.iload_n 1, 1) := by decide +kernel
theorem dX12_isHill_1 : decode cX12_isHill 1 = .ok (.iconst 0, 1) := by decide +kernel
theorem dX12_isHill_2 : decode cX12_isHill 2 = .ok (.aload_n 0, 1) := by decide +kernel
theorem dX12_isHill_3 : decode cX12_isHill 3 = .ok (.getfield 33, 3) := by decide +kernel
theorem dX12_isHill_6 : decode cX12_isHill 6 = .ok (.iconst 0, 1) := by decide +kernel
theorem dX12_isHill_7 : decode cX12_isHill 7 = .ok (.iaload, 1) := by decide +kernel
theorem dX12_isHill_8 : decode cX12_isHill 8 = .ok (.iconst 1, 1) := by decide +kernel
theorem dX12_isHill_9 : decode cX12_isHill 9 = .ok (.isub, 1) := by decide +kernel
theorem dX12_isHill_10 : decode cX12_isHill 10 = .ok (.invokestatic 191, 3) := by decide +kernel
theorem dX12_isHill_13 : decode cX12_isHill 13 = .ok (.ireturn, 1) := by decide +kernel
set_option maxRecDepth 20000 in
theorem ggX12_isMan_X12_isIn : GoodIn wsX12_isMan wsX12_isIn := goodIn_r _ [5] rfl (by decide +kernel)
set_option maxRecDepth 20000 in
theorem gX12_isMan_X12_isIn : GoodIn wsX12_isMan (va_wsS RX12 191 yX12_isIn wsX12_isIn) := goodIn_app (goodIn_of _ (by decide +kernel)) ggX12_isMan_X12_isIn
theorem dX12_isMan_0 : decode cX12_isMan 0 = .ok (.iload_n 1, 1) := by decide +kernel
theorem dX12_isMan_1 : decode cX12_isMan 1 = .ok (.iconst 0, 1) := by decide +kernel
theorem dX12_isMan_2 : decode cX12_isMan 2 = .ok (.aload_n 0, 1) := by decide +kernel
theorem dX12_isMan_3 : decode cX12_isMan 3 = .ok (.getfield 33, 3) := by decide +kernel
theorem dX12_isMan_6 : decode cX12_isMan 6 = .ok (.iconst 1, 1) := by decide +kernel
theorem dX12_isMan_7 : decode cX12_isMan 7 = .ok (.iaload, 1) := by decide +kernel
theorem dX12_isMan_8 : decode cX12_isMan 8 = .ok (.iconst 1, 1) := by decide +kernel
theorem dX12_isMan_9 : decode cX12_isMan 9 = .ok (.isub, 1) := by decide +kernel
theorem dX12_isMan_10 : decode cX12_isMan 10 = .ok (.invokestatic 191, 3) := by decide +kernel
theorem dX12_isMan_13 : decode cX12_isMan 13 = .ok (.ireturn, 1) := by decide +kernel
set_option maxRecDepth 20000 in
theorem ggX12_isFlight_X12_isIn : GoodIn wsX12_isFlight wsX12_isIn := goodIn_r _ [5] rfl (by decide +kernel)
set_option maxRecDepth 20000 in
theorem gX12_isFlight_X12_isIn : GoodIn wsX12_isFlight (va_wsS RX12 191 yX12_isIn wsX12_isIn) := goodIn_app (goodIn_of _ (by decide +kernel)) ggX12_isFlight_X12_isIn
theorem dX12_isFlight_0 : decode cX12_isFlight 0 = .ok (.iload_n 1, 1) := by decide +kernel
theorem dX12_isFlight_1 : decode cX12_isFlight 1 = .ok (.iconst 0, 1) := by decide +kernel
theorem dX12_isFlight_2 : decode cX12_isFlight 2 = .ok (.aload_n 0, 1) := by decide +kernel
theorem dX12_isFlight_3 : decode cX12_isFlight 3 = .ok (.getfield 33, 3) := by decide +kernel
theorem dX12_isFlight_6 : decode cX12_isFlight 6 = .ok (.iconst 2, 1) := by decide +kernel
theorem dX12_isFlight_7 : decode cX12_isFlight 7 = .ok (.iaload, 1) := by decide +kernel
theorem dX12_isFlight_8 : decode cX12_isFlight 8 = .ok (.iconst 1, 1) := by decide +kernel
theorem dX12_isFlight_9 : decode cX12_isFlight 9 = .ok (.isub, 1) := by decide +kernel
theorem dX12_isFlight_10 : decode cX12_isFlight 10 = .ok (.invokestatic 191, 3) := by decide +kernel
theorem dX12_isFlight_13 : decode cX12_isFlight 13 = .ok (.ireturn, 1) := by decide +kernel
set_option maxRecDepth 20000 in
theorem ggX12_isCall_X12_isFlight : GoodIn wsX12_isCall wsX12_isFlight := goodIn_r _ [6, 1, 7, 8, 5, 9, 10, 11, 12, 13, 14, 15, 16, 17, 18, 19, 20, 21, 22, 23, 24, 25, 26, 27, 28, 29, 30, 31, 32, 33, 34, 35, 36, 37, 38, 39, 40, 41, 42, 43, 44, 45, 46, 47, 48, 49, 50, 51, 52, 53, 54, 55, 56] rfl (by decide +kernel)
set_option maxRecDepth 20000 in
theorem gX12_isCall_X12_isFlight : GoodIn wsX12_isCall (wsV RX12 259 RX12 yX12_isFlight wsX12_isFlight) := goodIn_app (goodIn_of _ (by decide +kernel)) ggX12_isCall_X12_isFlight
set_option maxRecDepth 20000 in
theorem ggX12_isCall_X12_isIn : GoodIn wsX12_isCall wsX12_isIn := goodIn_r _ [9] rfl (by decide +kernel)
set_option maxRecDepth 20000 in
theorem gX12_isCall_X12_isIn : GoodIn wsX12_isCall (va_wsS RX12 191 yX12_isIn wsX12_isIn) := goodIn_app (goodIn_of _ (by decide +kernel)) ggX12_isCall_X12_isIn
theorem dX12_isCall_0 : decode cX12_isCall 0 = .ok (.aload_n 0, 1) := by decide +kernel
theorem dX12_isCall_1 : decode cX12_isCall 1 = .ok (.iload_n 1, 1) := by decide +kernel
theorem dX12_isCall_2 : decode cX12_isCall 2 = .ok (.invokevirtual 259, 3) := by decide +kernel
theorem dX12_isCall_5 : decode cX12_isCall 5 = .ok (.ifCond .eq 26, 3) := by decide +kernel
theorem dX12_isCall_8 : decode cX12_isCall 8 = .ok (.iload_n 2, 1) := by decide +kernel
theorem dX12_isCall_9 : decode cX12_isCall 9 = .ok (.iconst 0, 1) := by decide +kernel
theorem dX12_isCall_10 : decode cX12_isCall 10 = .ok (.aload_n 0, 1) := by decide +kernel
theorem dX12_isCall_11 : decode cX12_isCall 11 = .ok (.getfield 33, 3) := by decide +kernel
theorem dX12_isCall_14 : decode cX12_isCall 14 = .ok (.bipush 87, 2) := by decide +kernel
theorem dX12_isCall_16 : decode cX12_isCall 16 = .ok (.iload_n 1, 1) := by decide +kernel
theorem dX12_isCall_17 : decode cX12_isCall 17 = .ok (.iadd, 1) := by decide +kernel
theorem dX12_isCall_18 : decode cX12_isCall 18 = .ok (.iaload, 1) := by decide +kernel
theorem dX12_isCall_19 : decode cX12_isCall 19 = .ok (.iconst 1, 1) := by decide +kernel
theorem dX12_isCall_20 : decode cX12_isCall 20 = .ok (.isub, 1) := by decide +kernel
theorem dX12_isCall_21 : decode cX12_isCall 21 = .ok (.invokestatic 191, 3) := by decide +kernel
theorem dX12_isCall_24 : decode cX12_isCall 24 = .ok (.ifCond .eq 7, 3) := by decide +kernel
theorem dX12_isCall_27 : decode cX12_isCall 27 = .ok (.iconst 1, 1) := by decide +kernel
theorem dX12_isCall_28 : decode cX12_isCall 28 = .ok (.goto 4, 3) := by decide +kernel
theorem dX12_isCall_31 : decode cX12_isCall 31 = .ok (.iconst 0, 1) := by decide +kernel
theorem dX12_isCall_32 : decode cX12_isCall 32 = .ok (.ireturn, 1) := by decide +kernel
theorem dX12_valleyOf_0 : decode cX12_valleyOf 0 = .ok (.iload_n 1, 1) := by decide +kernel
theorem dX12_valleyOf_1 : decode cX12_valleyOf 1 = .ok (.aload_n 0, 1) := by decide +kernel
theorem dX12_valleyOf_2 : decode cX12_valleyOf 2 = .ok (.getfield 33, 3) := by decide +kernel
theorem dX12_valleyOf_5 : decode cX12_valleyOf 5 = .ok (.iconst 3, 1) := by decide +kernel
theorem dX12_valleyOf_6 : decode cX12_valleyOf 6 = .ok (.iaload, 1) := by decide +kernel
theorem dX12_valleyOf_7 : decode cX12_valleyOf 7 = .ok (.if_icmp .le 7, 3) := by decide +kernel
theorem dX12_valleyOf_10 : decode cX12_valleyOf 10 = .ok (.iconst 1, 1) := by decide +kernel
theorem dX12_valleyOf_11 : decode cX12_valleyOf 11 = .ok (.goto 4, 3) := by decide +kernel
theorem dX12_valleyOf_14 : decode cX12_valleyOf 14 = .ok (.iconst 0, 1) := by decide +kernel
theorem dX12_valleyOf_15 : decode cX12_valleyOf 15 = .ok (.ireturn, 1) := by decide +kernel
set_option maxRecDepth 20000 in
theorem ggX12_hill_X12_isHill : GoodIn wsX12_hill wsX12_isHill := goodIn_r _ [7, 2, 8, 9, 6, 10, 15, 16, 17, 18, 19, 20, 21, 22, 23, 24, 25, 26, 27, 28, 29, 30, 31, 32, 33, 34, 35, 36, 37, 38, 39, 40, 41, 42, 43, 44, 45, 46, 47, 48, 49, 50, 51, 52, 53, 54, 55, 56, 57, 58, 59, 60, 61] rfl (by decide +kernel)
set_option maxRecDepth 20000 in
theorem gX12_hill_X12_isHill : GoodIn wsX12_hill (wsV RX12 262 RX12 yX12_isHill wsX12_isHill) := goodIn_app (goodIn_of _ (by decide +kernel)) ggX12_hill_X12_isHill
set_option maxRecDepth 20000 in
theorem ggX12_hill_X12_valleyOf : GoodIn wsX12_hill wsX12_valleyOf := goodIn_r _ [14, 2, 15, 16, 17, 18, 19, 20, 21, 22, 23, 24, 25, 26, 27, 28, 29, 30, 31, 32, 33, 34, 35, 36, 37, 38, 39, 40, 41, 42, 43, 44, 45, 46, 47, 48, 49, 50, 51, 52, 53, 54, 55, 56, 57, 58, 59, 60, 61] rfl (by decide +kernel)
set_option maxRecDepth 20000 in
theorem gX12_hill_X12_valleyOf : GoodIn wsX12_hill (wsV RX12 265 RX12 yX12_valleyOf wsX12_valleyOf) := goodIn_app (goodIn_of _ (by decide +kernel)) ggX12_hill_X12_valleyOf
theorem dX12_hill_0 : decode cX12_hill 0 = .ok (.aload_n 0, 1) := by decide +kernel
theorem dX12_hill_1 : decode cX12_hill 1 = .ok (.iconst 0, 1) := by decide +kernel
theorem dX12_hill_2 : decode cX12_hill 2 = .ok (.putfield 1, 3) := by decide +kernel
theorem dX12_hill_5 : decode cX12_hill 5 = .ok (.aload_n 0, 1) := by decide +kernel
theorem dX12_hill_6 : decode cX12_hill 6 = .ok (.iload_n 1, 1) := by decide +kernel
theorem dX12_hill_7 : decode cX12_hill 7 = .ok (.invokevirtual 262, 3) := by decide +kernel
theorem dX12_hill_10 : decode cX12_hill 10 = .ok (.ifCond .ne 5, 3) := by decide +kernel
theorem dX12_hill_13 : decode cX12_hill 13 = .ok (.iconst (-1), 1) := by decide +kernel
theorem dX12_hill_14 : decode cX12_hill 14 = .ok (.ireturn, 1) := by decide +kernel
theorem dX12_hill_15 : decode cX12_hill 15 = .ok (.iconst 0, 1) := by decide +kernel
theorem dX12_hill_16 : decode cX12_hill 16 = .ok (.istore_n 3, 1) := by decide +kernel
theorem dX12_hill_17 : decode cX12_hill 17 = .ok (.iconst 0, 1) := by decide +kernel
theorem dX12_hill_18 : decode cX12_hill 18 = .ok (.istore 4, 2) := by decide +kernel
theorem dX12_hill_20 : decode cX12_hill 20 = .ok (.iload 4, 2) := by decide +kernel
theorem dX12_hill_22 : decode cX12_hill 22 = .ok (.aload_n 0, 1) := by decide +kernel
theorem dX12_hill_23 : decode cX12_hill 23 = .ok (.getfield 33, 3) := by decide +kernel
theorem dX12_hill_26 : decode cX12_hill 26 = .ok (.iconst 1, 1) := by decide +kernel
theorem dX12_hill_27 : decode cX12_hill 27 = .ok (.iaload, 1) := by decide +kernel
theorem dX12_hill_28 : decode cX12_hill 28 = .ok (.if_icmp .ge 35, 3) := by decide +kernel
theorem dX12_hill_31 : decode cX12_hill 31 = .ok (.iload_n 3, 1) := by decide +kernel
theorem dX12_hill_32 : decode cX12_hill 32 = .ok (.aload_n 0, 1) := by decide +kernel
theorem dX12_hill_33 : decode cX12_hill 33 = .ok (.getfield 33, 3) := by decide +kernel
theorem dX12_hill_36 : decode cX12_hill 36 = .ok (.sipush 214, 3) := by decide +kernel
theorem dX12_hill_39 : decode cX12_hill 39 = .ok (.iload 4, 2) := by decide +kernel
theorem dX12_hill_41 : decode cX12_hill 41 = .ok (.iadd, 1) := by decide +kernel
theorem dX12_hill_42 : decode cX12_hill 42 = .ok (.iaload, 1) := by decide +kernel
theorem dX12_hill_43 : decode cX12_hill 43 = .ok (.iload_n 1, 1) := by decide +kernel
theorem dX12_hill_44 : decode cX12_hill 44 = .ok (.if_icmp .ne 10, 3) := by decide +kernel
theorem dX12_hill_47 : decode cX12_hill 47 = .ok (.iconst 1, 1) := by decide +kernel
theorem dX12_hill_48 : decode cX12_hill 48 = .ok (.iload 4, 2) := by decide +kernel
theorem dX12_hill_50 : decode cX12_hill 50 = .ok (.ishl, 1) := by decide +kernel
theorem dX12_hill_51 : decode cX12_hill 51 = .ok (.goto 4, 3) := by decide +kernel
theorem dX12_hill_54 : decode cX12_hill 54 = .ok (.iconst 0, 1) := by decide +kernel
theorem dX12_hill_55 : decode cX12_hill 55 = .ok (.ior, 1) := by decide +kernel
theorem dX12_hill_56 : decode cX12_hill 56 = .ok (.istore_n 3, 1) := by decide +kernel
theorem dX12_hill_57 : decode cX12_hill 57 = .ok (.iinc 4 1, 3) := by decide +kernel
theorem dX12_hill_60 : decode cX12_hill 60 = .ok (.goto (-40), 3) := by decide +kernel
theorem dX12_hill_63 : decode cX12_hill 63 = .ok (.iload_n 2, 1) := by decide +kernel
theorem dX12_hill_64 : decode cX12_hill 64 = .ok (.tableswitch 82 0 4 #[36, 46, 56, 66, 80], 36) := by decide +kernel
theorem dX12_hill_100 : decode cX12_hill 100 = .ok (.aload_n 0, 1) := by decide +kernel
theorem dX12_hill_101 : decode cX12_hill 101 = .ok (.getfield 33, 3) := by decide +kernel
theorem dX12_hill_104 : decode cX12_hill 104 = .ok (.bipush 7, 2) := by decide +kernel
theorem dX12_hill_106 : decode cX12_hill 106 = .ok (.iload_n 1, 1) := by decide +kernel
theorem dX12_hill_107 : decode cX12_hill 107 = .ok (.iadd, 1) := by decide +kernel
theorem dX12_hill_108 : decode cX12_hill 108 = .ok (.iaload, 1) := by decide +kernel
theorem dX12_hill_109 : decode cX12_hill 109 = .ok (.ireturn, 1) := by decide +kernel
theorem dX12_hill_110 : decode cX12_hill 110 = .ok (.aload_n 0, 1) := by decide +kernel
theorem dX12_hill_111 : decode cX12_hill 111 = .ok (.getfield 33, 3) := by decide +kernel
theorem dX12_hill_114 : decode cX12_hill 114 = .ok (.bipush 15, 2) := by decide +kernel
theorem dX12_hill_116 : decode cX12_hill 116 = .ok (.iload_n 1, 1) := by decide +kernel
theorem dX12_hill_117 : decode cX12_hill 117 = .ok (.iadd, 1) := by decide +kernel
theorem dX12_hill_118 : decode cX12_hill 118 = .ok (.iaload, 1) := by decide +kernel
theorem dX12_hill_119 : decode cX12_hill 119 = .ok (.ireturn, 1) := by decide +kernel
theorem dX12_hill_120 : decode cX12_hill 120 = .ok (.aload_n 0, 1) := by decide +kernel
theorem dX12_hill_121 : decode cX12_hill 121 = .ok (.getfield 33, 3) := by decide +kernel
theorem dX12_hill_124 : decode cX12_hill 124 = .ok (.bipush 23, 2) := by decide +kernel
theorem dX12_hill_126 : decode cX12_hill 126 = .ok (.iload_n 1, 1) := by decide +kernel
theorem dX12_hill_127 : decode cX12_hill 127 = .ok (.iadd, 1) := by decide +kernel
theorem dX12_hill_128 : decode cX12_hill 128 = .ok (.iaload, 1) := by decide +kernel
theorem dX12_hill_129 : decode cX12_hill 129 = .ok (.ireturn, 1) := by decide +kernel
theorem dX12_hill_130 : decode cX12_hill 130 = .ok (.aload_n 0, 1) := by decide +kernel
theorem dX12_hill_131 : decode cX12_hill 131 = .ok (.aload_n 0, 1) := by decide +kernel
theorem dX12_hill_132 : decode cX12_hill 132 = .ok (.getfield 33, 3) := by decide +kernel
theorem dX12_hill_135 : decode cX12_hill 135 = .ok (.bipush 7, 2) := by decide +kernel
theorem dX12_hill_137 : decode cX12_hill 137 = .ok (.iload_n 1, 1) := by decide +kernel
theorem dX12_hill_138 : decode cX12_hill 138 = .ok (.iadd, 1) := by decide +kernel
theorem dX12_hill_139 : decode cX12_hill 139 = .ok (.iaload, 1) := by decide +kernel
theorem dX12_hill_140 : decode cX12_hill 140 = .ok (.invokevirtual 265, 3) := by decide +kernel
theorem dX12_hill_143 : decode cX12_hill 143 = .ok (.ireturn, 1) := by decide +kernel
theorem dX12_hill_144 : decode cX12_hill 144 = .ok (.iload_n 3, 1) := by decide +kernel
theorem dX12_hill_145 : decode cX12_hill 145 = .ok (.ireturn, 1) := by decide +kernel
theorem dX12_hill_146 : decode cX12_hill 146 = .ok (.iconst (-1), 1) := by decide +kernel
theorem dX12_hill_147 : decode cX12_hill 147 = .ok (.ireturn, 1) := by decide +kernel
set_option maxRecDepth 20000 in
theorem ggX12_man_X12_isMan : GoodIn wsX12_man wsX12_isMan := goodIn_r _ [6, 1, 7, 8, 5, 9, 15, 16, 17, 18, 19, 20, 21, 22, 23, 24, 25, 26, 27, 28, 29, 30, 31, 32, 33, 34, 35, 36, 37, 38, 39, 40, 41, 42, 43, 44, 45, 46, 47, 48, 49, 50, 51, 52, 53, 54, 55, 56, 57, 58, 59, 60, 61] rfl (by decide +kernel)
set_option maxRecDepth 20000 in
theorem gX12_man_X12_isMan : GoodIn wsX12_man (wsV RX12 269 RX12 yX12_isMan wsX12_isMan) := goodIn_app (goodIn_of _ (by decide +kernel)) ggX12_man_X12_isMan
set_option maxRecDepth 20000 in
theorem ggX12_man_X12_isIn : GoodIn wsX12_man wsX12_isIn := goodIn_r _ [9] rfl (by decide +kernel)
set_option maxRecDepth 20000 in
theorem gX12_man_X12_isIn : GoodIn wsX12_man (va_wsS RX12 191 yX12_isIn wsX12_isIn) := goodIn_app (goodIn_of _ (by decide +kernel)) ggX12_man_X12_isIn
set_option maxRecDepth 20000 in
theorem ggX12_man_X12_throwsIf : GoodIn wsX12_man wsX12_throwsIf := goodIn_r _ [13, 14, 15, 16, 17, 18, 19, 20, 21, 22, 23, 24, 25, 26, 27, 28, 29, 30, 31, 32, 33, 34, 35, 36, 37, 38, 39, 40, 41, 42, 43, 44, 45, 46, 47, 48, 49, 50, 51, 52, 53, 54, 55, 56, 57, 58, 59, 60, 61] rfl (by decide +kernel)
set_option maxRecDepth 20000 in
theorem gX12_man_X12_throwsIf : GoodIn wsX12_man (wsV RX12 272 RX12 yX12_throwsIf wsX12_throwsIf) := goodIn_app (goodIn_of _ (by decide +kernel)) ggX12_man_X12_throwsIf
theorem dX12_man_0 : decode cX12_man 0 = .ok (.aload_n 0, 1) := by decide +kernel
theorem dX12_man_1 : decode cX12_man 1 = .ok (.aload_n 0, 1) := by decide +kernel
theorem dX12_man_2 : decode cX12_man 2 = .ok (.iload_n 1, 1) := by decide +kernel
theorem dX12_man_3 : decode cX12_man 3 = .ok (.invokevirtual 269, 3) := by decide +kernel
theorem dX12_man_6 : decode cX12_man 6 = .ok (.ifCond .eq 13, 3) := by decide +kernel
theorem dX12_man_9 : decode cX12_man 9 = .ok (.iload_n 2, 1) := by decide +kernel
theorem dX12_man_10 : decode cX12_man 10 = .ok (.iconst 0, 1) := by decide +kernel
theorem dX12_man_11 : decode cX12_man 11 = .ok (.bipush 7, 2) := by decide +kernel
theorem dX12_man_13 : decode cX12_man 13 = .ok (.invokestatic 191, 3) := by decide +kernel
theorem dX12_man_16 : decode cX12_man 16 = .ok (.ifCond .ne 7, 3) := by decide +kernel
theorem dX12_man_19 : decode cX12_man 19 = .ok (.iconst 1, 1) := by decide +kernel
theorem dX12_man_20 : decode cX12_man 20 = .ok (.goto 4, 3) := by decide +kernel
theorem dX12_man_23 : decode cX12_man 23 = .ok (.iconst 0, 1) := by decide +kernel
theorem dX12_man_24 : decode cX12_man 24 = .ok (.invokevirtual 272, 3) := by decide +kernel
theorem dX12_man_27 : decode cX12_man 27 = .ok (.ifCond .eq 5, 3) := by decide +kernel
theorem dX12_man_30 : decode cX12_man 30 = .ok (.iconst 0, 1) := by decide +kernel
theorem dX12_man_31 : decode cX12_man 31 = .ok (.ireturn, 1) := by decide +kernel
theorem dX12_man_32 : decode cX12_man 32 = .ok (.iload_n 2, 1) := by decide +kernel
theorem dX12_man_33 : decode cX12_man 33 = .ok (.tableswitch 121 0 6 #[43, 54, 64, 75, 85, 97, 110], 43) := by decide +kernel
theorem dX12_man_76 : decode cX12_man 76 = .ok (.aload_n 0, 1) := by decide +kernel
theorem dX12_man_77 : decode cX12_man 77 = .ok (.getfield 33, 3) := by decide +kernel
theorem dX12_man_80 : decode cX12_man 80 = .ok (.sipush 214, 3) := by decide +kernel
theorem dX12_man_83 : decode cX12_man 83 = .ok (.iload_n 1, 1) := by decide +kernel
theorem dX12_man_84 : decode cX12_man 84 = .ok (.iadd, 1) := by decide +kernel
theorem dX12_man_85 : decode cX12_man 85 = .ok (.iaload, 1) := by decide +kernel
theorem dX12_man_86 : decode cX12_man 86 = .ok (.ireturn, 1) := by decide +kernel
theorem dX12_man_87 : decode cX12_man 87 = .ok (.aload_n 0, 1) := by decide +kernel
theorem dX12_man_88 : decode cX12_man 88 = .ok (.getfield 33, 3) := by decide +kernel
theorem dX12_man_91 : decode cX12_man 91 = .ok (.bipush 39, 2) := by decide +kernel
theorem dX12_man_93 : decode cX12_man 93 = .ok (.iload_n 1, 1) := by decide +kernel
theorem dX12_man_94 : decode cX12_man 94 = .ok (.iadd, 1) := by decide +kernel
theorem dX12_man_95 : decode cX12_man 95 = .ok (.iaload, 1) := by decide +kernel
theorem dX12_man_96 : decode cX12_man 96 = .ok (.ireturn, 1) := by decide +kernel
theorem dX12_man_97 : decode cX12_man 97 = .ok (.aload_n 0, 1) := by decide +kernel
theorem dX12_man_98 : decode cX12_man 98 = .ok (.getfield 33, 3) := by decide +kernel
theorem dX12_man_101 : decode cX12_man 101 = .ok (.sipush 222, 3) := by decide +kernel
theorem dX12_man_104 : decode cX12_man 104 = .ok (.iload_n 1, 1) := by decide +kernel
theorem dX12_man_105 : decode cX12_man 105 = .ok (.iadd, 1) := by decide +kernel
theorem dX12_man_106 : decode cX12_man 106 = .ok (.iaload, 1) := by decide +kernel
