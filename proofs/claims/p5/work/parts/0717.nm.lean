theorem dX12_beside_48 : decode cX12_beside 48 = .ok (.iload 4, 2) := by decide +kernel
theorem dX12_beside_50 : decode cX12_beside 50 = .ok (.invokevirtual 279, 3) := by decide +kernel
theorem dX12_beside_53 : decode cX12_beside 53 = .ok (.aload_n 0, 1) := by decide +kernel
theorem dX12_beside_54 : decode cX12_beside 54 = .ok (.iload_n 1, 1) := by decide +kernel
theorem dX12_beside_55 : decode cX12_beside 55 = .ok (.invokevirtual 369, 3) := by decide +kernel
theorem dX12_beside_58 : decode cX12_beside 58 = .ok (.istore 5, 2) := by decide +kernel
theorem dX12_beside_60 : decode cX12_beside 60 = .ok (.iload_n 2, 1) := by decide +kernel
theorem dX12_beside_61 : decode cX12_beside 61 = .ok (.ifCond .lt 12, 3) := by decide +kernel
theorem dX12_beside_64 : decode cX12_beside 64 = .ok (.iload 5, 2) := by decide +kernel
theorem dX12_beside_66 : decode cX12_beside 66 = .ok (.iload_n 3, 1) := by decide +kernel
theorem dX12_beside_67 : decode cX12_beside 67 = .ok (.if_icmp .gt 6, 3) := by decide +kernel
theorem dX12_beside_70 : decode cX12_beside 70 = .ok (.goto 9, 3) := by decide +kernel
theorem dX12_beside_73 : decode cX12_beside 73 = .ok (.iload 4, 2) := by decide +kernel
theorem dX12_beside_75 : decode cX12_beside 75 = .ok (.istore_n 2, 1) := by decide +kernel
theorem dX12_beside_76 : decode cX12_beside 76 = .ok (.iload 5, 2) := by decide +kernel
theorem dX12_beside_78 : decode cX12_beside 78 = .ok (.istore_n 3, 1) := by decide +kernel
theorem dX12_beside_79 : decode cX12_beside 79 = .ok (.iinc 4 1, 3) := by decide +kernel
theorem dX12_beside_82 : decode cX12_beside 82 = .ok (.goto (-47), 3) := by decide +kernel
theorem dX12_beside_85 : decode cX12_beside 85 = .ok (.aload_n 0, 1) := by decide +kernel
theorem dX12_beside_86 : decode cX12_beside 86 = .ok (.iload_n 3, 1) := by decide +kernel
theorem dX12_beside_87 : decode cX12_beside 87 = .ok (.invokevirtual 388, 3) := by decide +kernel
theorem dX12_beside_90 : decode cX12_beside 90 = .ok (.iload_n 2, 1) := by decide +kernel
theorem dX12_beside_91 : decode cX12_beside 91 = .ok (.ireturn, 1) := by decide +kernel
set_option maxRecDepth 20000 in
theorem ggX12_hut_X12_isMan : GoodIn wsX12_hut wsX12_isMan := goodIn_r _ [10, 2, 11, 12, 9, 13, 89, 90, 91, 92, 93, 94, 95, 96, 97, 98, 99, 100, 101, 102, 103, 104, 105, 106, 107, 108, 109, 110, 111, 112, 113, 114, 115, 116, 117, 118, 119, 120, 121, 122, 123, 124, 125, 126, 127, 128, 129, 130, 131, 132, 133, 134, 135] rfl (by decide +kernel)
set_option maxRecDepth 20000 in
theorem gX12_hut_X12_isMan : GoodIn wsX12_hut (wsV RX12 269 RX12 yX12_isMan wsX12_isMan) := goodIn_app (goodIn_of _ (by decide +kernel)) ggX12_hut_X12_isMan
set_option maxRecDepth 20000 in
theorem ggX12_hut_X12_asNow : GoodIn wsX12_hut wsX12_asNow := goodIn_r _ [17, 2, 18, 19, 20, 9, 21, 4, 5, 3, 89, 90, 91, 92, 93, 94, 95, 96, 97, 98, 99, 100, 101, 102, 103, 104, 105, 106, 107, 108, 109, 110, 111, 112, 113, 114, 115, 116, 117, 118, 119, 120, 121, 122, 123, 124, 125, 126, 127, 128, 129, 130, 131, 132, 133, 134, 135] rfl (by decide +kernel)
set_option maxRecDepth 20000 in
theorem gX12_hut_X12_asNow : GoodIn wsX12_hut (wsV RX12 318 RX12 yX12_asNow wsX12_asNow) := goodIn_app (goodIn_of _ (by decide +kernel)) ggX12_hut_X12_asNow
set_option maxRecDepth 20000 in
theorem ggX12_hut_X12_meanOf : GoodIn wsX12_hut wsX12_meanOf := goodIn_r _ [25, 2, 26, 27, 28, 29, 9, 30, 31, 32, 33, 34, 35, 36, 37, 38, 39, 40, 41, 42, 43, 44, 45, 46, 47, 3, 4, 48, 49, 50, 51, 5, 52, 53, 54, 55, 56, 57, 58, 59, 60, 61, 62, 63, 64, 65, 66, 67, 68, 69, 70, 71, 72, 73, 74, 75, 76, 77, 89, 90, 91, 92, 93, 94, 95, 96, 97, 98, 99, 100, 101, 102, 103, 104, 105, 106, 107, 108, 109, 110, 111, 112, 113, 114, 115, 116, 117, 118, 119, 120, 121, 122, 123, 124, 125, 126, 127, 128, 129, 130, 131, 132, 133, 134, 135] rfl (by decide +kernel)
set_option maxRecDepth 20000 in
theorem gX12_hut_X12_meanOf : GoodIn wsX12_hut (wsV RX12 369 RX12 yX12_meanOf wsX12_meanOf) := goodIn_app (goodIn_of _ (by decide +kernel)) ggX12_hut_X12_meanOf
set_option maxRecDepth 20000 in
theorem ggX12_hut_X12_tellsBetter : GoodIn wsX12_hut wsX12_tellsBetter := goodIn_r _ [81, 82, 83, 84, 85, 86, 87, 9, 88, 2, 89, 90, 91, 92, 93, 94, 95, 96, 97, 98, 99, 100, 101, 102, 103, 104, 105, 106, 107, 108, 109, 110, 111, 112, 113, 114, 115, 116, 117, 118, 119, 120, 121, 122, 123, 124, 125, 126, 127, 128, 129, 130, 131, 132, 133, 134, 135] rfl (by decide +kernel)
set_option maxRecDepth 20000 in
theorem gX12_hut_X12_tellsBetter : GoodIn wsX12_hut (wsV RX12 388 RX12 yX12_tellsBetter wsX12_tellsBetter) := goodIn_app (goodIn_of _ (by decide +kernel)) ggX12_hut_X12_tellsBetter
theorem dX12_hut_0 : decode cX12_hut 0 = .ok (.aload_n 0, 1) := by decide +kernel
theorem dX12_hut_1 : decode cX12_hut 1 = .ok (.iconst 0, 1) := by decide +kernel
theorem dX12_hut_2 : decode cX12_hut 2 = .ok (.putfield 1, 3) := by decide +kernel
theorem dX12_hut_5 : decode cX12_hut 5 = .ok (.aload_n 0, 1) := by decide +kernel
theorem dX12_hut_6 : decode cX12_hut 6 = .ok (.iload_n 1, 1) := by decide +kernel
theorem dX12_hut_7 : decode cX12_hut 7 = .ok (.invokevirtual 269, 3) := by decide +kernel
theorem dX12_hut_10 : decode cX12_hut 10 = .ok (.ifCond .eq 12, 3) := by decide +kernel
theorem dX12_hut_13 : decode cX12_hut 13 = .ok (.aload_n 0, 1) := by decide +kernel
theorem dX12_hut_14 : decode cX12_hut 14 = .ok (.getfield 33, 3) := by decide +kernel
theorem dX12_hut_17 : decode cX12_hut 17 = .ok (.iconst 2, 1) := by decide +kernel
theorem dX12_hut_18 : decode cX12_hut 18 = .ok (.iaload, 1) := by decide +kernel
theorem dX12_hut_19 : decode cX12_hut 19 = .ok (.ifCond .ne 5, 3) := by decide +kernel
theorem dX12_hut_22 : decode cX12_hut 22 = .ok (.iconst (-1), 1) := by decide +kernel
theorem dX12_hut_23 : decode cX12_hut 23 = .ok (.ireturn, 1) := by decide +kernel
theorem dX12_hut_24 : decode cX12_hut 24 = .ok (.aload_n 0, 1) := by decide +kernel
theorem dX12_hut_25 : decode cX12_hut 25 = .ok (.invokevirtual 318, 3) := by decide +kernel
theorem dX12_hut_28 : decode cX12_hut 28 = .ok (.aload_n 0, 1) := by decide +kernel
theorem dX12_hut_29 : decode cX12_hut 29 = .ok (.getfield 56, 3) := by decide +kernel
theorem dX12_hut_32 : decode cX12_hut 32 = .ok (.iload_n 1, 1) := by decide +kernel
theorem dX12_hut_33 : decode cX12_hut 33 = .ok (.iconst 0, 1) := by decide +kernel
theorem dX12_hut_34 : decode cX12_hut 34 = .ok (.iastore, 1) := by decide +kernel
theorem dX12_hut_35 : decode cX12_hut 35 = .ok (.iconst (-1), 1) := by decide +kernel
theorem dX12_hut_36 : decode cX12_hut 36 = .ok (.istore_n 2, 1) := by decide +kernel
theorem dX12_hut_37 : decode cX12_hut 37 = .ok (.iconst 0, 1) := by decide +kernel
theorem dX12_hut_38 : decode cX12_hut 38 = .ok (.istore_n 3, 1) := by decide +kernel
theorem dX12_hut_39 : decode cX12_hut 39 = .ok (.iconst 0, 1) := by decide +kernel
theorem dX12_hut_40 : decode cX12_hut 40 = .ok (.istore 4, 2) := by decide +kernel
theorem dX12_hut_42 : decode cX12_hut 42 = .ok (.iload 4, 2) := by decide +kernel
theorem dX12_hut_44 : decode cX12_hut 44 = .ok (.bipush 20, 2) := by decide +kernel
theorem dX12_hut_46 : decode cX12_hut 46 = .ok (.if_icmp .gt 73, 3) := by decide +kernel
theorem dX12_hut_49 : decode cX12_hut 49 = .ok (.iconst 0, 1) := by decide +kernel
theorem dX12_hut_50 : decode cX12_hut 50 = .ok (.istore 5, 2) := by decide +kernel
theorem dX12_hut_52 : decode cX12_hut 52 = .ok (.iload 5, 2) := by decide +kernel
theorem dX12_hut_54 : decode cX12_hut 54 = .ok (.bipush 20, 2) := by decide +kernel
theorem dX12_hut_56 : decode cX12_hut 56 = .ok (.if_icmp .gt 57, 3) := by decide +kernel
theorem dX12_hut_59 : decode cX12_hut 59 = .ok (.aload_n 0, 1) := by decide +kernel
theorem dX12_hut_60 : decode cX12_hut 60 = .ok (.getfield 50, 3) := by decide +kernel
theorem dX12_hut_63 : decode cX12_hut 63 = .ok (.iload_n 1, 1) := by decide +kernel
theorem dX12_hut_64 : decode cX12_hut 64 = .ok (.iload 5, 2) := by decide +kernel
theorem dX12_hut_66 : decode cX12_hut 66 = .ok (.iastore, 1) := by decide +kernel
theorem dX12_hut_67 : decode cX12_hut 67 = .ok (.aload_n 0, 1) := by decide +kernel
theorem dX12_hut_68 : decode cX12_hut 68 = .ok (.getfield 53, 3) := by decide +kernel
theorem dX12_hut_71 : decode cX12_hut 71 = .ok (.iload_n 1, 1) := by decide +kernel
theorem dX12_hut_72 : decode cX12_hut 72 = .ok (.iload 4, 2) := by decide +kernel
theorem dX12_hut_74 : decode cX12_hut 74 = .ok (.iastore, 1) := by decide +kernel
theorem dX12_hut_75 : decode cX12_hut 75 = .ok (.aload_n 0, 1) := by decide +kernel
theorem dX12_hut_76 : decode cX12_hut 76 = .ok (.iload_n 1, 1) := by decide +kernel
theorem dX12_hut_77 : decode cX12_hut 77 = .ok (.invokevirtual 369, 3) := by decide +kernel
theorem dX12_hut_80 : decode cX12_hut 80 = .ok (.istore 6, 2) := by decide +kernel
theorem dX12_hut_82 : decode cX12_hut 82 = .ok (.iload_n 2, 1) := by decide +kernel
theorem dX12_hut_83 : decode cX12_hut 83 = .ok (.ifCond .lt 12, 3) := by decide +kernel
theorem dX12_hut_86 : decode cX12_hut 86 = .ok (.iload 6, 2) := by decide +kernel
theorem dX12_hut_88 : decode cX12_hut 88 = .ok (.iload_n 3, 1) := by decide +kernel
theorem dX12_hut_89 : decode cX12_hut 89 = .ok (.if_icmp .gt 6, 3) := by decide +kernel
theorem dX12_hut_92 : decode cX12_hut 92 = .ok (.goto 15, 3) := by decide +kernel
theorem dX12_hut_95 : decode cX12_hut 95 = .ok (.bipush 100, 2) := by decide +kernel
theorem dX12_hut_97 : decode cX12_hut 97 = .ok (.iload 4, 2) := by decide +kernel
theorem dX12_hut_99 : decode cX12_hut 99 = .ok (.imul, 1) := by decide +kernel
theorem dX12_hut_100 : decode cX12_hut 100 = .ok (.iload 5, 2) := by decide +kernel
theorem dX12_hut_102 : decode cX12_hut 102 = .ok (.iadd, 1) := by decide +kernel
theorem dX12_hut_103 : decode cX12_hut 103 = .ok (.istore_n 2, 1) := by decide +kernel
theorem dX12_hut_104 : decode cX12_hut 104 = .ok (.iload 6, 2) := by decide +kernel
theorem dX12_hut_106 : decode cX12_hut 106 = .ok (.istore_n 3, 1) := by decide +kernel
theorem dX12_hut_107 : decode cX12_hut 107 = .ok (.iinc 5 1, 3) := by decide +kernel
theorem dX12_hut_110 : decode cX12_hut 110 = .ok (.goto (-58), 3) := by decide +kernel
theorem dX12_hut_113 : decode cX12_hut 113 = .ok (.iinc 4 1, 3) := by decide +kernel
theorem dX12_hut_116 : decode cX12_hut 116 = .ok (.goto (-74), 3) := by decide +kernel
theorem dX12_hut_119 : decode cX12_hut 119 = .ok (.aload_n 0, 1) := by decide +kernel
theorem dX12_hut_120 : decode cX12_hut 120 = .ok (.iload_n 3, 1) := by decide +kernel
theorem dX12_hut_121 : decode cX12_hut 121 = .ok (.invokevirtual 388, 3) := by decide +kernel
theorem dX12_hut_124 : decode cX12_hut 124 = .ok (.iload_n 2, 1) := by decide +kernel
theorem dX12_hut_125 : decode cX12_hut 125 = .ok (.ireturn, 1) := by decide +kernel
set_option maxRecDepth 20000 in
theorem ggX12_better_X12_isIn : GoodIn wsX12_better wsX12_isIn := goodIn_r _ [7] rfl (by decide +kernel)
set_option maxRecDepth 20000 in
theorem gX12_better_X12_isIn : GoodIn wsX12_better (va_wsS RX12 191 yX12_isIn wsX12_isIn) := goodIn_app (goodIn_of _ (by decide +kernel)) ggX12_better_X12_isIn
set_option maxRecDepth 20000 in
theorem ggX12_better_X12_throwsIf : GoodIn wsX12_better wsX12_throwsIf := goodIn_r _ [11, 12, 16, 17, 18, 19, 20, 21, 22, 23, 24, 25, 26, 27, 28, 29, 30, 31, 32, 33, 34, 35, 36, 37, 38, 39, 40, 41, 42, 43, 44, 45, 46, 47, 48, 49, 50, 51, 52, 53, 54, 55, 56, 57, 58, 59, 60, 61, 62] rfl (by decide +kernel)
set_option maxRecDepth 20000 in
theorem gX12_better_X12_throwsIf : GoodIn wsX12_better (wsV RX12 272 RX12 yX12_throwsIf wsX12_throwsIf) := goodIn_app (goodIn_of _ (by decide +kernel)) ggX12_better_X12_throwsIf
set_option maxRecDepth 20000 in
theorem ggX12_better_X12_part : GoodIn wsX12_better wsX12_part := goodIn_r _ [15] rfl (by decide +kernel)
set_option maxRecDepth 20000 in
theorem gX12_better_X12_part : GoodIn wsX12_better (va_wsS RX12 375 yX12_part wsX12_part) := goodIn_app (goodIn_of _ (by decide +kernel)) ggX12_better_X12_part
theorem dX12_better_0 : decode cX12_better 0 = .ok (.aload_n 0, 1) := by decide +kernel
theorem dX12_better_1 : decode cX12_better 1 = .ok (.aload_n 0, 1) := by decide +kernel
theorem dX12_better_2 : decode cX12_better 2 = .ok (.getfield 378, 3) := by decide +kernel
theorem dX12_better_5 : decode cX12_better 5 = .ok (.ifCond .eq 12, 3) := by decide +kernel
theorem dX12_better_8 : decode cX12_better 8 = .ok (.iload_n 1, 1) := by decide +kernel
theorem dX12_better_9 : decode cX12_better 9 = .ok (.iconst 0, 1) := by decide +kernel
theorem dX12_better_10 : decode cX12_better 10 = .ok (.iconst 1, 1) := by decide +kernel
theorem dX12_better_11 : decode cX12_better 11 = .ok (.invokestatic 191, 3) := by decide +kernel
theorem dX12_better_14 : decode cX12_better 14 = .ok (.ifCond .ne 7, 3) := by decide +kernel
theorem dX12_better_17 : decode cX12_better 17 = .ok (.iconst 1, 1) := by decide +kernel
theorem dX12_better_18 : decode cX12_better 18 = .ok (.goto 4, 3) := by decide +kernel
theorem dX12_better_21 : decode cX12_better 21 = .ok (.iconst 0, 1) := by decide +kernel
theorem dX12_better_22 : decode cX12_better 22 = .ok (.invokevirtual 272, 3) := by decide +kernel
theorem dX12_better_25 : decode cX12_better 25 = .ok (.ifCond .eq 7, 3) := by decide +kernel
theorem dX12_better_28 : decode cX12_better 28 = .ok (.iconst 0, 1) := by decide +kernel
theorem dX12_better_29 : decode cX12_better 29 = .ok (.goto 15, 3) := by decide +kernel
theorem dX12_better_32 : decode cX12_better 32 = .ok (.aload_n 0, 1) := by decide +kernel
theorem dX12_better_33 : decode cX12_better 33 = .ok (.getfield 382, 3) := by decide +kernel
theorem dX12_better_36 : decode cX12_better 36 = .ok (.aload_n 0, 1) := by decide +kernel
theorem dX12_better_37 : decode cX12_better 37 = .ok (.getfield 385, 3) := by decide +kernel
theorem dX12_better_40 : decode cX12_better 40 = .ok (.iload_n 1, 1) := by decide +kernel
theorem dX12_better_41 : decode cX12_better 41 = .ok (.invokestatic 375, 3) := by decide +kernel
theorem dX12_better_44 : decode cX12_better 44 = .ok (.ireturn, 1) := by decide +kernel
set_option maxRecDepth 20000 in
theorem ggX12_whence_X12_taken : GoodIn wsX12_whence wsX12_taken := goodIn_r _ [8, 9, 2, 10, 11, 54, 55, 56, 57, 58, 59, 60, 61, 62, 63, 64, 65, 66, 67, 68, 69, 70, 71, 72, 73, 74, 75, 76, 77, 78, 79, 80, 81, 82, 83, 84, 85, 86, 87, 88, 89, 90, 91, 92, 93, 94, 95, 96, 97, 98, 99, 100] rfl (by decide +kernel)
set_option maxRecDepth 20000 in
theorem gX12_whence_X12_taken : GoodIn wsX12_whence (wsV RX12 244 RX12 yX12_taken wsX12_taken) := goodIn_app (goodIn_of _ (by decide +kernel)) ggX12_whence_X12_taken
set_option maxRecDepth 20000 in
theorem ggX12_whence_X12_isIn : GoodIn wsX12_whence wsX12_isIn := goodIn_r _ [14] rfl (by decide +kernel)
set_option maxRecDepth 20000 in
theorem gX12_whence_X12_isIn : GoodIn wsX12_whence (va_wsS RX12 191 yX12_isIn wsX12_isIn) := goodIn_app (goodIn_of _ (by decide +kernel)) ggX12_whence_X12_isIn
set_option maxRecDepth 20000 in
theorem ggX12_whence_X12_octet : GoodIn wsX12_whence wsX12_octet := goodIn_r _ [18, 19, 54, 55, 56, 57, 58, 59, 60, 61, 62, 63, 64, 65, 66, 67, 68, 69, 70, 71, 72, 73, 74, 75, 76, 77, 78, 79, 80, 81, 82, 83, 84, 85, 86, 87, 88, 89, 90, 91, 92, 93, 94, 95, 96, 97, 98, 99, 100] rfl (by decide +kernel)
set_option maxRecDepth 20000 in
theorem gX12_whence_X12_octet : GoodIn wsX12_whence (wsV RX12 391 RX12 yX12_octet wsX12_octet) := goodIn_app (goodIn_of _ (by decide +kernel)) ggX12_whence_X12_octet
set_option maxRecDepth 20000 in
theorem ggX12_whence_X12_isMan : GoodIn wsX12_whence wsX12_isMan := goodIn_r _ [23, 3, 12, 13, 7, 14, 54, 55, 56, 57, 58, 59, 60, 61, 62, 63, 64, 65, 66, 67, 68, 69, 70, 71, 72, 73, 74, 75, 76, 77, 78, 79, 80, 81, 82, 83, 84, 85, 86, 87, 88, 89, 90, 91, 92, 93, 94, 95, 96, 97, 98, 99, 100] rfl (by decide +kernel)
set_option maxRecDepth 20000 in
theorem gX12_whence_X12_isMan : GoodIn wsX12_whence (wsV RX12 269 RX12 yX12_isMan wsX12_isMan) := goodIn_app (goodIn_of _ (by decide +kernel)) ggX12_whence_X12_isMan
set_option maxRecDepth 20000 in
theorem ggX12_whence_X12_asNow : GoodIn wsX12_whence wsX12_asNow := goodIn_r _ [27, 3, 28, 29, 30, 7, 31, 32, 33, 34, 54, 55, 56, 57, 58, 59, 60, 61, 62, 63, 64, 65, 66, 67, 68, 69, 70, 71, 72, 73, 74, 75, 76, 77, 78, 79, 80, 81, 82, 83, 84, 85, 86, 87, 88, 89, 90, 91, 92, 93, 94, 95, 96, 97, 98, 99, 100] rfl (by decide +kernel)
set_option maxRecDepth 20000 in
theorem gX12_whence_X12_asNow : GoodIn wsX12_whence (wsV RX12 318 RX12 yX12_asNow wsX12_asNow) := goodIn_app (goodIn_of _ (by decide +kernel)) ggX12_whence_X12_asNow
set_option maxRecDepth 20000 in
theorem ggX12_whence_X12_canHear : GoodIn wsX12_whence wsX12_canHear := goodIn_r _ [38, 3, 34, 32, 39, 40, 41, 7, 42, 33, 43, 44, 45, 46, 47, 48, 49, 50, 51, 52, 53, 54, 55, 56, 57, 58, 59, 60, 61, 62, 63, 64, 65, 66, 67, 68, 69, 70, 71, 72, 73, 74, 75, 76, 77, 78, 79, 80, 81, 82, 83, 84, 85, 86, 87, 88, 89, 90, 91, 92, 93, 94, 95, 96, 97, 98, 99, 100] rfl (by decide +kernel)
set_option maxRecDepth 20000 in
theorem gX12_whence_X12_canHear : GoodIn wsX12_whence (wsV RX12 293 RX12 yX12_canHear wsX12_canHear) := goodIn_app (goodIn_of _ (by decide +kernel)) ggX12_whence_X12_canHear
theorem dX12_whence_0 : decode cX12_whence 0 = .ok (.aload_n 0, 1) := by decide +kernel
theorem dX12_whence_1 : decode cX12_whence 1 = .ok (.iconst 0, 1) := by decide +kernel
theorem dX12_whence_2 : decode cX12_whence 2 = .ok (.putfield 1, 3) := by decide +kernel
theorem dX12_whence_5 : decode cX12_whence 5 = .ok (.aload_n 0, 1) := by decide +kernel
theorem dX12_whence_6 : decode cX12_whence 6 = .ok (.sipush 940, 3) := by decide +kernel
theorem dX12_whence_9 : decode cX12_whence 9 = .ok (.invokevirtual 244, 3) := by decide +kernel
theorem dX12_whence_12 : decode cX12_whence 12 = .ok (.aload_n 0, 1) := by decide +kernel
theorem dX12_whence_13 : decode cX12_whence 13 = .ok (.getfield 18, 3) := by decide +kernel
theorem dX12_whence_16 : decode cX12_whence 16 = .ok (.iconst 2, 1) := by decide +kernel
theorem dX12_whence_17 : decode cX12_whence 17 = .ok (.bipush 40, 2) := by decide +kernel
theorem dX12_whence_19 : decode cX12_whence 19 = .ok (.invokestatic 191, 3) := by decide +kernel
theorem dX12_whence_22 : decode cX12_whence 22 = .ok (.ifCond .eq 13, 3) := by decide +kernel
theorem dX12_whence_25 : decode cX12_whence 25 = .ok (.aload_n 0, 1) := by decide +kernel
theorem dX12_whence_26 : decode cX12_whence 26 = .ok (.getfield 18, 3) := by decide +kernel
theorem dX12_whence_29 : decode cX12_whence 29 = .ok (.iconst 2, 1) := by decide +kernel
theorem dX12_whence_30 : decode cX12_whence 30 = .ok (.irem, 1) := by decide +kernel
theorem dX12_whence_31 : decode cX12_whence 31 = .ok (.iconst 1, 1) := by decide +kernel
theorem dX12_whence_32 : decode cX12_whence 32 = .ok (.if_icmp .ne 5, 3) := by decide +kernel
theorem dX12_whence_35 : decode cX12_whence 35 = .ok (.iconst (-1), 1) := by decide +kernel
theorem dX12_whence_36 : decode cX12_whence 36 = .ok (.ireturn, 1) := by decide +kernel
theorem dX12_whence_37 : decode cX12_whence 37 = .ok (.iconst 0, 1) := by decide +kernel
theorem dX12_whence_38 : decode cX12_whence 38 = .ok (.istore_n 1, 1) := by decide +kernel
theorem dX12_whence_39 : decode cX12_whence 39 = .ok (.iload_n 1, 1) := by decide +kernel
theorem dX12_whence_40 : decode cX12_whence 40 = .ok (.aload_n 0, 1) := by decide +kernel
theorem dX12_whence_41 : decode cX12_whence 41 = .ok (.getfield 18, 3) := by decide +kernel
theorem dX12_whence_44 : decode cX12_whence 44 = .ok (.if_icmp .ge 23, 3) := by decide +kernel
theorem dX12_whence_47 : decode cX12_whence 47 = .ok (.aload_n 0, 1) := by decide +kernel
theorem dX12_whence_48 : decode cX12_whence 48 = .ok (.aload_n 0, 1) := by decide +kernel
theorem dX12_whence_49 : decode cX12_whence 49 = .ok (.iload_n 1, 1) := by decide +kernel
theorem dX12_whence_50 : decode cX12_whence 50 = .ok (.invokevirtual 391, 3) := by decide +kernel
theorem dX12_whence_53 : decode cX12_whence 53 = .ok (.invokevirtual 269, 3) := by decide +kernel
theorem dX12_whence_56 : decode cX12_whence 56 = .ok (.ifCond .ne 5, 3) := by decide +kernel
theorem dX12_whence_59 : decode cX12_whence 59 = .ok (.iconst (-1), 1) := by decide +kernel
theorem dX12_whence_60 : decode cX12_whence 60 = .ok (.ireturn, 1) := by decide +kernel
theorem dX12_whence_61 : decode cX12_whence 61 = .ok (.iinc 1 2, 3) := by decide +kernel
theorem dX12_whence_64 : decode cX12_whence 64 = .ok (.goto (-25), 3) := by decide +kernel
theorem dX12_whence_67 : decode cX12_whence 67 = .ok (.aload_n 0, 1) := by decide +kernel
theorem dX12_whence_68 : decode cX12_whence 68 = .ok (.invokevirtual 318, 3) := by decide +kernel
theorem dX12_whence_71 : decode cX12_whence 71 = .ok (.iconst 0, 1) := by decide +kernel
theorem dX12_whence_72 : decode cX12_whence 72 = .ok (.istore_n 1, 1) := by decide +kernel
theorem dX12_whence_73 : decode cX12_whence 73 = .ok (.iconst 0, 1) := by decide +kernel
theorem dX12_whence_74 : decode cX12_whence 74 = .ok (.istore_n 2, 1) := by decide +kernel
theorem dX12_whence_75 : decode cX12_whence 75 = .ok (.iload_n 2, 1) := by decide +kernel
theorem dX12_whence_76 : decode cX12_whence 76 = .ok (.aload_n 0, 1) := by decide +kernel
theorem dX12_whence_77 : decode cX12_whence 77 = .ok (.getfield 33, 3) := by decide +kernel
theorem dX12_whence_80 : decode cX12_whence 80 = .ok (.iconst 2, 1) := by decide +kernel
theorem dX12_whence_81 : decode cX12_whence 81 = .ok (.iaload, 1) := by decide +kernel
theorem dX12_whence_82 : decode cX12_whence 82 = .ok (.if_icmp .ge 124, 3) := by decide +kernel
theorem dX12_whence_85 : decode cX12_whence 85 = .ok (.iconst 1, 1) := by decide +kernel
theorem dX12_whence_86 : decode cX12_whence 86 = .ok (.istore_n 3, 1) := by decide +kernel
theorem dX12_whence_87 : decode cX12_whence 87 = .ok (.iconst 0, 1) := by decide +kernel
theorem dX12_whence_88 : decode cX12_whence 88 = .ok (.istore 4, 2) := by decide +kernel
theorem dX12_whence_90 : decode cX12_whence 90 = .ok (.iload 4, 2) := by decide +kernel
theorem dX12_whence_92 : decode cX12_whence 92 = .ok (.aload_n 0, 1) := by decide +kernel
theorem dX12_whence_93 : decode cX12_whence 93 = .ok (.getfield 18, 3) := by decide +kernel
theorem dX12_whence_96 : decode cX12_whence 96 = .ok (.if_icmp .ge 90, 3) := by decide +kernel
theorem dX12_whence_99 : decode cX12_whence 99 = .ok (.iload_n 3, 1) := by decide +kernel
theorem dX12_whence_100 : decode cX12_whence 100 = .ok (.ifCond .eq 86, 3) := by decide +kernel
theorem dX12_whence_103 : decode cX12_whence 103 = .ok (.iconst 0, 1) := by decide +kernel
theorem dX12_whence_104 : decode cX12_whence 104 = .ok (.istore_n 3, 1) := by decide +kernel
theorem dX12_whence_105 : decode cX12_whence 105 = .ok (.iconst 0, 1) := by decide +kernel
theorem dX12_whence_106 : decode cX12_whence 106 = .ok (.istore 5, 2) := by decide +kernel
theorem dX12_whence_108 : decode cX12_whence 108 = .ok (.iload 5, 2) := by decide +kernel
theorem dX12_whence_110 : decode cX12_whence 110 = .ok (.aload_n 0, 1) := by decide +kernel
theorem dX12_whence_111 : decode cX12_whence 111 = .ok (.getfield 33, 3) := by decide +kernel
theorem dX12_whence_114 : decode cX12_whence 114 = .ok (.bipush 87, 2) := by decide +kernel
theorem dX12_whence_116 : decode cX12_whence 116 = .ok (.iload_n 2, 1) := by decide +kernel
theorem dX12_whence_117 : decode cX12_whence 117 = .ok (.iadd, 1) := by decide +kernel
theorem dX12_whence_118 : decode cX12_whence 118 = .ok (.iaload, 1) := by decide +kernel
theorem dX12_whence_119 : decode cX12_whence 119 = .ok (.if_icmp .ge 61, 3) := by decide +kernel
theorem dX12_whence_122 : decode cX12_whence 122 = .ok (.iload_n 3, 1) := by decide +kernel
theorem dX12_whence_123 : decode cX12_whence 123 = .ok (.ifCond .ne 45, 3) := by decide +kernel
theorem dX12_whence_126 : decode cX12_whence 126 = .ok (.aload_n 0, 1) := by decide +kernel
theorem dX12_whence_127 : decode cX12_whence 127 = .ok (.getfield 33, 3) := by decide +kernel
