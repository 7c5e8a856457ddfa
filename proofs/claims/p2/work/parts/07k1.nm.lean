theorem dX12_enough_44 : decode cX12_enough 44 = .ok (.iload_n 2, 1) := by decide +kernel
theorem dX12_enough_45 : decode cX12_enough 45 = .ok (.aload_n 0, 1) := by decide +kernel
theorem dX12_enough_46 : decode cX12_enough 46 = .ok (.getfield 33, 3) := by decide +kernel
theorem dX12_enough_49 : decode cX12_enough 49 = .ok (.bipush 71, 2) := by decide +kernel
theorem dX12_enough_51 : decode cX12_enough 51 = .ok (.iload_n 3, 1) := by decide +kernel
theorem dX12_enough_52 : decode cX12_enough 52 = .ok (.iadd, 1) := by decide +kernel
theorem dX12_enough_53 : decode cX12_enough 53 = .ok (.iaload, 1) := by decide +kernel
theorem dX12_enough_54 : decode cX12_enough 54 = .ok (.ifCond .le 29, 3) := by decide +kernel
theorem dX12_enough_57 : decode cX12_enough 57 = .ok (.aload_n 0, 1) := by decide +kernel
theorem dX12_enough_58 : decode cX12_enough 58 = .ok (.getfield 59, 3) := by decide +kernel
theorem dX12_enough_61 : decode cX12_enough 61 = .ok (.iload_n 3, 1) := by decide +kernel
theorem dX12_enough_62 : decode cX12_enough 62 = .ok (.iaload, 1) := by decide +kernel
theorem dX12_enough_63 : decode cX12_enough 63 = .ok (.aload_n 0, 1) := by decide +kernel
theorem dX12_enough_64 : decode cX12_enough 64 = .ok (.getfield 33, 3) := by decide +kernel
theorem dX12_enough_67 : decode cX12_enough 67 = .ok (.bipush 71, 2) := by decide +kernel
theorem dX12_enough_69 : decode cX12_enough 69 = .ok (.iload_n 3, 1) := by decide +kernel
theorem dX12_enough_70 : decode cX12_enough 70 = .ok (.iadd, 1) := by decide +kernel
theorem dX12_enough_71 : decode cX12_enough 71 = .ok (.iaload, 1) := by decide +kernel
theorem dX12_enough_72 : decode cX12_enough 72 = .ok (.iconst 1, 1) := by decide +kernel
theorem dX12_enough_73 : decode cX12_enough 73 = .ok (.isub, 1) := by decide +kernel
theorem dX12_enough_74 : decode cX12_enough 74 = .ok (.if_icmp .lt 9, 3) := by decide +kernel
theorem dX12_enough_77 : decode cX12_enough 77 = .ok (.iconst 1, 1) := by decide +kernel
theorem dX12_enough_78 : decode cX12_enough 78 = .ok (.iload_n 3, 1) := by decide +kernel
theorem dX12_enough_79 : decode cX12_enough 79 = .ok (.ishl, 1) := by decide +kernel
theorem dX12_enough_80 : decode cX12_enough 80 = .ok (.goto 4, 3) := by decide +kernel
theorem dX12_enough_83 : decode cX12_enough 83 = .ok (.iconst 0, 1) := by decide +kernel
theorem dX12_enough_84 : decode cX12_enough 84 = .ok (.ior, 1) := by decide +kernel
theorem dX12_enough_85 : decode cX12_enough 85 = .ok (.istore_n 2, 1) := by decide +kernel
theorem dX12_enough_86 : decode cX12_enough 86 = .ok (.iinc 3 1, 3) := by decide +kernel
theorem dX12_enough_89 : decode cX12_enough 89 = .ok (.goto (-55), 3) := by decide +kernel
theorem dX12_enough_92 : decode cX12_enough 92 = .ok (.iload_n 2, 1) := by decide +kernel
theorem dX12_enough_93 : decode cX12_enough 93 = .ok (.ireturn, 1) := by decide +kernel
set_option maxRecDepth 20000 in
theorem ggX12_least_X12_isFlight : GoodIn wsX12_least wsX12_isFlight := goodIn_r _ [9, 3, 10, 11, 8, 12, 74, 75, 76, 77, 78, 79, 80, 81, 82, 83, 84, 85, 86, 87, 88, 89, 90, 91, 92, 93, 94, 95, 96, 97, 98, 99, 100, 101, 102, 103, 104, 105, 106, 107, 108, 109, 110, 111, 112, 113, 114, 115, 116, 117, 118, 119, 120] rfl (by decide +kernel)
set_option maxRecDepth 20000 in
theorem gX12_least_X12_isFlight : GoodIn wsX12_least (wsV RX12 259 RX12 yX12_isFlight wsX12_isFlight) := goodIn_app (goodIn_of _ (by decide +kernel)) ggX12_least_X12_isFlight
set_option maxRecDepth 20000 in
theorem ggX12_least_X12_asNow : GoodIn wsX12_least wsX12_asNow := goodIn_r _ [16, 3, 17, 18, 19, 8, 20, 21, 22, 23, 74, 75, 76, 77, 78, 79, 80, 81, 82, 83, 84, 85, 86, 87, 88, 89, 90, 91, 92, 93, 94, 95, 96, 97, 98, 99, 100, 101, 102, 103, 104, 105, 106, 107, 108, 109, 110, 111, 112, 113, 114, 115, 116, 117, 118, 119, 120] rfl (by decide +kernel)
set_option maxRecDepth 20000 in
theorem gX12_least_X12_asNow : GoodIn wsX12_least (wsV RX12 318 RX12 yX12_asNow wsX12_asNow) := goodIn_app (goodIn_of _ (by decide +kernel)) ggX12_least_X12_asNow
set_option maxRecDepth 20000 in
theorem ggX12_least_X12_sharesBy : GoodIn wsX12_least wsX12_sharesBy := goodIn_r _ [27, 28, 29, 30, 8, 31, 2, 4, 32, 33, 34, 35, 3, 36, 37, 38, 39, 40, 41, 42, 43, 23, 21, 44, 45, 46, 47, 22, 48, 49, 50, 51, 52, 53, 54, 55, 56, 57, 58, 59, 60, 61, 62, 63, 64, 65, 66, 67, 68, 69, 70, 71, 72, 73, 74, 75, 76, 77, 78, 79, 80, 81, 82, 83, 84, 85, 86, 87, 88, 89, 90, 91, 92, 93, 94, 95, 96, 97, 98, 99, 100, 101, 102, 103, 104, 105, 106, 107, 108, 109, 110, 111, 112, 113, 114, 115, 116, 117, 118, 119, 120] rfl (by decide +kernel)
set_option maxRecDepth 20000 in
theorem gX12_least_X12_sharesBy : GoodIn wsX12_least (wsV RX12 366 RX12 yX12_sharesBy wsX12_sharesBy) := goodIn_app (goodIn_of _ (by decide +kernel)) ggX12_least_X12_sharesBy
set_option maxRecDepth 20000 in
theorem ggX12_least_X12_bitOf : GoodIn wsX12_least wsX12_bitOf := goodIn_r _ [69] rfl (by decide +kernel)
set_option maxRecDepth 20000 in
theorem gX12_least_X12_bitOf : GoodIn wsX12_least (va_wsS RX12 216 yX12_bitOf wsX12_bitOf) := goodIn_app (goodIn_of _ (by decide +kernel)) ggX12_least_X12_bitOf
theorem dX12_least_0 : decode cX12_least 0 = .ok (.aload_n 0, 1) := by decide +kernel
theorem dX12_least_1 : decode cX12_least 1 = .ok (.iconst 0, 1) := by decide +kernel
theorem dX12_least_2 : decode cX12_least 2 = .ok (.putfield 1, 3) := by decide +kernel
theorem dX12_least_5 : decode cX12_least 5 = .ok (.aload_n 0, 1) := by decide +kernel
theorem dX12_least_6 : decode cX12_least 6 = .ok (.iload_n 1, 1) := by decide +kernel
theorem dX12_least_7 : decode cX12_least 7 = .ok (.invokevirtual 259, 3) := by decide +kernel
theorem dX12_least_10 : decode cX12_least 10 = .ok (.ifCond .ne 5, 3) := by decide +kernel
theorem dX12_least_13 : decode cX12_least 13 = .ok (.iconst (-1), 1) := by decide +kernel
theorem dX12_least_14 : decode cX12_least 14 = .ok (.ireturn, 1) := by decide +kernel
theorem dX12_least_15 : decode cX12_least 15 = .ok (.aload_n 0, 1) := by decide +kernel
theorem dX12_least_16 : decode cX12_least 16 = .ok (.invokevirtual 318, 3) := by decide +kernel
theorem dX12_least_19 : decode cX12_least 19 = .ok (.iconst 0, 1) := by decide +kernel
theorem dX12_least_20 : decode cX12_least 20 = .ok (.istore_n 2, 1) := by decide +kernel
theorem dX12_least_21 : decode cX12_least 21 = .ok (.iload_n 2, 1) := by decide +kernel
theorem dX12_least_22 : decode cX12_least 22 = .ok (.sipush 1000, 3) := by decide +kernel
theorem dX12_least_25 : decode cX12_least 25 = .ok (.if_icmp .ge 98, 3) := by decide +kernel
theorem dX12_least_28 : decode cX12_least 28 = .ok (.aload_n 0, 1) := by decide +kernel
theorem dX12_least_29 : decode cX12_least 29 = .ok (.iload_n 1, 1) := by decide +kernel
theorem dX12_least_30 : decode cX12_least 30 = .ok (.iload_n 2, 1) := by decide +kernel
theorem dX12_least_31 : decode cX12_least 31 = .ok (.invokevirtual 366, 3) := by decide +kernel
theorem dX12_least_34 : decode cX12_least 34 = .ok (.aload_n 0, 1) := by decide +kernel
theorem dX12_least_35 : decode cX12_least 35 = .ok (.getfield 305, 3) := by decide +kernel
theorem dX12_least_38 : decode cX12_least 38 = .ok (.ifCond .eq 7, 3) := by decide +kernel
theorem dX12_least_41 : decode cX12_least 41 = .ok (.iconst 1, 1) := by decide +kernel
theorem dX12_least_42 : decode cX12_least 42 = .ok (.goto 4, 3) := by decide +kernel
theorem dX12_least_45 : decode cX12_least 45 = .ok (.iconst 0, 1) := by decide +kernel
theorem dX12_least_46 : decode cX12_least 46 = .ok (.istore_n 3, 1) := by decide +kernel
theorem dX12_least_47 : decode cX12_least 47 = .ok (.iconst 0, 1) := by decide +kernel
theorem dX12_least_48 : decode cX12_least 48 = .ok (.istore 4, 2) := by decide +kernel
theorem dX12_least_50 : decode cX12_least 50 = .ok (.iload 4, 2) := by decide +kernel
theorem dX12_least_52 : decode cX12_least 52 = .ok (.aload_n 0, 1) := by decide +kernel
theorem dX12_least_53 : decode cX12_least 53 = .ok (.getfield 33, 3) := by decide +kernel
theorem dX12_least_56 : decode cX12_least 56 = .ok (.iconst 1, 1) := by decide +kernel
theorem dX12_least_57 : decode cX12_least 57 = .ok (.iaload, 1) := by decide +kernel
theorem dX12_least_58 : decode cX12_least 58 = .ok (.if_icmp .ge 53, 3) := by decide +kernel
theorem dX12_least_61 : decode cX12_least 61 = .ok (.iload_n 3, 1) := by decide +kernel
theorem dX12_least_62 : decode cX12_least 62 = .ok (.ifCond .eq 41, 3) := by decide +kernel
theorem dX12_least_65 : decode cX12_least 65 = .ok (.aload_n 0, 1) := by decide +kernel
theorem dX12_least_66 : decode cX12_least 66 = .ok (.getfield 305, 3) := by decide +kernel
theorem dX12_least_69 : decode cX12_least 69 = .ok (.iload 4, 2) := by decide +kernel
theorem dX12_least_71 : decode cX12_least 71 = .ok (.invokestatic 216, 3) := by decide +kernel
theorem dX12_least_74 : decode cX12_least 74 = .ok (.ifCond .eq 25, 3) := by decide +kernel
theorem dX12_least_77 : decode cX12_least 77 = .ok (.aload_n 0, 1) := by decide +kernel
theorem dX12_least_78 : decode cX12_least 78 = .ok (.getfield 59, 3) := by decide +kernel
theorem dX12_least_81 : decode cX12_least 81 = .ok (.iload 4, 2) := by decide +kernel
theorem dX12_least_83 : decode cX12_least 83 = .ok (.iaload, 1) := by decide +kernel
theorem dX12_least_84 : decode cX12_least 84 = .ok (.aload_n 0, 1) := by decide +kernel
theorem dX12_least_85 : decode cX12_least 85 = .ok (.getfield 33, 3) := by decide +kernel
theorem dX12_least_88 : decode cX12_least 88 = .ok (.bipush 71, 2) := by decide +kernel
theorem dX12_least_90 : decode cX12_least 90 = .ok (.iload 4, 2) := by decide +kernel
theorem dX12_least_92 : decode cX12_least 92 = .ok (.iadd, 1) := by decide +kernel
theorem dX12_least_93 : decode cX12_least 93 = .ok (.iaload, 1) := by decide +kernel
theorem dX12_least_94 : decode cX12_least 94 = .ok (.iconst 1, 1) := by decide +kernel
theorem dX12_least_95 : decode cX12_least 95 = .ok (.isub, 1) := by decide +kernel
theorem dX12_least_96 : decode cX12_least 96 = .ok (.if_icmp .lt 7, 3) := by decide +kernel
theorem dX12_least_99 : decode cX12_least 99 = .ok (.iconst 1, 1) := by decide +kernel
theorem dX12_least_100 : decode cX12_least 100 = .ok (.goto 4, 3) := by decide +kernel
theorem dX12_least_103 : decode cX12_least 103 = .ok (.iconst 0, 1) := by decide +kernel
theorem dX12_least_104 : decode cX12_least 104 = .ok (.istore_n 3, 1) := by decide +kernel
theorem dX12_least_105 : decode cX12_least 105 = .ok (.iinc 4 1, 3) := by decide +kernel
theorem dX12_least_108 : decode cX12_least 108 = .ok (.goto (-58), 3) := by decide +kernel
theorem dX12_least_111 : decode cX12_least 111 = .ok (.iload_n 3, 1) := by decide +kernel
theorem dX12_least_112 : decode cX12_least 112 = .ok (.ifCond .eq 5, 3) := by decide +kernel
theorem dX12_least_115 : decode cX12_least 115 = .ok (.iload_n 2, 1) := by decide +kernel
theorem dX12_least_116 : decode cX12_least 116 = .ok (.ireturn, 1) := by decide +kernel
theorem dX12_least_117 : decode cX12_least 117 = .ok (.iinc 2 1, 3) := by decide +kernel
theorem dX12_least_120 : decode cX12_least 120 = .ok (.goto (-99), 3) := by decide +kernel
theorem dX12_least_123 : decode cX12_least 123 = .ok (.iconst (-1), 1) := by decide +kernel
theorem dX12_least_124 : decode cX12_least 124 = .ok (.ireturn, 1) := by decide +kernel
set_option maxRecDepth 20000 in
theorem ggX12_poor_X12_asNow : GoodIn wsX12_poor wsX12_asNow := goodIn_r _ [7, 2, 8, 9, 10, 6, 11, 12, 13, 14, 38, 39, 40, 41, 42, 43, 44, 45, 46, 47, 48, 49, 50, 51, 52, 53, 54, 55, 56, 57, 58, 59, 60, 61, 62, 63, 64, 65, 66, 67, 68, 69, 70, 71, 72, 73, 74, 75, 76, 77, 78, 79, 80, 81, 82, 83, 84] rfl (by decide +kernel)
set_option maxRecDepth 20000 in
theorem gX12_poor_X12_asNow : GoodIn wsX12_poor (wsV RX12 318 RX12 yX12_asNow wsX12_asNow) := goodIn_app (goodIn_of _ (by decide +kernel)) ggX12_poor_X12_asNow
set_option maxRecDepth 20000 in
theorem ggX12_poor_X12_whoHears : GoodIn wsX12_poor wsX12_whoHears := goodIn_r _ [18, 2, 19, 20, 21, 6, 22, 14, 12, 23, 24, 25, 26, 13, 27, 28, 29, 30, 31, 32, 33, 34, 35, 36, 37, 38, 39, 40, 41, 42, 43, 44, 45, 46, 47, 48, 49, 50, 51, 52, 53, 54, 55, 56, 57, 58, 59, 60, 61, 62, 63, 64, 65, 66, 67, 68, 69, 70, 71, 72, 73, 74, 75, 76, 77, 78, 79, 80, 81, 82, 83, 84] rfl (by decide +kernel)
set_option maxRecDepth 20000 in
theorem gX12_poor_X12_whoHears : GoodIn wsX12_poor (wsV RX12 296 RX12 yX12_whoHears wsX12_whoHears) := goodIn_app (goodIn_of _ (by decide +kernel)) ggX12_poor_X12_whoHears
theorem dX12_poor_0 : decode cX12_poor 0 = .ok (.aload_n 0, 1) := by decide +kernel
theorem dX12_poor_1 : decode cX12_poor 1 = .ok (.iconst 0, 1) := by decide +kernel
theorem dX12_poor_2 : decode cX12_poor 2 = .ok (.putfield 1, 3) := by decide +kernel
theorem dX12_poor_5 : decode cX12_poor 5 = .ok (.aload_n 0, 1) := by decide +kernel
theorem dX12_poor_6 : decode cX12_poor 6 = .ok (.invokevirtual 318, 3) := by decide +kernel
theorem dX12_poor_9 : decode cX12_poor 9 = .ok (.iconst 1, 1) := by decide +kernel
theorem dX12_poor_10 : decode cX12_poor 10 = .ok (.aload_n 0, 1) := by decide +kernel
theorem dX12_poor_11 : decode cX12_poor 11 = .ok (.getfield 33, 3) := by decide +kernel
theorem dX12_poor_14 : decode cX12_poor 14 = .ok (.iconst 1, 1) := by decide +kernel
theorem dX12_poor_15 : decode cX12_poor 15 = .ok (.iaload, 1) := by decide +kernel
theorem dX12_poor_16 : decode cX12_poor 16 = .ok (.ishl, 1) := by decide +kernel
theorem dX12_poor_17 : decode cX12_poor 17 = .ok (.iconst 1, 1) := by decide +kernel
theorem dX12_poor_18 : decode cX12_poor 18 = .ok (.isub, 1) := by decide +kernel
theorem dX12_poor_19 : decode cX12_poor 19 = .ok (.istore_n 1, 1) := by decide +kernel
theorem dX12_poor_20 : decode cX12_poor 20 = .ok (.iconst 0, 1) := by decide +kernel
theorem dX12_poor_21 : decode cX12_poor 21 = .ok (.istore_n 2, 1) := by decide +kernel
theorem dX12_poor_22 : decode cX12_poor 22 = .ok (.iload_n 2, 1) := by decide +kernel
theorem dX12_poor_23 : decode cX12_poor 23 = .ok (.aload_n 0, 1) := by decide +kernel
theorem dX12_poor_24 : decode cX12_poor 24 = .ok (.getfield 33, 3) := by decide +kernel
theorem dX12_poor_27 : decode cX12_poor 27 = .ok (.iconst 2, 1) := by decide +kernel
theorem dX12_poor_28 : decode cX12_poor 28 = .ok (.iaload, 1) := by decide +kernel
theorem dX12_poor_29 : decode cX12_poor 29 = .ok (.if_icmp .ge 41, 3) := by decide +kernel
theorem dX12_poor_32 : decode cX12_poor 32 = .ok (.iconst 0, 1) := by decide +kernel
theorem dX12_poor_33 : decode cX12_poor 33 = .ok (.istore_n 3, 1) := by decide +kernel
theorem dX12_poor_34 : decode cX12_poor 34 = .ok (.iload_n 3, 1) := by decide +kernel
theorem dX12_poor_35 : decode cX12_poor 35 = .ok (.aload_n 0, 1) := by decide +kernel
theorem dX12_poor_36 : decode cX12_poor 36 = .ok (.getfield 33, 3) := by decide +kernel
theorem dX12_poor_39 : decode cX12_poor 39 = .ok (.bipush 87, 2) := by decide +kernel
theorem dX12_poor_41 : decode cX12_poor 41 = .ok (.iload_n 2, 1) := by decide +kernel
theorem dX12_poor_42 : decode cX12_poor 42 = .ok (.iadd, 1) := by decide +kernel
theorem dX12_poor_43 : decode cX12_poor 43 = .ok (.iaload, 1) := by decide +kernel
theorem dX12_poor_44 : decode cX12_poor 44 = .ok (.if_icmp .ge 20, 3) := by decide +kernel
theorem dX12_poor_47 : decode cX12_poor 47 = .ok (.iload_n 1, 1) := by decide +kernel
theorem dX12_poor_48 : decode cX12_poor 48 = .ok (.aload_n 0, 1) := by decide +kernel
theorem dX12_poor_49 : decode cX12_poor 49 = .ok (.iload_n 2, 1) := by decide +kernel
theorem dX12_poor_50 : decode cX12_poor 50 = .ok (.iload_n 3, 1) := by decide +kernel
theorem dX12_poor_51 : decode cX12_poor 51 = .ok (.invokevirtual 296, 3) := by decide +kernel
theorem dX12_poor_54 : decode cX12_poor 54 = .ok (.iconst (-1), 1) := by decide +kernel
theorem dX12_poor_55 : decode cX12_poor 55 = .ok (.ixor, 1) := by decide +kernel
theorem dX12_poor_56 : decode cX12_poor 56 = .ok (.iand, 1) := by decide +kernel
theorem dX12_poor_57 : decode cX12_poor 57 = .ok (.istore_n 1, 1) := by decide +kernel
theorem dX12_poor_58 : decode cX12_poor 58 = .ok (.iinc 3 1, 3) := by decide +kernel
theorem dX12_poor_61 : decode cX12_poor 61 = .ok (.goto (-27), 3) := by decide +kernel
theorem dX12_poor_64 : decode cX12_poor 64 = .ok (.iinc 2 1, 3) := by decide +kernel
theorem dX12_poor_67 : decode cX12_poor 67 = .ok (.goto (-45), 3) := by decide +kernel
theorem dX12_poor_70 : decode cX12_poor 70 = .ok (.iload_n 1, 1) := by decide +kernel
theorem dX12_poor_71 : decode cX12_poor 71 = .ok (.ireturn, 1) := by decide +kernel
set_option maxRecDepth 20000 in
theorem ggX12_crowded_X12_asNow : GoodIn wsX12_crowded wsX12_asNow := goodIn_r _ [8, 2, 9, 10, 11, 7, 12, 13, 14, 15, 70, 71, 72, 73, 74, 75, 76, 77, 78, 79, 80, 81, 82, 83, 84, 85, 86, 87, 88, 89, 90, 91, 92, 93, 94, 95, 96, 97, 98, 99, 100, 101, 102, 103, 104, 105, 106, 107, 108, 109, 110, 111, 112, 113, 114, 115, 116] rfl (by decide +kernel)
set_option maxRecDepth 20000 in
theorem gX12_crowded_X12_asNow : GoodIn wsX12_crowded (wsV RX12 318 RX12 yX12_asNow wsX12_asNow) := goodIn_app (goodIn_of _ (by decide +kernel)) ggX12_crowded_X12_asNow
set_option maxRecDepth 20000 in
theorem ggX12_crowded_X12_sharesBy : GoodIn wsX12_crowded wsX12_sharesBy := goodIn_r _ [19, 20, 21, 22, 7, 23, 3, 24, 25, 26, 27, 28, 2, 29, 30, 31, 32, 33, 34, 35, 36, 15, 13, 37, 38, 39, 40, 14, 41, 42, 43, 44, 45, 46, 47, 48, 49, 50, 51, 52, 53, 54, 55, 56, 57, 58, 59, 60, 61, 62, 63, 64, 65, 66, 70, 71, 72, 73, 74, 75, 76, 77, 78, 79, 80, 81, 82, 83, 84, 85, 86, 87, 88, 89, 90, 91, 92, 93, 94, 95, 96, 97, 98, 99, 100, 101, 102, 103, 104, 105, 106, 107, 108, 109, 110, 111, 112, 113, 114, 115, 116] rfl (by decide +kernel)
set_option maxRecDepth 20000 in
theorem gX12_crowded_X12_sharesBy : GoodIn wsX12_crowded (wsV RX12 366 RX12 yX12_sharesBy wsX12_sharesBy) := goodIn_app (goodIn_of _ (by decide +kernel)) ggX12_crowded_X12_sharesBy
set_option maxRecDepth 20000 in
theorem ggX12_crowded_X12_bits : GoodIn wsX12_crowded wsX12_bits := goodIn_r _ [69] rfl (by decide +kernel)
set_option maxRecDepth 20000 in
theorem gX12_crowded_X12_bits : GoodIn wsX12_crowded (va_wsS RX12 394 yX12_bits wsX12_bits) := goodIn_app (goodIn_of _ (by decide +kernel)) ggX12_crowded_X12_bits
theorem dX12_crowded_0 : decode cX12_crowded 0 = .ok (.aload_n 0, 1) := by decide +kernel
theorem dX12_crowded_1 : decode cX12_crowded 1 = .ok (.iconst 0, 1) := by decide +kernel
theorem dX12_crowded_2 : decode cX12_crowded 2 = .ok (.putfield 1, 3) := by decide +kernel
theorem dX12_crowded_5 : decode cX12_crowded 5 = .ok (.aload_n 0, 1) := by decide +kernel
theorem dX12_crowded_6 : decode cX12_crowded 6 = .ok (.invokevirtual 318, 3) := by decide +kernel
theorem dX12_crowded_9 : decode cX12_crowded 9 = .ok (.iconst (-1), 1) := by decide +kernel
theorem dX12_crowded_10 : decode cX12_crowded 10 = .ok (.istore_n 1, 1) := by decide +kernel
theorem dX12_crowded_11 : decode cX12_crowded 11 = .ok (.iconst 0, 1) := by decide +kernel
theorem dX12_crowded_12 : decode cX12_crowded 12 = .ok (.istore_n 2, 1) := by decide +kernel
theorem dX12_crowded_13 : decode cX12_crowded 13 = .ok (.iconst 0, 1) := by decide +kernel
theorem dX12_crowded_14 : decode cX12_crowded 14 = .ok (.istore_n 3, 1) := by decide +kernel
theorem dX12_crowded_15 : decode cX12_crowded 15 = .ok (.iload_n 3, 1) := by decide +kernel
theorem dX12_crowded_16 : decode cX12_crowded 16 = .ok (.aload_n 0, 1) := by decide +kernel
theorem dX12_crowded_17 : decode cX12_crowded 17 = .ok (.getfield 33, 3) := by decide +kernel
theorem dX12_crowded_20 : decode cX12_crowded 20 = .ok (.iconst 2, 1) := by decide +kernel
theorem dX12_crowded_21 : decode cX12_crowded 21 = .ok (.iaload, 1) := by decide +kernel
theorem dX12_crowded_22 : decode cX12_crowded 22 = .ok (.if_icmp .ge 48, 3) := by decide +kernel
theorem dX12_crowded_25 : decode cX12_crowded 25 = .ok (.aload_n 0, 1) := by decide +kernel
theorem dX12_crowded_26 : decode cX12_crowded 26 = .ok (.iload_n 3, 1) := by decide +kernel
theorem dX12_crowded_27 : decode cX12_crowded 27 = .ok (.aload_n 0, 1) := by decide +kernel
theorem dX12_crowded_28 : decode cX12_crowded 28 = .ok (.getfield 33, 3) := by decide +kernel
theorem dX12_crowded_31 : decode cX12_crowded 31 = .ok (.iconst 4, 1) := by decide +kernel
theorem dX12_crowded_32 : decode cX12_crowded 32 = .ok (.iaload, 1) := by decide +kernel
theorem dX12_crowded_33 : decode cX12_crowded 33 = .ok (.invokevirtual 366, 3) := by decide +kernel
theorem dX12_crowded_36 : decode cX12_crowded 36 = .ok (.iload_n 1, 1) := by decide +kernel
theorem dX12_crowded_37 : decode cX12_crowded 37 = .ok (.ifCond .lt 17, 3) := by decide +kernel
theorem dX12_crowded_40 : decode cX12_crowded 40 = .ok (.aload_n 0, 1) := by decide +kernel
theorem dX12_crowded_41 : decode cX12_crowded 41 = .ok (.getfield 305, 3) := by decide +kernel
theorem dX12_crowded_44 : decode cX12_crowded 44 = .ok (.invokestatic 394, 3) := by decide +kernel
theorem dX12_crowded_47 : decode cX12_crowded 47 = .ok (.iload_n 2, 1) := by decide +kernel
theorem dX12_crowded_48 : decode cX12_crowded 48 = .ok (.if_icmp .gt 6, 3) := by decide +kernel
theorem dX12_crowded_51 : decode cX12_crowded 51 = .ok (.goto 13, 3) := by decide +kernel
theorem dX12_crowded_54 : decode cX12_crowded 54 = .ok (.iload_n 3, 1) := by decide +kernel
theorem dX12_crowded_55 : decode cX12_crowded 55 = .ok (.istore_n 1, 1) := by decide +kernel
