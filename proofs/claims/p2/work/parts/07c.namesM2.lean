theorem dX12_least_48 : decode cX12_least 48 = .ok (.istore 4, 2) := by decide +kernel
theorem dX12_least_50 : decode cX12_least 50 = .ok (.iload 4, 2) := by decide +kernel
theorem dX12_least_52 : decode cX12_least 52 = .ok (.aload_n 0, 1) := by decide +kernel
theorem dX12_least_53 : decode cX12_least 53 = .ok (.getfield 33, 3) := by decide +kernel
theorem dX12_least_56 : decode cX12_least 56 = .ok (.iconst 1, 1) := by decide +kernel
theorem dX12_least_57 : decode cX12_least 57 = .ok (.iaload, 1) := by decide +kernel
theorem dX12_least_58 : decode cX12_least 58 = .ok (.if_icmp .ge 53, 3) := by decide +kernel
theorem dX12_least_61 : decode cX12_least 61 = .ok (.iload_n 3, 1) := by decide +kernel
theorem dX12_least_62 : decode cX12_least 62 = .ok (.ifCond .eq 41, 3) := by decide +kernel
theorem dX12_least_65 : decode cX12_least 65 = .ok (.aload_n 0, 1) := by decide +kernel
theorem dX12_least_66 : decode cX12_least 66 = .ok (.getfield 305, 3) := by decide +kernel
theorem dX12_least_69 : decode cX12_least 69 = .ok (.iload 4, 2) := by decide +kernel
theorem dX12_least_71 : decode cX12_least 71 = .ok (.invokestatic 216, 3) := by decide +kernel
theorem dX12_least_74 : decode cX12_least 74 = .ok (.ifCond .eq 25, 3) := by decide +kernel
theorem dX12_least_77 : decode cX12_least 77 = .ok (.aload_n 0, 1) := by decide +kernel
theorem dX12_least_78 : decode cX12_least 78 = .ok (.getfield 59, 3) := by decide +kernel
theorem dX12_least_81 : decode cX12_least 81 = .ok (.iload 4, 2) := by decide +kernel
theorem dX12_least_83 : decode cX12_least 83 = .ok (.iaload, 1) := by decide +kernel
theorem dX12_least_84 : decode cX12_least 84 = .ok (.aload_n 0, 1) := by decide +kernel
theorem dX12_least_85 : decode cX12_least 85 = .ok (.getfield 33, 3) := by decide +kernel
theorem dX12_least_88 : decode cX12_least 88 = .ok (.bipush 71, 2) := by decide +kernel
theorem dX12_least_90 : decode cX12_least 90 = .ok (.iload 4, 2) := by decide +kernel
theorem dX12_least_92 : decode cX12_least 92 = .ok (.iadd, 1) := by decide +kernel
theorem dX12_least_93 : decode cX12_least 93 = .ok (.iaload, 1) := by decide +kernel
theorem dX12_least_94 : decode cX12_least 94 = .ok (.iconst 1, 1) := by decide +kernel
theorem dX12_least_95 : decode cX12_least 95 = .ok (.isub, 1) := by decide +kernel
theorem dX12_least_96 : decode cX12_least 96 = .ok (.if_icmp .lt 7, 3) := by decide +kernel
theorem dX12_least_99 : decode cX12_least 99 = .ok (.iconst 1, 1) := by decide +kernel
theorem dX12_least_100 : decode cX12_least 100 = .ok (.goto 4, 3) := by decide +kernel
theorem dX12_least_103 : decode cX12_least 103 = .ok (.iconst 0, 1) := by decide +kernel
theorem dX12_least_104 : decode cX12_least 104 = .ok (.istore_n 3, 1) := by decide +kernel
theorem dX12_least_105 : decode cX12_least 105 = .ok (.iinc 4 1, 3) := by decide +kernel
theorem dX12_least_108 : decode cX12_least 108 = .ok (.goto (-58), 3) := by decide +kernel
theorem dX12_least_111 : decode cX12_least 111 = .ok (.iload_n 3, 1) := by decide +kernel
theorem dX12_least_112 : decode cX12_least 112 = .ok (.ifCond .eq 5, 3) := by decide +kernel
theorem dX12_least_115 : decode cX12_least 115 = .ok (.iload_n 2, 1) := by decide +kernel
theorem dX12_least_116 : decode cX12_least 116 = .ok (.ireturn, 1) := by decide +kernel
theorem dX12_least_117 : decode cX12_least 117 = .ok (.iinc 2 1, 3) := by decide +kernel
theorem dX12_least_120 : decode cX12_least 120 = .ok (.goto (-99), 3) := by decide +kernel
theorem dX12_least_123 : decode cX12_least 123 = .ok (.iconst (-1), 1) := by decide +kernel
theorem dX12_least_124 : decode cX12_least 124 = .ok (.ireturn, 1) := by decide +kernel
set_option maxRecDepth 20000 in
theorem ggX12_poor_X12_asNow : GoodIn wsX12_poor wsX12_asNow := goodIn_r _ [7, 2, 8, 9, 10, 6, 11, 12, 13, 14, 38, 39, 40, 41, 42, 43, 44, 45, 46, 47, 48, 49, 50, 51, 52, 53, 54, 55, 56, 57, 58, 59, 60, 61, 62, 63, 64, 65, 66, 67, 68, 69, 70, 71, 72, 73, 74, 75, 76, 77, 78, 79, 80, 81, 82, 83, 84] (by decide +kernel) (by decide +kernel)
set_option maxRecDepth 20000 in
theorem gX12_poor_X12_asNow : GoodIn wsX12_poor (wsV RX12 318 RX12 yX12_asNow wsX12_asNow) := goodIn_app (goodIn_of _ (by decide +kernel)) ggX12_poor_X12_asNow
set_option maxRecDepth 20000 in
theorem ggX12_poor_X12_whoHears : GoodIn wsX12_poor wsX12_whoHears := goodIn_r _ [18, 2, 19, 20, 21, 6, 22, 14, 12, 23, 24, 25, 26, 13, 27, 28, 29, 30, 31, 32, 33, 34, 35, 36, 37, 38, 39, 40, 41, 42, 43, 44, 45, 46, 47, 48, 49, 50, 51, 52, 53, 54, 55, 56, 57, 58, 59, 60, 61, 62, 63, 64, 65, 66, 67, 68, 69, 70, 71, 72, 73, 74, 75, 76, 77, 78, 79, 80, 81, 82, 83, 84] (by decide +kernel) (by decide +kernel)
set_option maxRecDepth 20000 in
theorem gX12_poor_X12_whoHears : GoodIn wsX12_poor (wsV RX12 296 RX12 yX12_whoHears wsX12_whoHears) := goodIn_app (goodIn_of _ (by decide +kernel)) ggX12_poor_X12_whoHears
theorem dX12_poor_0 : decode cX12_poor 0 = .ok (.aload_n 0, 1) := by decide +kernel
theorem dX12_poor_1 : decode cX12_poor 1 = .ok (.iconst 0, 1) := by decide +kernel
theorem dX12_poor_2 : decode cX12_poor 2 = .ok (.putfield 1, 3) := by decide +kernel
theorem dX12_poor_5 : decode cX12_poor 5 = .ok (.aload_n 0, 1) := by decide +kernel
theorem dX12_poor_6 : decode cX12_poor 6 = .ok (.invokevirtual 318, 3) := by decide +kernel
theorem dX12_poor_9 : decode cX12_poor 9 = .ok (.iconst 1, 1) := by decide +kernel
theorem dX12_poor_10 : decode cX12_poor 10 = .ok (.aload_n 0, 1) := by decide +kernel
theorem dX12_poor_11 : decode cX12_poor 11 = .ok (.getfield 33, 3) := by decide +kernel
theorem dX12_poor_14 : decode cX12_poor 14 = .ok (.iconst 1, 1) := by decide +kernel
theorem dX12_poor_15 : decode cX12_poor 15 = .ok (.iaload, 1) := by decide +kernel
theorem dX12_poor_16 : decode cX12_poor 16 = .ok (.ishl, 1) := by decide +kernel
theorem dX12_poor_17 : decode cX12_poor 17 = .ok (.iconst 1, 1) := by decide +kernel
theorem dX12_poor_18 : decode cX12_poor 18 = .ok (.isub, 1) := by decide +kernel
theorem dX12_poor_19 : decode cX12_poor 19 = .ok (.istore_n 1, 1) := by decide +kernel
theorem dX12_poor_20 : decode cX12_poor 20 = .ok (.iconst 0, 1) := by decide +kernel
theorem dX12_poor_21 : decode cX12_poor 21 = .ok (.istore_n 2, 1) := by decide +kernel
theorem dX12_poor_22 : decode cX12_poor 22 = .ok (.iload_n 2, 1) := by decide +kernel
theorem dX12_poor_23 : decode cX12_poor 23 = .ok (.aload_n 0, 1) := by decide +kernel
theorem dX12_poor_24 : decode cX12_poor 24 = .ok (.getfield 33, 3) := by decide +kernel
theorem dX12_poor_27 : decode cX12_poor 27 = .ok (.iconst 2, 1) := by decide +kernel
theorem dX12_poor_28 : decode cX12_poor 28 = .ok (.iaload, 1) := by decide +kernel
theorem dX12_poor_29 : decode cX12_poor 29 = .ok (.if_icmp .ge 41, 3) := by decide +kernel
theorem dX12_poor_32 : decode cX12_poor 32 = .ok (.iconst 0, 1) := by decide +kernel
theorem dX12_poor_33 : decode cX12_poor 33 = .ok (.istore_n 3, 1) := by decide +kernel
theorem dX12_poor_34 : decode cX12_poor 34 = .ok (.iload_n 3, 1) := by decide +kernel
theorem dX12_poor_35 : decode cX12_poor 35 = .ok (.aload_n 0, 1) := by decide +kernel
theorem dX12_poor_36 : decode cX12_poor 36 = .ok (.getfield 33, 3) := by decide +kernel
theorem dX12_poor_39 : decode cX12_poor 39 = .ok (.bipush 87, 2) := by decide +kernel
theorem dX12_poor_41 : decode cX12_poor 41 = .ok (.iload_n 2, 1) := by decide +kernel
theorem dX12_poor_42 : decode cX12_poor 42 = .ok (.iadd, 1) := by decide +kernel
theorem dX12_poor_43 : decode cX12_poor 43 = .ok (.iaload, 1) := by decide +kernel
theorem dX12_poor_44 : decode cX12_poor 44 = .ok (.if_icmp .ge 20, 3) := by decide +kernel
theorem dX12_poor_47 : decode cX12_poor 47 = .ok (.iload_n 1, 1) := by decide +kernel
theorem dX12_poor_48 : decode cX12_poor 48 = .ok (.aload_n 0, 1) := by decide +kernel
theorem dX12_poor_49 : decode cX12_poor 49 = .ok (.iload_n 2, 1) := by decide +kernel
theorem dX12_poor_50 : decode cX12_poor 50 = .ok (.iload_n 3, 1) := by decide +kernel
theorem dX12_poor_51 : decode cX12_poor 51 = .ok (.invokevirtual 296, 3) := by decide +kernel
theorem dX12_poor_54 : decode cX12_poor 54 = .ok (.iconst (-1), 1) := by decide +kernel
theorem dX12_poor_55 : decode cX12_poor 55 = .ok (.ixor, 1) := by decide +kernel
theorem dX12_poor_56 : decode cX12_poor 56 = .ok (.iand, 1) := by decide +kernel
theorem dX12_poor_57 : decode cX12_poor 57 = .ok (.istore_n 1, 1) := by decide +kernel
theorem dX12_poor_58 : decode cX12_poor 58 = .ok (.iinc 3 1, 3) := by decide +kernel
theorem dX12_poor_61 : decode cX12_poor 61 = .ok (.goto (-27), 3) := by decide +kernel
theorem dX12_poor_64 : decode cX12_poor 64 = .ok (.iinc 2 1, 3) := by decide +kernel
theorem dX12_poor_67 : decode cX12_poor 67 = .ok (.goto (-45), 3) := by decide +kernel
theorem dX12_poor_70 : decode cX12_poor 70 = .ok (.iload_n 1, 1) := by decide +kernel
theorem dX12_poor_71 : decode cX12_poor 71 = .ok (.ireturn, 1) := by decide +kernel
set_option maxRecDepth 20000 in
theorem ggX12_crowded_X12_asNow : GoodIn wsX12_crowded wsX12_asNow := goodIn_r _ [8, 2, 9, 10, 11, 7, 12, 13, 14, 15, 70, 71, 72, 73, 74, 75, 76, 77, 78, 79, 80, 81, 82, 83, 84, 85, 86, 87, 88, 89, 90, 91, 92, 93, 94, 95, 96, 97, 98, 99, 100, 101, 102, 103, 104, 105, 106, 107, 108, 109, 110, 111, 112, 113, 114, 115, 116] (by decide +kernel) (by decide +kernel)
set_option maxRecDepth 20000 in
theorem gX12_crowded_X12_asNow : GoodIn wsX12_crowded (wsV RX12 318 RX12 yX12_asNow wsX12_asNow) := goodIn_app (goodIn_of _ (by decide +kernel)) ggX12_crowded_X12_asNow
set_option maxRecDepth 20000 in
theorem ggX12_crowded_X12_sharesBy : GoodIn wsX12_crowded wsX12_sharesBy := goodIn_r _ [19, 20, 21, 22, 7, 23, 3, 24, 25, 26, 27, 28, 2, 29, 30, 31, 32, 33, 34, 35, 36, 15, 13, 37, 38, 39, 40, 14, 41, 42, 43, 44, 45, 46, 47, 48, 49, 50, 51, 52, 53, 54, 55, 56, 57, 58, 59, 60, 61, 62, 63, 64, 65, 66, 70, 71, 72, 73, 74, 75, 76, 77, 78, 79, 80, 81, 82, 83, 84, 85, 86, 87, 88, 89, 90, 91, 92, 93, 94, 95, 96, 97, 98, 99, 100, 101, 102, 103, 104, 105, 106, 107, 108, 109, 110, 111, 112, 113, 114, 115, 116] (by decide +kernel) (by decide +kernel)
set_option maxRecDepth 20000 in
theorem gX12_crowded_X12_sharesBy : GoodIn wsX12_crowded (wsV RX12 366 RX12 yX12_sharesBy wsX12_sharesBy) := goodIn_app (goodIn_of _ (by decide +kernel)) ggX12_crowded_X12_sharesBy
set_option maxRecDepth 20000 in
theorem ggX12_crowded_X12_bits : GoodIn wsX12_crowded wsX12_bits := goodIn_r _ [69] (by decide +kernel) (by decide +kernel)
set_option maxRecDepth 20000 in
theorem gX12_crowded_X12_bits : GoodIn wsX12_crowded (va_wsS RX12 394 yX12_bits wsX12_bits) := goodIn_app (goodIn_of _ (by decide +kernel)) ggX12_crowded_X12_bits
theorem dX12_crowded_0 : decode cX12_crowded 0 = .ok (.aload_n 0, 1) := by decide +kernel
theorem dX12_crowded_1 : decode cX12_crowded 1 = .ok (.iconst 0, 1) := by decide +kernel
theorem dX12_crowded_2 : decode cX12_crowded 2 = .ok (.putfield 1, 3) := by decide +kernel
theorem dX12_crowded_5 : decode cX12_crowded 5 = .ok (.aload_n 0, 1) := by decide +kernel
theorem dX12_crowded_6 : decode cX12_crowded 6 = .ok (.invokevirtual 318, 3) := by decide +kernel
theorem dX12_crowded_9 : decode cX12_crowded 9 = .ok (.iconst (-1), 1) := by decide +kernel
theorem dX12_crowded_10 : decode cX12_crowded 10 = .ok (.istore_n 1, 1) := by decide +kernel
theorem dX12_crowded_11 : decode cX12_crowded 11 = .ok (.iconst 0, 1) := by decide +kernel
theorem dX12_crowded_12 : decode cX12_crowded 12 = .ok (.istore_n 2, 1) := by decide +kernel
theorem dX12_crowded_13 : decode cX12_crowded 13 = .ok (.iconst 0, 1) := by decide +kernel
theorem dX12_crowded_14 : decode cX12_crowded 14 = .ok (.istore_n 3, 1) := by decide +kernel
theorem dX12_crowded_15 : decode cX12_crowded 15 = .ok (.iload_n 3, 1) := by decide +kernel
theorem dX12_crowded_16 : decode cX12_crowded 16 = .ok (.aload_n 0, 1) := by decide +kernel
theorem dX12_crowded_17 : decode cX12_crowded 17 = .ok (.getfield 33, 3) := by decide +kernel
theorem dX12_crowded_20 : decode cX12_crowded 20 = .ok (.iconst 2, 1) := by decide +kernel
theorem dX12_crowded_21 : decode cX12_crowded 21 = .ok (.iaload, 1) := by decide +kernel
theorem dX12_crowded_22 : decode cX12_crowded 22 = .ok (.if_icmp .ge 48, 3) := by decide +kernel
theorem dX12_crowded_25 : decode cX12_crowded 25 = .ok (.aload_n 0, 1) := by decide +kernel
theorem dX12_crowded_26 : decode cX12_crowded 26 = .ok (.iload_n 3, 1) := by decide +kernel
theorem dX12_crowded_27 : decode cX12_crowded 27 = .ok (.aload_n 0, 1) := by decide +kernel
theorem dX12_crowded_28 : decode cX12_crowded 28 = .ok (.getfield 33, 3) := by decide +kernel
theorem dX12_crowded_31 : decode cX12_crowded 31 = .ok (.iconst 4, 1) := by decide +kernel
theorem dX12_crowded_32 : decode cX12_crowded 32 = .ok (.iaload, 1) := by decide +kernel
theorem dX12_crowded_33 : decode cX12_crowded 33 = .ok (.invokevirtual 366, 3) := by decide +kernel
theorem dX12_crowded_36 : decode cX12_crowded 36 = .ok (.iload_n 1, 1) := by decide +kernel
theorem dX12_crowded_37 : decode cX12_crowded 37 = .ok (.ifCond .lt 17, 3) := by decide +kernel
theorem dX12_crowded_40 : decode cX12_crowded 40 = .ok (.aload_n 0, 1) := by decide +kernel
theorem dX12_crowded_41 : decode cX12_crowded 41 = .ok (.getfield 305, 3) := by decide +kernel
theorem dX12_crowded_44 : decode cX12_crowded 44 = .ok (.invokestatic 394, 3) := by decide +kernel
theorem dX12_crowded_47 : decode cX12_crowded 47 = .ok (.iload_n 2, 1) := by decide +kernel
theorem dX12_crowded_48 : decode cX12_crowded 48 = .ok (.if_icmp .gt 6, 3) := by decide +kernel
theorem dX12_crowded_51 : decode cX12_crowded 51 = .ok (.goto 13, 3) := by decide +kernel
theorem dX12_crowded_54 : decode cX12_crowded 54 = .ok (.iload_n 3, 1) := by decide +kernel
theorem dX12_crowded_55 : decode cX12_crowded 55 = .ok (.istore_n 1, 1) := by decide +kernel
theorem dX12_crowded_56 : decode cX12_crowded 56 = .ok (.aload_n 0, 1) := by decide +kernel
theorem dX12_crowded_57 : decode cX12_crowded 57 = .ok (.getfield 305, 3) := by decide +kernel
theorem dX12_crowded_60 : decode cX12_crowded 60 = .ok (.invokestatic 394, 3) := by decide +kernel
theorem dX12_crowded_63 : decode cX12_crowded 63 = .ok (.istore_n 2, 1) := by decide +kernel
theorem dX12_crowded_64 : decode cX12_crowded 64 = .ok (.iinc 3 1, 3) := by decide +kernel
theorem dX12_crowded_67 : decode cX12_crowded 67 = .ok (.goto (-52), 3) := by decide +kernel
theorem dX12_crowded_70 : decode cX12_crowded 70 = .ok (.iload_n 1, 1) := by decide +kernel
theorem dX12_crowded_71 : decode cX12_crowded 71 = .ok (.ireturn, 1) := by decide +kernel
set_option maxRecDepth 20000 in
theorem ggX12_isBetter_X12_asNow : GoodIn wsX12_isBetter wsX12_asNow := goodIn_r _ [6, 1, 7, 8, 9, 5, 10, 11, 12, 13, 70, 71, 72, 73, 74, 75, 76, 77, 78, 79, 80, 81, 82, 83, 84, 85, 86, 87, 88, 89, 90, 91, 92, 93, 94, 95, 96, 97, 98, 99, 100, 101, 102, 103, 104, 105, 106, 107, 108, 109, 110, 111, 112, 113, 114, 115, 116] (by decide +kernel) (by decide +kernel)
set_option maxRecDepth 20000 in
theorem gX12_isBetter_X12_asNow : GoodIn wsX12_isBetter (wsV RX12 318 RX12 yX12_asNow wsX12_asNow) := goodIn_app (goodIn_of _ (by decide +kernel)) ggX12_isBetter_X12_asNow
set_option maxRecDepth 20000 in
theorem ggX12_isBetter_X12_meanOf : GoodIn wsX12_isBetter wsX12_meanOf := goodIn_r _ [17, 1, 18, 19, 20, 21, 5, 22, 23, 24, 25, 26, 27, 28, 29, 30, 31, 32, 33, 34, 35, 36, 37, 38, 39, 13, 11, 40, 41, 42, 43, 12, 44, 45, 46, 47, 48, 49, 50, 51, 52, 53, 54, 55, 56, 57, 58, 59, 60, 61, 62, 63, 64, 65, 66, 67, 68, 69, 70, 71, 72, 73, 74, 75, 76, 77, 78, 79, 80, 81, 82, 83, 84, 85, 86, 87, 88, 89, 90, 91, 92, 93, 94, 95, 96, 97, 98, 99, 100, 101, 102, 103, 104, 105, 106, 107, 108, 109, 110, 111, 112, 113, 114, 115, 116] (by decide +kernel) (by decide +kernel)
set_option maxRecDepth 20000 in
theorem gX12_isBetter_X12_meanOf : GoodIn wsX12_isBetter (wsV RX12 369 RX12 yX12_meanOf wsX12_meanOf) := goodIn_app (goodIn_of _ (by decide +kernel)) ggX12_isBetter_X12_meanOf
set_option maxRecDepth 20000 in
theorem ggX12_isBetter_X12_stands : GoodIn wsX12_isBetter wsX12_stands := goodIn_r _ [10, 11, 1, 12, 13, 70, 71, 72, 73, 74, 75, 76, 77, 78, 79, 80, 81, 82, 83, 84, 85, 86, 87, 88, 89, 90, 91, 92, 93, 94, 95, 96, 97, 98, 99, 100, 101, 102, 103, 104, 105, 106, 107, 108, 109, 110, 111, 112, 113, 114, 115, 116] (by decide +kernel) (by decide +kernel)
set_option maxRecDepth 20000 in
theorem gX12_isBetter_X12_stands : GoodIn wsX12_isBetter (wsV RX12 279 RX12 yX12_stands wsX12_stands) := goodIn_app (goodIn_of _ (by decide +kernel)) ggX12_isBetter_X12_stands
theorem dX12_isBetter_0 : decode cX12_isBetter 0 = .ok (.aload_n 0, 1) := by decide +kernel
theorem dX12_isBetter_1 : decode cX12_isBetter 1 = .ok (.invokevirtual 318, 3) := by decide +kernel
theorem dX12_isBetter_4 : decode cX12_isBetter 4 = .ok (.aload_n 0, 1) := by decide +kernel
theorem dX12_isBetter_5 : decode cX12_isBetter 5 = .ok (.iload_n 1, 1) := by decide +kernel
theorem dX12_isBetter_6 : decode cX12_isBetter 6 = .ok (.invokevirtual 369, 3) := by decide +kernel
theorem dX12_isBetter_9 : decode cX12_isBetter 9 = .ok (.istore_n 3, 1) := by decide +kernel
theorem dX12_isBetter_10 : decode cX12_isBetter 10 = .ok (.aload_n 0, 1) := by decide +kernel
theorem dX12_isBetter_11 : decode cX12_isBetter 11 = .ok (.iload_n 2, 1) := by decide +kernel
theorem dX12_isBetter_12 : decode cX12_isBetter 12 = .ok (.invokevirtual 369, 3) := by decide +kernel
theorem dX12_isBetter_15 : decode cX12_isBetter 15 = .ok (.istore 4, 2) := by decide +kernel
theorem dX12_isBetter_17 : decode cX12_isBetter 17 = .ok (.aload_n 0, 1) := by decide +kernel
theorem dX12_isBetter_18 : decode cX12_isBetter 18 = .ok (.iload_n 1, 1) := by decide +kernel
theorem dX12_isBetter_19 : decode cX12_isBetter 19 = .ok (.aload_n 0, 1) := by decide +kernel
theorem dX12_isBetter_20 : decode cX12_isBetter 20 = .ok (.getfield 33, 3) := by decide +kernel
theorem dX12_isBetter_23 : decode cX12_isBetter 23 = .ok (.sipush 214, 3) := by decide +kernel
theorem dX12_isBetter_26 : decode cX12_isBetter 26 = .ok (.iload_n 2, 1) := by decide +kernel
theorem dX12_isBetter_27 : decode cX12_isBetter 27 = .ok (.iadd, 1) := by decide +kernel
theorem dX12_isBetter_28 : decode cX12_isBetter 28 = .ok (.iaload, 1) := by decide +kernel
theorem dX12_isBetter_29 : decode cX12_isBetter 29 = .ok (.invokevirtual 279, 3) := by decide +kernel
theorem dX12_isBetter_32 : decode cX12_isBetter 32 = .ok (.aload_n 0, 1) := by decide +kernel
theorem dX12_isBetter_33 : decode cX12_isBetter 33 = .ok (.iload_n 2, 1) := by decide +kernel
theorem dX12_isBetter_34 : decode cX12_isBetter 34 = .ok (.aload_n 0, 1) := by decide +kernel
theorem dX12_isBetter_35 : decode cX12_isBetter 35 = .ok (.getfield 33, 3) := by decide +kernel
theorem dX12_isBetter_38 : decode cX12_isBetter 38 = .ok (.sipush 214, 3) := by decide +kernel
theorem dX12_isBetter_41 : decode cX12_isBetter 41 = .ok (.iload_n 1, 1) := by decide +kernel
theorem dX12_isBetter_42 : decode cX12_isBetter 42 = .ok (.iadd, 1) := by decide +kernel
theorem dX12_isBetter_43 : decode cX12_isBetter 43 = .ok (.iaload, 1) := by decide +kernel
theorem dX12_isBetter_44 : decode cX12_isBetter 44 = .ok (.invokevirtual 279, 3) := by decide +kernel
theorem dX12_isBetter_47 : decode cX12_isBetter 47 = .ok (.aload_n 0, 1) := by decide +kernel
theorem dX12_isBetter_48 : decode cX12_isBetter 48 = .ok (.iload_n 1, 1) := by decide +kernel
theorem dX12_isBetter_49 : decode cX12_isBetter 49 = .ok (.invokevirtual 369, 3) := by decide +kernel
theorem dX12_isBetter_52 : decode cX12_isBetter 52 = .ok (.iload_n 3, 1) := by decide +kernel
theorem dX12_isBetter_53 : decode cX12_isBetter 53 = .ok (.if_icmp .le 17, 3) := by decide +kernel
theorem dX12_isBetter_56 : decode cX12_isBetter 56 = .ok (.aload_n 0, 1) := by decide +kernel
theorem dX12_isBetter_57 : decode cX12_isBetter 57 = .ok (.iload_n 2, 1) := by decide +kernel
theorem dX12_isBetter_58 : decode cX12_isBetter 58 = .ok (.invokevirtual 369, 3) := by decide +kernel
theorem dX12_isBetter_61 : decode cX12_isBetter 61 = .ok (.iload 4, 2) := by decide +kernel
theorem dX12_isBetter_63 : decode cX12_isBetter 63 = .ok (.if_icmp .le 7, 3) := by decide +kernel
theorem dX12_isBetter_66 : decode cX12_isBetter 66 = .ok (.iconst 1, 1) := by decide +kernel
theorem dX12_isBetter_67 : decode cX12_isBetter 67 = .ok (.goto 4, 3) := by decide +kernel
theorem dX12_isBetter_70 : decode cX12_isBetter 70 = .ok (.iconst 0, 1) := by decide +kernel
theorem dX12_isBetter_71 : decode cX12_isBetter 71 = .ok (.ireturn, 1) := by decide +kernel
set_option maxRecDepth 20000 in
theorem ggX12_swaps_X12_isBetter : GoodIn wsX12_swaps wsX12_isBetter := goodIn_r _ [7, 2, 8, 9, 10, 6, 11, 12, 13, 14, 15, 16, 17, 18, 19, 20, 21, 22, 23, 24, 25, 26, 27, 28, 29, 30, 31, 32, 33, 34, 35, 36, 37, 38, 39, 40, 41, 42, 43, 44, 45, 46, 47, 48, 49, 50, 51, 52, 53, 54, 55, 56, 57, 58, 59, 60, 61, 62, 63, 64, 65, 66, 67, 68, 69, 70, 71, 72, 73, 74, 75, 76, 77, 78, 79, 80, 81, 82, 83, 84, 85, 86, 87, 88, 89, 90, 91, 92, 93, 94, 95, 96, 97, 98, 99, 100, 101, 102, 103, 104, 105, 106, 107, 108, 109, 110, 111, 112, 113, 114, 115, 116, 117, 118, 119, 120, 121] (by decide +kernel) (by decide +kernel)
set_option maxRecDepth 20000 in
theorem gX12_swaps_X12_isBetter : GoodIn wsX12_swaps (wsV RX12 397 RX12 yX12_isBetter wsX12_isBetter) := goodIn_app (goodIn_of _ (by decide +kernel)) ggX12_swaps_X12_isBetter
theorem dX12_swaps_0 : decode cX12_swaps 0 = .ok (.aload_n 0, 1) := by decide +kernel
theorem dX12_swaps_1 : decode cX12_swaps 1 = .ok (.iconst 0, 1) := by decide +kernel
theorem dX12_swaps_2 : decode cX12_swaps 2 = .ok (.putfield 1, 3) := by decide +kernel
theorem dX12_swaps_5 : decode cX12_swaps 5 = .ok (.aload_n 0, 1) := by decide +kernel
theorem dX12_swaps_6 : decode cX12_swaps 6 = .ok (.getfield 33, 3) := by decide +kernel
theorem dX12_swaps_9 : decode cX12_swaps 9 = .ok (.iconst 2, 1) := by decide +kernel
theorem dX12_swaps_10 : decode cX12_swaps 10 = .ok (.iaload, 1) := by decide +kernel
theorem dX12_swaps_11 : decode cX12_swaps 11 = .ok (.ifCond .eq 8, 3) := by decide +kernel
theorem dX12_swaps_14 : decode cX12_swaps 14 = .ok (.iload_n 1, 1) := by decide +kernel
theorem dX12_swaps_15 : decode cX12_swaps 15 = .ok (.iconst (-1), 1) := by decide +kernel
theorem dX12_swaps_16 : decode cX12_swaps 16 = .ok (.if_icmp .ge 5, 3) := by decide +kernel
theorem dX12_swaps_19 : decode cX12_swaps 19 = .ok (.iconst (-1), 1) := by decide +kernel
theorem dX12_swaps_20 : decode cX12_swaps 20 = .ok (.ireturn, 1) := by decide +kernel
theorem dX12_swaps_21 : decode cX12_swaps 21 = .ok (.iconst 0, 1) := by decide +kernel
theorem dX12_swaps_22 : decode cX12_swaps 22 = .ok (.istore_n 2, 1) := by decide +kernel
theorem dX12_swaps_23 : decode cX12_swaps 23 = .ok (.iconst 0, 1) := by decide +kernel
theorem dX12_swaps_24 : decode cX12_swaps 24 = .ok (.istore_n 3, 1) := by decide +kernel
theorem dX12_swaps_25 : decode cX12_swaps 25 = .ok (.iload_n 3, 1) := by decide +kernel
theorem dX12_swaps_26 : decode cX12_swaps 26 = .ok (.aload_n 0, 1) := by decide +kernel
theorem dX12_swaps_27 : decode cX12_swaps 27 = .ok (.getfield 33, 3) := by decide +kernel
theorem dX12_swaps_30 : decode cX12_swaps 30 = .ok (.iconst 1, 1) := by decide +kernel
theorem dX12_swaps_31 : decode cX12_swaps 31 = .ok (.iaload, 1) := by decide +kernel
theorem dX12_swaps_32 : decode cX12_swaps 32 = .ok (.if_icmp .ge 60, 3) := by decide +kernel
theorem dX12_swaps_35 : decode cX12_swaps 35 = .ok (.iload_n 3, 1) := by decide +kernel
theorem dX12_swaps_36 : decode cX12_swaps 36 = .ok (.iconst 1, 1) := by decide +kernel
theorem dX12_swaps_37 : decode cX12_swaps 37 = .ok (.iadd, 1) := by decide +kernel
theorem dX12_swaps_38 : decode cX12_swaps 38 = .ok (.istore 4, 2) := by decide +kernel
theorem dX12_swaps_40 : decode cX12_swaps 40 = .ok (.iload 4, 2) := by decide +kernel
theorem dX12_swaps_42 : decode cX12_swaps 42 = .ok (.aload_n 0, 1) := by decide +kernel
theorem dX12_swaps_43 : decode cX12_swaps 43 = .ok (.getfield 33, 3) := by decide +kernel
theorem dX12_swaps_46 : decode cX12_swaps 46 = .ok (.iconst 1, 1) := by decide +kernel
theorem dX12_swaps_47 : decode cX12_swaps 47 = .ok (.iaload, 1) := by decide +kernel
theorem dX12_swaps_48 : decode cX12_swaps 48 = .ok (.if_icmp .ge 38, 3) := by decide +kernel
theorem dX12_swaps_51 : decode cX12_swaps 51 = .ok (.aload_n 0, 1) := by decide +kernel
theorem dX12_swaps_52 : decode cX12_swaps 52 = .ok (.iload_n 3, 1) := by decide +kernel
theorem dX12_swaps_53 : decode cX12_swaps 53 = .ok (.iload 4, 2) := by decide +kernel
theorem dX12_swaps_55 : decode cX12_swaps 55 = .ok (.invokevirtual 397, 3) := by decide +kernel
theorem dX12_swaps_58 : decode cX12_swaps 58 = .ok (.ifCond .ne 6, 3) := by decide +kernel
theorem dX12_swaps_61 : decode cX12_swaps 61 = .ok (.goto 19, 3) := by decide +kernel
theorem dX12_swaps_64 : decode cX12_swaps 64 = .ok (.iload_n 2, 1) := by decide +kernel
theorem dX12_swaps_65 : decode cX12_swaps 65 = .ok (.iload_n 1, 1) := by decide +kernel
theorem dX12_swaps_66 : decode cX12_swaps 66 = .ok (.if_icmp .ne 11, 3) := by decide +kernel
theorem dX12_swaps_69 : decode cX12_swaps 69 = .ok (.bipush 10, 2) := by decide +kernel
theorem dX12_swaps_71 : decode cX12_swaps 71 = .ok (.iload_n 3, 1) := by decide +kernel
theorem dX12_swaps_72 : decode cX12_swaps 72 = .ok (.imul, 1) := by decide +kernel
theorem dX12_swaps_73 : decode cX12_swaps 73 = .ok (.iload 4, 2) := by decide +kernel
theorem dX12_swaps_75 : decode cX12_swaps 75 = .ok (.iadd, 1) := by decide +kernel
theorem dX12_swaps_76 : decode cX12_swaps 76 = .ok (.ireturn, 1) := by decide +kernel
theorem dX12_swaps_77 : decode cX12_swaps 77 = .ok (.iinc 2 1, 3) := by decide +kernel
theorem dX12_swaps_80 : decode cX12_swaps 80 = .ok (.iinc 4 1, 3) := by decide +kernel
theorem dX12_swaps_83 : decode cX12_swaps 83 = .ok (.goto (-43), 3) := by decide +kernel
theorem dX12_swaps_86 : decode cX12_swaps 86 = .ok (.iinc 3 1, 3) := by decide +kernel
theorem dX12_swaps_89 : decode cX12_swaps 89 = .ok (.goto (-64), 3) := by decide +kernel
theorem dX12_swaps_92 : decode cX12_swaps 92 = .ok (.iload_n 1, 1) := by decide +kernel
theorem dX12_swaps_93 : decode cX12_swaps 93 = .ok (.iconst (-1), 1) := by decide +kernel
theorem dX12_swaps_94 : decode cX12_swaps 94 = .ok (.if_icmp .ne 7, 3) := by decide +kernel
theorem dX12_swaps_97 : decode cX12_swaps 97 = .ok (.iload_n 2, 1) := by decide +kernel
theorem dX12_swaps_98 : decode cX12_swaps 98 = .ok (.goto 4, 3) := by decide +kernel
theorem dX12_swaps_101 : decode cX12_swaps 101 = .ok (.iconst (-1), 1) := by decide +kernel
theorem dX12_swaps_102 : decode cX12_swaps 102 = .ok (.ireturn, 1) := by decide +kernel
theorem dX12_draw_0 : decode cX12_draw 0 = .ok (.aload_n 0, 1) := by decide +kernel
theorem dX12_draw_1 : decode cX12_draw 1 = .ok (.aload_n 0, 1) := by decide +kernel
theorem dX12_draw_2 : decode cX12_draw 2 = .ok (.getfield 400, 3) := by decide +kernel
theorem dX12_draw_5 : decode cX12_draw 5 = .ok (.ldc_w 403, 3) := by decide +kernel
theorem dX12_draw_8 : decode cX12_draw 8 = .ok (.imul, 1) := by decide +kernel
theorem dX12_draw_9 : decode cX12_draw 9 = .ok (.sipush 12345, 3) := by decide +kernel
theorem dX12_draw_12 : decode cX12_draw 12 = .ok (.iadd, 1) := by decide +kernel
theorem dX12_draw_13 : decode cX12_draw 13 = .ok (.putfield 400, 3) := by decide +kernel
theorem dX12_draw_16 : decode cX12_draw 16 = .ok (.aload_n 0, 1) := by decide +kernel
theorem dX12_draw_17 : decode cX12_draw 17 = .ok (.getfield 400, 3) := by decide +kernel
theorem dX12_draw_20 : decode cX12_draw 20 = .ok (.bipush 8, 2) := by decide +kernel
theorem dX12_draw_22 : decode cX12_draw 22 = .ok (.iushr, 1) := by decide +kernel
theorem dX12_draw_23 : decode cX12_draw 23 = .ok (.iload_n 1, 1) := by decide +kernel
theorem dX12_draw_24 : decode cX12_draw 24 = .ok (.irem, 1) := by decide +kernel
theorem dX12_draw_25 : decode cX12_draw 25 = .ok (.ireturn, 1) := by decide +kernel
set_option maxRecDepth 20000 in
theorem ggX12_draws_X12_draw : GoodIn wsX12_draws wsX12_draw := goodIn_r _ [7, 1, 8, 92, 93, 94, 95, 96, 97, 98, 99, 100, 101, 102, 103, 104, 105, 106, 107, 108, 109, 110, 111, 112, 113, 114, 115, 116, 117, 118, 119, 120, 121, 122, 123, 124, 125, 126, 127, 128, 129, 130, 131, 132, 133, 134, 135, 136, 137, 138] (by decide +kernel) (by decide +kernel)
set_option maxRecDepth 20000 in
theorem gX12_draws_X12_draw : GoodIn wsX12_draws (wsV RX12 404 RX12 yX12_draw wsX12_draw) := goodIn_app (goodIn_of _ (by decide +kernel)) ggX12_draws_X12_draw
set_option maxRecDepth 20000 in
theorem ggX12_draws_X12_whyMove : GoodIn wsX12_draws wsX12_whyMove := goodIn_r _ [12, 2, 13, 14, 15, 6, 16, 17, 18, 19, 20, 92, 93, 94, 95, 96, 97, 98, 99, 100, 101, 102, 103, 104, 105, 106, 107, 108, 109, 110, 111, 112, 113, 114, 115, 116, 117, 118, 119, 120, 121, 122, 123, 124, 125, 126, 127, 128, 129, 130, 131, 132, 133, 134, 135, 136, 137, 138] (by decide +kernel) (by decide +kernel)
set_option maxRecDepth 20000 in
theorem gX12_draws_X12_whyMove : GoodIn wsX12_draws (wsV RX12 342 RX12 yX12_whyMove wsX12_whyMove) := goodIn_app (goodIn_of _ (by decide +kernel)) ggX12_draws_X12_whyMove
set_option maxRecDepth 20000 in
theorem ggX12_draws_X12_chances : GoodIn wsX12_draws wsX12_chances := goodIn_r _ [24, 2, 92, 93, 94, 95, 96, 97, 98, 99, 100, 101, 102, 103, 104, 105, 106, 107, 108, 109, 110, 111, 112, 113, 114, 115, 116, 117, 118, 119, 120, 121, 122, 123, 124, 125, 126, 127, 128, 129, 130, 131, 132, 133, 134, 135, 136, 137, 138] (by decide +kernel) (by decide +kernel)
set_option maxRecDepth 20000 in
theorem gX12_draws_X12_chances : GoodIn wsX12_draws (wsV RX12 372 RX12 yX12_chances wsX12_chances) := goodIn_app (goodIn_of _ (by decide +kernel)) ggX12_draws_X12_chances
set_option maxRecDepth 20000 in
theorem ggX12_draws_X12_asNow : GoodIn wsX12_draws wsX12_asNow := goodIn_r _ [28, 2, 29, 30, 31, 6, 32, 33, 34, 35, 92, 93, 94, 95, 96, 97, 98, 99, 100, 101, 102, 103, 104, 105, 106, 107, 108, 109, 110, 111, 112, 113, 114, 115, 116, 117, 118, 119, 120, 121, 122, 123, 124, 125, 126, 127, 128, 129, 130, 131, 132, 133, 134, 135, 136, 137, 138] (by decide +kernel) (by decide +kernel)
set_option maxRecDepth 20000 in
theorem gX12_draws_X12_asNow : GoodIn wsX12_draws (wsV RX12 318 RX12 yX12_asNow wsX12_asNow) := goodIn_app (goodIn_of _ (by decide +kernel)) ggX12_draws_X12_asNow
set_option maxRecDepth 20000 in
theorem ggX12_draws_X12_sharesBy : GoodIn wsX12_draws wsX12_sharesBy := goodIn_r _ [39, 40, 41, 42, 6, 43, 44, 45, 46, 47, 48, 49, 2, 50, 51, 52, 53, 54, 55, 56, 57, 35, 33, 58, 59, 60, 61, 34, 62, 63, 64, 65, 66, 67, 68, 69, 70, 71, 72, 73, 74, 75, 76, 77, 78, 79, 80, 81, 82, 83, 84, 85, 86, 87, 92, 93, 94, 95, 96, 97, 98, 99, 100, 101, 102, 103, 104, 105, 106, 107, 108, 109, 110, 111, 112, 113, 114, 115, 116, 117, 118, 119, 120, 121, 122, 123, 124, 125, 126, 127, 128, 129, 130, 131, 132, 133, 134, 135, 136, 137, 138] (by decide +kernel) (by decide +kernel)
set_option maxRecDepth 20000 in
theorem gX12_draws_X12_sharesBy : GoodIn wsX12_draws (wsV RX12 366 RX12 yX12_sharesBy wsX12_sharesBy) := goodIn_app (goodIn_of _ (by decide +kernel)) ggX12_draws_X12_sharesBy
set_option maxRecDepth 20000 in
theorem ggX12_draws_X12_ends : GoodIn wsX12_draws wsX12_ends := goodIn_r _ [91, 2, 45, 92, 93, 94, 95, 96, 97, 98, 99, 100, 101, 102, 103, 104, 105, 106, 107, 108, 109, 110, 111, 112, 113, 114, 115, 116, 117, 118, 119, 120, 121, 122, 123, 124, 125, 126, 127, 128, 129, 130, 131, 132, 133, 134, 135, 136, 137, 138] (by decide +kernel) (by decide +kernel)
set_option maxRecDepth 20000 in
theorem gX12_draws_X12_ends : GoodIn wsX12_draws (wsV RX12 363 RX12 yX12_ends wsX12_ends) := goodIn_app (goodIn_of _ (by decide +kernel)) ggX12_draws_X12_ends
theorem dX12_draws_0 : decode cX12_draws 0 = .ok (.aload_n 0, 1) := by decide +kernel
theorem dX12_draws_1 : decode cX12_draws 1 = .ok (.iload_n 2, 1) := by decide +kernel
theorem dX12_draws_2 : decode cX12_draws 2 = .ok (.putfield 400, 3) := by decide +kernel
theorem dX12_draws_5 : decode cX12_draws 5 = .ok (.iconst 0, 1) := by decide +kernel
theorem dX12_draws_6 : decode cX12_draws 6 = .ok (.istore_n 3, 1) := by decide +kernel
theorem dX12_draws_7 : decode cX12_draws 7 = .ok (.iload_n 3, 1) := by decide +kernel
theorem dX12_draws_8 : decode cX12_draws 8 = .ok (.iload_n 1, 1) := by decide +kernel
theorem dX12_draws_9 : decode cX12_draws 9 = .ok (.if_icmp .ge 158, 3) := by decide +kernel
theorem dX12_draws_12 : decode cX12_draws 12 = .ok (.aload_n 0, 1) := by decide +kernel
theorem dX12_draws_13 : decode cX12_draws 13 = .ok (.getfield 33, 3) := by decide +kernel
theorem dX12_draws_16 : decode cX12_draws 16 = .ok (.sipush 211, 3) := by decide +kernel
theorem dX12_draws_19 : decode cX12_draws 19 = .ok (.iaload, 1) := by decide +kernel
theorem dX12_draws_20 : decode cX12_draws 20 = .ok (.bipush 99, 2) := by decide +kernel
theorem dX12_draws_22 : decode cX12_draws 22 = .ok (.if_icmp .ge 145, 3) := by decide +kernel
theorem dX12_draws_25 : decode cX12_draws 25 = .ok (.iconst 0, 1) := by decide +kernel
theorem dX12_draws_26 : decode cX12_draws 26 = .ok (.istore 4, 2) := by decide +kernel
theorem dX12_draws_28 : decode cX12_draws 28 = .ok (.iload 4, 2) := by decide +kernel
theorem dX12_draws_30 : decode cX12_draws 30 = .ok (.aload_n 0, 1) := by decide +kernel
theorem dX12_draws_31 : decode cX12_draws 31 = .ok (.getfield 33, 3) := by decide +kernel
theorem dX12_draws_34 : decode cX12_draws 34 = .ok (.iconst 1, 1) := by decide +kernel
theorem dX12_draws_35 : decode cX12_draws 35 = .ok (.iaload, 1) := by decide +kernel
theorem dX12_draws_36 : decode cX12_draws 36 = .ok (.if_icmp .ge 56, 3) := by decide +kernel
theorem dX12_draws_39 : decode cX12_draws 39 = .ok (.aload_n 0, 1) := by decide +kernel
theorem dX12_draws_40 : decode cX12_draws 40 = .ok (.iconst 4, 1) := by decide +kernel
theorem dX12_draws_41 : decode cX12_draws 41 = .ok (.invokevirtual 404, 3) := by decide +kernel
theorem dX12_draws_44 : decode cX12_draws 44 = .ok (.ifCond .le 6, 3) := by decide +kernel
theorem dX12_draws_47 : decode cX12_draws 47 = .ok (.goto 39, 3) := by decide +kernel
theorem dX12_draws_50 : decode cX12_draws 50 = .ok (.aload_n 0, 1) := by decide +kernel
theorem dX12_draws_51 : decode cX12_draws 51 = .ok (.aload_n 0, 1) := by decide +kernel
theorem dX12_draws_52 : decode cX12_draws 52 = .ok (.getfield 33, 3) := by decide +kernel
theorem dX12_draws_55 : decode cX12_draws 55 = .ok (.iconst 0, 1) := by decide +kernel
theorem dX12_draws_56 : decode cX12_draws 56 = .ok (.iaload, 1) := by decide +kernel
theorem dX12_draws_57 : decode cX12_draws 57 = .ok (.invokevirtual 404, 3) := by decide +kernel
theorem dX12_draws_60 : decode cX12_draws 60 = .ok (.istore 5, 2) := by decide +kernel
theorem dX12_draws_62 : decode cX12_draws 62 = .ok (.aload_n 0, 1) := by decide +kernel
theorem dX12_draws_63 : decode cX12_draws 63 = .ok (.iload 4, 2) := by decide +kernel
theorem dX12_draws_65 : decode cX12_draws 65 = .ok (.iload 5, 2) := by decide +kernel
theorem dX12_draws_67 : decode cX12_draws 67 = .ok (.invokevirtual 342, 3) := by decide +kernel
theorem dX12_draws_70 : decode cX12_draws 70 = .ok (.ifCond .ne 16, 3) := by decide +kernel
theorem dX12_draws_73 : decode cX12_draws 73 = .ok (.aload_n 0, 1) := by decide +kernel
theorem dX12_draws_74 : decode cX12_draws 74 = .ok (.getfield 33, 3) := by decide +kernel
theorem dX12_draws_77 : decode cX12_draws 77 = .ok (.sipush 214, 3) := by decide +kernel
theorem dX12_draws_80 : decode cX12_draws 80 = .ok (.iload 4, 2) := by decide +kernel
theorem dX12_draws_82 : decode cX12_draws 82 = .ok (.iadd, 1) := by decide +kernel
theorem dX12_draws_83 : decode cX12_draws 83 = .ok (.iload 5, 2) := by decide +kernel
theorem dX12_draws_85 : decode cX12_draws 85 = .ok (.iastore, 1) := by decide +kernel
theorem dX12_draws_86 : decode cX12_draws 86 = .ok (.iinc 4 1, 3) := by decide +kernel
theorem dX12_draws_89 : decode cX12_draws 89 = .ok (.goto (-61), 3) := by decide +kernel
theorem dX12_draws_92 : decode cX12_draws 92 = .ok (.aload_n 0, 1) := by decide +kernel
theorem dX12_draws_93 : decode cX12_draws 93 = .ok (.aload_n 0, 1) := by decide +kernel
theorem dX12_draws_94 : decode cX12_draws 94 = .ok (.invokevirtual 372, 3) := by decide +kernel
theorem dX12_draws_97 : decode cX12_draws 97 = .ok (.invokevirtual 404, 3) := by decide +kernel
theorem dX12_draws_100 : decode cX12_draws 100 = .ok (.istore 4, 2) := by decide +kernel
theorem dX12_draws_102 : decode cX12_draws 102 = .ok (.iconst 0, 1) := by decide +kernel
theorem dX12_draws_103 : decode cX12_draws 103 = .ok (.istore 5, 2) := by decide +kernel
theorem dX12_draws_105 : decode cX12_draws 105 = .ok (.iload 4, 2) := by decide +kernel
theorem dX12_draws_107 : decode cX12_draws 107 = .ok (.aload_n 0, 1) := by decide +kernel
theorem dX12_draws_108 : decode cX12_draws 108 = .ok (.getfield 33, 3) := by decide +kernel
theorem dX12_draws_111 : decode cX12_draws 111 = .ok (.bipush 79, 2) := by decide +kernel
theorem dX12_draws_113 : decode cX12_draws 113 = .ok (.iload 5, 2) := by decide +kernel
theorem dX12_draws_115 : decode cX12_draws 115 = .ok (.iadd, 1) := by decide +kernel
theorem dX12_draws_116 : decode cX12_draws 116 = .ok (.iaload, 1) := by decide +kernel
theorem dX12_draws_117 : decode cX12_draws 117 = .ok (.if_icmp .lt 24, 3) := by decide +kernel
theorem dX12_draws_120 : decode cX12_draws 120 = .ok (.iload 4, 2) := by decide +kernel
theorem dX12_draws_122 : decode cX12_draws 122 = .ok (.aload_n 0, 1) := by decide +kernel
theorem dX12_draws_123 : decode cX12_draws 123 = .ok (.getfield 33, 3) := by decide +kernel
theorem dX12_draws_126 : decode cX12_draws 126 = .ok (.bipush 79, 2) := by decide +kernel
theorem dX12_draws_128 : decode cX12_draws 128 = .ok (.iload 5, 2) := by decide +kernel
theorem dX12_draws_130 : decode cX12_draws 130 = .ok (.iadd, 1) := by decide +kernel
theorem dX12_draws_131 : decode cX12_draws 131 = .ok (.iaload, 1) := by decide +kernel
theorem dX12_draws_132 : decode cX12_draws 132 = .ok (.isub, 1) := by decide +kernel
theorem dX12_draws_133 : decode cX12_draws 133 = .ok (.istore 4, 2) := by decide +kernel
theorem dX12_draws_135 : decode cX12_draws 135 = .ok (.iinc 5 1, 3) := by decide +kernel
theorem dX12_draws_138 : decode cX12_draws 138 = .ok (.goto (-33), 3) := by decide +kernel
theorem dX12_draws_141 : decode cX12_draws 141 = .ok (.aload_n 0, 1) := by decide +kernel
theorem dX12_draws_142 : decode cX12_draws 142 = .ok (.invokevirtual 318, 3) := by decide +kernel
theorem dX12_draws_145 : decode cX12_draws 145 = .ok (.aload_n 0, 1) := by decide +kernel
theorem dX12_draws_146 : decode cX12_draws 146 = .ok (.iload 5, 2) := by decide +kernel
theorem dX12_draws_148 : decode cX12_draws 148 = .ok (.aload_n 0, 1) := by decide +kernel
theorem dX12_draws_149 : decode cX12_draws 149 = .ok (.getfield 33, 3) := by decide +kernel
theorem dX12_draws_152 : decode cX12_draws 152 = .ok (.iconst 4, 1) := by decide +kernel
theorem dX12_draws_153 : decode cX12_draws 153 = .ok (.iaload, 1) := by decide +kernel
theorem dX12_draws_154 : decode cX12_draws 154 = .ok (.invokevirtual 366, 3) := by decide +kernel
theorem dX12_draws_157 : decode cX12_draws 157 = .ok (.aload_n 0, 1) := by decide +kernel
theorem dX12_draws_158 : decode cX12_draws 158 = .ok (.invokevirtual 363, 3) := by decide +kernel
theorem dX12_draws_161 : decode cX12_draws 161 = .ok (.iinc 3 1, 3) := by decide +kernel
theorem dX12_draws_164 : decode cX12_draws 164 = .ok (.goto (-157), 3) := by decide +kernel
theorem dX12_draws_167 : decode cX12_draws 167 = .ok (.iload_n 3, 1) := by decide +kernel
theorem dX12_draws_168 : decode cX12_draws 168 = .ok (.ireturn, 1) := by decide +kernel
set_option maxRecDepth 20000 in
theorem ggX12_drawn_X12_isIn : GoodIn wsX12_drawn wsX12_isIn := goodIn_r _ [6] (by decide +kernel) (by decide +kernel)
set_option maxRecDepth 20000 in
theorem gX12_drawn_X12_isIn : GoodIn wsX12_drawn (va_wsS RX12 191 yX12_isIn wsX12_isIn) := goodIn_app (goodIn_of _ (by decide +kernel)) ggX12_drawn_X12_isIn
set_option maxRecDepth 20000 in
theorem ggX12_drawn_X12_keep : GoodIn wsX12_drawn wsX12_keep := goodIn_r _ [10, 11, 12, 2, 106, 107, 108, 109, 110, 111, 112, 113, 114, 115, 116, 117, 118, 119, 120, 121, 122, 123, 124, 125, 126, 127, 128, 129, 130, 131, 132, 133, 134, 135, 136, 137, 138, 139, 140, 141, 142, 143, 144, 145, 146, 147, 148, 149, 150, 151, 152] (by decide +kernel) (by decide +kernel)
set_option maxRecDepth 20000 in
theorem gX12_drawn_X12_keep : GoodIn wsX12_drawn (wsV RX12 336 RX12 yX12_keep wsX12_keep) := goodIn_app (goodIn_of _ (by decide +kernel)) ggX12_drawn_X12_keep
set_option maxRecDepth 20000 in
theorem ggX12_drawn_X12_draws : GoodIn wsX12_drawn wsX12_draws := goodIn_r _ [16, 17, 2, 18, 19, 20, 5, 21, 22, 23, 24, 25, 26, 27, 28, 29, 30, 31, 32, 33, 34, 35, 36, 37, 38, 39, 40, 41, 42, 43, 44, 45, 46, 47, 48, 49, 50, 51, 52, 53, 54, 55, 56, 57, 58, 59, 60, 61, 62, 63, 64, 65, 66, 67, 68, 69, 70, 71, 72, 73, 74, 75, 76, 77, 78, 79, 80, 81, 82, 83, 84, 85, 86, 87, 88, 89, 90, 91, 92, 93, 94, 95, 96, 97, 98, 99, 100, 101, 102, 103, 104, 105, 106, 107, 108, 109, 110, 111, 112, 113, 114, 115, 116, 117, 118, 119, 120, 121, 122, 123, 124, 125, 126, 127, 128, 129, 130, 131, 132, 133, 134, 135, 136, 137, 138, 139, 140, 141, 142, 143, 144, 145, 146, 147, 148, 149, 150, 151, 152] (by decide +kernel) (by decide +kernel)
set_option maxRecDepth 20000 in
theorem gX12_drawn_X12_draws : GoodIn wsX12_drawn (wsV RX12 407 RX12 yX12_draws wsX12_draws) := goodIn_app (goodIn_of _ (by decide +kernel)) ggX12_drawn_X12_draws
theorem dX12_drawn_0 : decode cX12_drawn 0 = .ok (.aload_n 0, 1) := by decide +kernel
theorem dX12_drawn_1 : decode cX12_drawn 1 = .ok (.iconst 0, 1) := by decide +kernel
theorem dX12_drawn_2 : decode cX12_drawn 2 = .ok (.putfield 1, 3) := by decide +kernel
theorem dX12_drawn_5 : decode cX12_drawn 5 = .ok (.iload_n 1, 1) := by decide +kernel
theorem dX12_drawn_6 : decode cX12_drawn 6 = .ok (.iconst 1, 1) := by decide +kernel
theorem dX12_drawn_7 : decode cX12_drawn 7 = .ok (.bipush 40, 2) := by decide +kernel
theorem dX12_drawn_9 : decode cX12_drawn 9 = .ok (.invokestatic 191, 3) := by decide +kernel
theorem dX12_drawn_12 : decode cX12_drawn 12 = .ok (.ifCond .eq 21, 3) := by decide +kernel
theorem dX12_drawn_15 : decode cX12_drawn 15 = .ok (.aload_n 0, 1) := by decide +kernel
theorem dX12_drawn_16 : decode cX12_drawn 16 = .ok (.getfield 33, 3) := by decide +kernel
theorem dX12_drawn_19 : decode cX12_drawn 19 = .ok (.iconst 0, 1) := by decide +kernel
theorem dX12_drawn_20 : decode cX12_drawn 20 = .ok (.iaload, 1) := by decide +kernel
theorem dX12_drawn_21 : decode cX12_drawn 21 = .ok (.ifCond .eq 12, 3) := by decide +kernel
theorem dX12_drawn_24 : decode cX12_drawn 24 = .ok (.aload_n 0, 1) := by decide +kernel
theorem dX12_drawn_25 : decode cX12_drawn 25 = .ok (.getfield 33, 3) := by decide +kernel
theorem dX12_drawn_28 : decode cX12_drawn 28 = .ok (.iconst 2, 1) := by decide +kernel
theorem dX12_drawn_29 : decode cX12_drawn 29 = .ok (.iaload, 1) := by decide +kernel
theorem dX12_drawn_30 : decode cX12_drawn 30 = .ok (.ifCond .ne 5, 3) := by decide +kernel
theorem dX12_drawn_33 : decode cX12_drawn 33 = .ok (.iconst (-1), 1) := by decide +kernel
theorem dX12_drawn_34 : decode cX12_drawn 34 = .ok (.ireturn, 1) := by decide +kernel
theorem dX12_drawn_35 : decode cX12_drawn 35 = .ok (.aload_n 0, 1) := by decide +kernel
theorem dX12_drawn_36 : decode cX12_drawn 36 = .ok (.getfield 33, 3) := by decide +kernel
theorem dX12_drawn_39 : decode cX12_drawn 39 = .ok (.sipush 211, 3) := by decide +kernel
theorem dX12_drawn_42 : decode cX12_drawn 42 = .ok (.iaload, 1) := by decide +kernel
theorem dX12_drawn_43 : decode cX12_drawn 43 = .ok (.bipush 99, 2) := by decide +kernel
theorem dX12_drawn_45 : decode cX12_drawn 45 = .ok (.if_icmp .ge 7, 3) := by decide +kernel
theorem dX12_drawn_48 : decode cX12_drawn 48 = .ok (.aload_n 0, 1) := by decide +kernel
theorem dX12_drawn_49 : decode cX12_drawn 49 = .ok (.invokevirtual 336, 3) := by decide +kernel
theorem dX12_drawn_52 : decode cX12_drawn 52 = .ok (.aload_n 0, 1) := by decide +kernel
theorem dX12_drawn_53 : decode cX12_drawn 53 = .ok (.iload_n 1, 1) := by decide +kernel
theorem dX12_drawn_54 : decode cX12_drawn 54 = .ok (.iload_n 2, 1) := by decide +kernel
theorem dX12_drawn_55 : decode cX12_drawn 55 = .ok (.invokevirtual 407, 3) := by decide +kernel
theorem dX12_drawn_58 : decode cX12_drawn 58 = .ok (.ireturn, 1) := by decide +kernel
set_option maxRecDepth 20000 in
theorem ggX12_odds_X12_isMan : GoodIn wsX12_odds wsX12_isMan := goodIn_r _ [7, 2, 8, 9, 6, 10, 113, 114, 115, 116, 117, 118, 119, 120, 121, 122, 123, 124, 125, 126, 127, 128, 129, 130, 131, 132, 133, 134, 135, 136, 137, 138, 139, 140, 141, 142, 143, 144, 145, 146, 147, 148, 149, 150, 151, 152, 153, 154, 155, 156, 157, 158, 159] (by decide +kernel) (by decide +kernel)
set_option maxRecDepth 20000 in
theorem gX12_odds_X12_isMan : GoodIn wsX12_odds (wsV RX12 269 RX12 yX12_isMan wsX12_isMan) := goodIn_app (goodIn_of _ (by decide +kernel)) ggX12_odds_X12_isMan
set_option maxRecDepth 20000 in
theorem ggX12_odds_X12_isIn : GoodIn wsX12_odds wsX12_isIn := goodIn_r _ [10] (by decide +kernel) (by decide +kernel)
set_option maxRecDepth 20000 in
theorem gX12_odds_X12_isIn : GoodIn wsX12_odds (va_wsS RX12 191 yX12_isIn wsX12_isIn) := goodIn_app (goodIn_of _ (by decide +kernel)) ggX12_odds_X12_isIn
set_option maxRecDepth 20000 in
theorem ggX12_odds_X12_tries : GoodIn wsX12_odds wsX12_tries := goodIn_r _ [14, 15, 2, 113, 114, 115, 116, 117, 118, 119, 120, 121, 122, 123, 124, 125, 126, 127, 128, 129, 130, 131, 132, 133, 134, 135, 136, 137, 138, 139, 140, 141, 142, 143, 144, 145, 146, 147, 148, 149, 150, 151, 152, 153, 154, 155, 156, 157, 158, 159] (by decide +kernel) (by decide +kernel)
set_option maxRecDepth 20000 in
theorem gX12_odds_X12_tries : GoodIn wsX12_odds (wsV RX12 410 RX12 yX12_tries wsX12_tries) := goodIn_app (goodIn_of _ (by decide +kernel)) ggX12_odds_X12_tries
set_option maxRecDepth 20000 in
theorem ggX12_odds_X12_draws : GoodIn wsX12_odds wsX12_draws := goodIn_r _ [19, 20, 2, 21, 22, 23, 6, 24, 25, 26, 27, 28, 29, 30, 31, 32, 33, 34, 35, 36, 37, 38, 39, 40, 41, 42, 43, 44, 45, 46, 47, 48, 49, 50, 51, 52, 53, 54, 55, 56, 57, 58, 59, 60, 61, 62, 63, 64, 65, 66, 67, 68, 69, 70, 71, 72, 73, 74, 75, 76, 77, 78, 79, 80, 81, 82, 83, 84, 85, 86, 87, 88, 89, 90, 91, 92, 93, 94, 95, 96, 97, 98, 99, 100, 101, 102, 103, 104, 105, 106, 107, 108, 113, 114, 115, 116, 117, 118, 119, 120, 121, 122, 123, 124, 125, 126, 127, 128, 129, 130, 131, 132, 133, 134, 135, 136, 137, 138, 139, 140, 141, 142, 143, 144, 145, 146, 147, 148, 149, 150, 151, 152, 153, 154, 155, 156, 157, 158, 159] (by decide +kernel) (by decide +kernel)
set_option maxRecDepth 20000 in
theorem gX12_odds_X12_draws : GoodIn wsX12_odds (wsV RX12 407 RX12 yX12_draws wsX12_draws) := goodIn_app (goodIn_of _ (by decide +kernel)) ggX12_odds_X12_draws
set_option maxRecDepth 20000 in
theorem ggX12_odds_X12_back : GoodIn wsX12_odds wsX12_back := goodIn_r _ [112, 2, 15, 113, 114, 115, 116, 117, 118, 119, 120, 121, 122, 123, 124, 125, 126, 127, 128, 129, 130, 131, 132, 133, 134, 135, 136, 137, 138, 139, 140, 141, 142, 143, 144, 145, 146, 147, 148, 149, 150, 151, 152, 153, 154, 155, 156, 157, 158, 159] (by decide +kernel) (by decide +kernel)
set_option maxRecDepth 20000 in
theorem gX12_odds_X12_back : GoodIn wsX12_odds (wsV RX12 413 RX12 yX12_back wsX12_back) := goodIn_app (goodIn_of _ (by decide +kernel)) ggX12_odds_X12_back
theorem dX12_odds_0 : decode cX12_odds 0 = .ok (.aload_n 0, 1) := by decide +kernel
theorem dX12_odds_1 : decode cX12_odds 1 = .ok (.iconst 0, 1) := by decide +kernel
theorem dX12_odds_2 : decode cX12_odds 2 = .ok (.putfield 1, 3) := by decide +kernel
theorem dX12_odds_5 : decode cX12_odds 5 = .ok (.aload_n 0, 1) := by decide +kernel
theorem dX12_odds_6 : decode cX12_odds 6 = .ok (.iload_n 1, 1) := by decide +kernel
theorem dX12_odds_7 : decode cX12_odds 7 = .ok (.invokevirtual 269, 3) := by decide +kernel
theorem dX12_odds_10 : decode cX12_odds 10 = .ok (.ifCond .eq 33, 3) := by decide +kernel
theorem dX12_odds_13 : decode cX12_odds 13 = .ok (.iload_n 2, 1) := by decide +kernel
theorem dX12_odds_14 : decode cX12_odds 14 = .ok (.iconst 0, 1) := by decide +kernel
theorem dX12_odds_15 : decode cX12_odds 15 = .ok (.sipush 999, 3) := by decide +kernel
theorem dX12_odds_18 : decode cX12_odds 18 = .ok (.invokestatic 191, 3) := by decide +kernel
theorem dX12_odds_21 : decode cX12_odds 21 = .ok (.ifCond .eq 22, 3) := by decide +kernel
theorem dX12_odds_24 : decode cX12_odds 24 = .ok (.iload_n 3, 1) := by decide +kernel
theorem dX12_odds_25 : decode cX12_odds 25 = .ok (.iconst 1, 1) := by decide +kernel
theorem dX12_odds_26 : decode cX12_odds 26 = .ok (.bipush 30, 2) := by decide +kernel
theorem dX12_odds_28 : decode cX12_odds 28 = .ok (.invokestatic 191, 3) := by decide +kernel
theorem dX12_odds_31 : decode cX12_odds 31 = .ok (.ifCond .eq 12, 3) := by decide +kernel
theorem dX12_odds_34 : decode cX12_odds 34 = .ok (.aload_n 0, 1) := by decide +kernel
theorem dX12_odds_35 : decode cX12_odds 35 = .ok (.getfield 33, 3) := by decide +kernel
theorem dX12_odds_38 : decode cX12_odds 38 = .ok (.iconst 2, 1) := by decide +kernel
theorem dX12_odds_39 : decode cX12_odds 39 = .ok (.iaload, 1) := by decide +kernel
theorem dX12_odds_40 : decode cX12_odds 40 = .ok (.ifCond .ne 5, 3) := by decide +kernel
theorem dX12_odds_43 : decode cX12_odds 43 = .ok (.iconst (-1), 1) := by decide +kernel
theorem dX12_odds_44 : decode cX12_odds 44 = .ok (.ireturn, 1) := by decide +kernel
theorem dX12_odds_45 : decode cX12_odds 45 = .ok (.aload_n 0, 1) := by decide +kernel
theorem dX12_odds_46 : decode cX12_odds 46 = .ok (.invokevirtual 410, 3) := by decide +kernel
theorem dX12_odds_49 : decode cX12_odds 49 = .ok (.iconst 0, 1) := by decide +kernel
theorem dX12_odds_50 : decode cX12_odds 50 = .ok (.istore 5, 2) := by decide +kernel
theorem dX12_odds_52 : decode cX12_odds 52 = .ok (.iconst 0, 1) := by decide +kernel
theorem dX12_odds_53 : decode cX12_odds 53 = .ok (.istore 6, 2) := by decide +kernel
theorem dX12_odds_55 : decode cX12_odds 55 = .ok (.iload 6, 2) := by decide +kernel
theorem dX12_odds_57 : decode cX12_odds 57 = .ok (.iload_n 3, 1) := by decide +kernel
theorem dX12_odds_58 : decode cX12_odds 58 = .ok (.if_icmp .ge 63, 3) := by decide +kernel
theorem dX12_odds_61 : decode cX12_odds 61 = .ok (.aload_n 0, 1) := by decide +kernel
theorem dX12_odds_62 : decode cX12_odds 62 = .ok (.getfield 33, 3) := by decide +kernel
theorem dX12_odds_65 : decode cX12_odds 65 = .ok (.sipush 238, 3) := by decide +kernel
theorem dX12_odds_68 : decode cX12_odds 68 = .ok (.iload_n 1, 1) := by decide +kernel
theorem dX12_odds_69 : decode cX12_odds 69 = .ok (.iadd, 1) := by decide +kernel
theorem dX12_odds_70 : decode cX12_odds 70 = .ok (.iaload, 1) := by decide +kernel
theorem dX12_odds_71 : decode cX12_odds 71 = .ok (.istore 7, 2) := by decide +kernel
theorem dX12_odds_73 : decode cX12_odds 73 = .ok (.aload_n 0, 1) := by decide +kernel
theorem dX12_odds_74 : decode cX12_odds 74 = .ok (.iconst 5, 1) := by decide +kernel
theorem dX12_odds_75 : decode cX12_odds 75 = .ok (.iload 4, 2) := by decide +kernel
theorem dX12_odds_77 : decode cX12_odds 77 = .ok (.iload 6, 2) := by decide +kernel
theorem dX12_odds_79 : decode cX12_odds 79 = .ok (.iadd, 1) := by decide +kernel
theorem dX12_odds_80 : decode cX12_odds 80 = .ok (.invokevirtual 407, 3) := by decide +kernel
theorem dX12_odds_83 : decode cX12_odds 83 = .ok (.pop, 1) := by decide +kernel
theorem dX12_odds_84 : decode cX12_odds 84 = .ok (.iload 5, 2) := by decide +kernel
theorem dX12_odds_86 : decode cX12_odds 86 = .ok (.aload_n 0, 1) := by decide +kernel
theorem dX12_odds_87 : decode cX12_odds 87 = .ok (.getfield 33, 3) := by decide +kernel
theorem dX12_odds_90 : decode cX12_odds 90 = .ok (.sipush 238, 3) := by decide +kernel
theorem dX12_odds_93 : decode cX12_odds 93 = .ok (.iload_n 1, 1) := by decide +kernel
theorem dX12_odds_94 : decode cX12_odds 94 = .ok (.iadd, 1) := by decide +kernel
theorem dX12_odds_95 : decode cX12_odds 95 = .ok (.iaload, 1) := by decide +kernel
theorem dX12_odds_96 : decode cX12_odds 96 = .ok (.iload 7, 2) := by decide +kernel
theorem dX12_odds_98 : decode cX12_odds 98 = .ok (.iload_n 2, 1) := by decide +kernel
theorem dX12_odds_99 : decode cX12_odds 99 = .ok (.iadd, 1) := by decide +kernel
theorem dX12_odds_100 : decode cX12_odds 100 = .ok (.if_icmp .le 7, 3) := by decide +kernel
theorem dX12_odds_103 : decode cX12_odds 103 = .ok (.iconst 1, 1) := by decide +kernel
theorem dX12_odds_104 : decode cX12_odds 104 = .ok (.goto 4, 3) := by decide +kernel
theorem dX12_odds_107 : decode cX12_odds 107 = .ok (.iconst 0, 1) := by decide +kernel
theorem dX12_odds_108 : decode cX12_odds 108 = .ok (.iadd, 1) := by decide +kernel
theorem dX12_odds_109 : decode cX12_odds 109 = .ok (.istore 5, 2) := by decide +kernel
theorem dX12_odds_111 : decode cX12_odds 111 = .ok (.aload_n 0, 1) := by decide +kernel
theorem dX12_odds_112 : decode cX12_odds 112 = .ok (.invokevirtual 413, 3) := by decide +kernel
theorem dX12_odds_115 : decode cX12_odds 115 = .ok (.iinc 6 1, 3) := by decide +kernel
theorem dX12_odds_118 : decode cX12_odds 118 = .ok (.goto (-63), 3) := by decide +kernel
theorem dX12_odds_121 : decode cX12_odds 121 = .ok (.iload 5, 2) := by decide +kernel
theorem dX12_odds_123 : decode cX12_odds 123 = .ok (.ireturn, 1) := by decide +kernel
set_option maxRecDepth 20000 in
theorem ggX12_rollLine_X12_isWord : GoodIn wsX12_rollLine wsX12_isWord := goodIn_r _ [15, 16, 17, 70, 71, 72, 73, 74, 75, 76, 77, 78, 79, 80, 81, 82, 83, 84, 85, 86, 87, 88, 89, 90, 91, 92, 93, 94, 95, 96, 97, 98, 99, 100, 101, 102, 103, 104, 105, 106, 107, 108, 109, 110, 111, 112, 113, 114, 115, 116] (by decide +kernel) (by decide +kernel)
set_option maxRecDepth 20000 in
theorem gX12_rollLine_X12_isWord : GoodIn wsX12_rollLine (wsV RX12 219 RX12 yX12_isWord wsX12_isWord) := goodIn_app (goodIn_of _ (by decide +kernel)) ggX12_rollLine_X12_isWord
set_option maxRecDepth 20000 in
theorem ggX12_rollLine_X12_bad : GoodIn wsX12_rollLine wsX12_bad := goodIn_r _ [21, 22, 23, 24, 70, 71, 72, 73, 74, 75, 76, 77, 78, 79, 80, 81, 82, 83, 84, 85, 86, 87, 88, 89, 90, 91, 92, 93, 94, 95, 96, 97, 98, 99, 100, 101, 102, 103, 104, 105, 106, 107, 108, 109, 110, 111, 112, 113, 114, 115, 116] (by decide +kernel) (by decide +kernel)
set_option maxRecDepth 20000 in
theorem gX12_rollLine_X12_bad : GoodIn wsX12_rollLine (wsV RX12 185 RX12 yX12_bad wsX12_bad) := goodIn_app (goodIn_of _ (by decide +kernel)) ggX12_rollLine_X12_bad
set_option maxRecDepth 20000 in
theorem ggX12_rollLine_X12_next : GoodIn wsX12_rollLine wsX12_next := goodIn_r _ [28, 29, 23, 30, 31, 32, 16, 33, 17, 34, 35, 36, 14, 37, 38, 39, 40, 41, 42, 43, 44, 70, 71, 72, 73, 74, 75, 76, 77, 78, 79, 80, 81, 82, 83, 84, 85, 86, 87, 88, 89, 90, 91, 92, 93, 94, 95, 96, 97, 98, 99, 100, 101, 102, 103, 104, 105, 106, 107, 108, 109, 110, 111, 112, 113, 114, 115, 116] (by decide +kernel) (by decide +kernel)
set_option maxRecDepth 20000 in
theorem gX12_rollLine_X12_next : GoodIn wsX12_rollLine (wsV RX12 188 RX12 yX12_next wsX12_next) := goodIn_app (goodIn_of _ (by decide +kernel)) ggX12_rollLine_X12_next
set_option maxRecDepth 20000 in
theorem ggX12_rollLine_X12_takes : GoodIn wsX12_rollLine wsX12_takes := goodIn_r _ [48, 16, 33, 6, 18, 19, 20, 14, 21, 22, 23, 24, 49, 50, 51, 25, 26, 27, 28, 29, 30, 31, 32, 17, 34, 35, 36, 37, 38, 39, 40, 41, 42, 43, 44, 70, 71, 72, 73, 74, 75, 76, 77, 78, 79, 80, 81, 82, 83, 84, 85, 86, 87, 88, 89, 90, 91, 92, 93, 94, 95, 96, 97, 98, 99, 100, 101, 102, 103, 104, 105, 106, 107, 108, 109, 110, 111, 112, 113, 114, 115, 116] (by decide +kernel) (by decide +kernel)
set_option maxRecDepth 20000 in
theorem gX12_rollLine_X12_takes : GoodIn wsX12_rollLine (wsV RX12 198 RX12 yX12_takes wsX12_takes) := goodIn_app (goodIn_of _ (by decide +kernel)) ggX12_rollLine_X12_takes
set_option maxRecDepth 20000 in
theorem ggX12_rollLine_X12_looksAt : GoodIn wsX12_rollLine wsX12_looksAt := goodIn_r _ [55, 6, 56, 57, 58, 14, 59, 16, 17, 60, 18, 19, 20, 21, 22, 23, 24, 61, 62, 63, 64, 65, 70, 71, 72, 73, 74, 75, 76, 77, 78, 79, 80, 81, 82, 83, 84, 85, 86, 87, 88, 89, 90, 91, 92, 93, 94, 95, 96, 97, 98, 99, 100, 101, 102, 103, 104, 105, 106, 107, 108, 109, 110, 111, 112, 113, 114, 115, 116] (by decide +kernel) (by decide +kernel)
set_option maxRecDepth 20000 in
theorem gX12_rollLine_X12_looksAt : GoodIn wsX12_rollLine (wsV RX12 210 RX12 yX12_looksAt wsX12_looksAt) := goodIn_app (goodIn_of _ (by decide +kernel)) ggX12_rollLine_X12_looksAt
set_option maxRecDepth 20000 in
theorem ggX12_rollLine_X12_takesName : GoodIn wsX12_rollLine wsX12_takesName := goodIn_r _ [69, 52, 53, 54, 14, 55, 6, 56, 57, 58, 59, 16, 17, 60, 18, 19, 20, 21, 22, 23, 24, 61, 62, 63, 64, 65, 25, 26, 27, 28, 29, 30, 31, 32, 33, 34, 35, 36, 37, 38, 39, 40, 41, 42, 43, 44, 70, 71, 72, 73, 74, 75, 76, 77, 78, 79, 80, 81, 82, 83, 84, 85, 86, 87, 88, 89, 90, 91, 92, 93, 94, 95, 96, 97, 98, 99, 100, 101, 102, 103, 104, 105, 106, 107, 108, 109, 110, 111, 112, 113, 114, 115, 116] (by decide +kernel) (by decide +kernel)
set_option maxRecDepth 20000 in
theorem gX12_rollLine_X12_takesName : GoodIn wsX12_rollLine (wsV RX12 235 RX12 yX12_takesName wsX12_takesName) := goodIn_app (goodIn_of _ (by decide +kernel)) ggX12_rollLine_X12_takesName
theorem dX12_rollLine_0 : decode cX12_rollLine 0 = .ok (.iconst 3, 1) := by decide +kernel
theorem dX12_rollLine_1 : decode cX12_rollLine 1 = .ok (.aload_n 0, 1) := by decide +kernel
theorem dX12_rollLine_2 : decode cX12_rollLine 2 = .ok (.getfield 416, 3) := by decide +kernel
theorem dX12_rollLine_5 : decode cX12_rollLine 5 = .ok (.imul, 1) := by decide +kernel
theorem dX12_rollLine_6 : decode cX12_rollLine 6 = .ok (.istore_n 1, 1) := by decide +kernel
theorem dX12_rollLine_7 : decode cX12_rollLine 7 = .ok (.aload_n 0, 1) := by decide +kernel
theorem dX12_rollLine_8 : decode cX12_rollLine 8 = .ok (.ldc2_w 115, 3) := by decide +kernel
theorem dX12_rollLine_11 : decode cX12_rollLine 11 = .ok (.invokevirtual 219, 3) := by decide +kernel
theorem dX12_rollLine_14 : decode cX12_rollLine 14 = .ok (.ifCond .eq 7, 3) := by decide +kernel
theorem dX12_rollLine_17 : decode cX12_rollLine 17 = .ok (.iconst 0, 1) := by decide +kernel
theorem dX12_rollLine_18 : decode cX12_rollLine 18 = .ok (.goto 32, 3) := by decide +kernel
theorem dX12_rollLine_21 : decode cX12_rollLine 21 = .ok (.aload_n 0, 1) := by decide +kernel
theorem dX12_rollLine_22 : decode cX12_rollLine 22 = .ok (.ldc2_w 125, 3) := by decide +kernel
theorem dX12_rollLine_25 : decode cX12_rollLine 25 = .ok (.invokevirtual 219, 3) := by decide +kernel
theorem dX12_rollLine_28 : decode cX12_rollLine 28 = .ok (.ifCond .eq 7, 3) := by decide +kernel
theorem dX12_rollLine_31 : decode cX12_rollLine 31 = .ok (.iconst 4, 1) := by decide +kernel
theorem dX12_rollLine_32 : decode cX12_rollLine 32 = .ok (.goto 18, 3) := by decide +kernel
theorem dX12_rollLine_35 : decode cX12_rollLine 35 = .ok (.aload_n 0, 1) := by decide +kernel
theorem dX12_rollLine_36 : decode cX12_rollLine 36 = .ok (.ldc2_w 117, 3) := by decide +kernel
theorem dX12_rollLine_39 : decode cX12_rollLine 39 = .ok (.invokevirtual 219, 3) := by decide +kernel
theorem dX12_rollLine_42 : decode cX12_rollLine 42 = .ok (.ifCond .eq 7, 3) := by decide +kernel
theorem dX12_rollLine_45 : decode cX12_rollLine 45 = .ok (.iconst 5, 1) := by decide +kernel
theorem dX12_rollLine_46 : decode cX12_rollLine 46 = .ok (.goto 4, 3) := by decide +kernel
theorem dX12_rollLine_49 : decode cX12_rollLine 49 = .ok (.iconst (-1), 1) := by decide +kernel
theorem dX12_rollLine_50 : decode cX12_rollLine 50 = .ok (.istore_n 2, 1) := by decide +kernel
theorem dX12_rollLine_51 : decode cX12_rollLine 51 = .ok (.iload_n 2, 1) := by decide +kernel
theorem dX12_rollLine_52 : decode cX12_rollLine 52 = .ok (.ifCond .lt 78, 3) := by decide +kernel
theorem dX12_rollLine_55 : decode cX12_rollLine 55 = .ok (.aload_n 0, 1) := by decide +kernel
theorem dX12_rollLine_56 : decode cX12_rollLine 56 = .ok (.getfield 416, 3) := by decide +kernel
theorem dX12_rollLine_59 : decode cX12_rollLine 59 = .ok (.bipush 40, 2) := by decide +kernel
theorem dX12_rollLine_61 : decode cX12_rollLine 61 = .ok (.if_icmp .ne 9, 3) := by decide +kernel
theorem dX12_rollLine_64 : decode cX12_rollLine 64 = .ok (.aload_n 0, 1) := by decide +kernel
theorem dX12_rollLine_65 : decode cX12_rollLine 65 = .ok (.iconst 4, 1) := by decide +kernel
theorem dX12_rollLine_66 : decode cX12_rollLine 66 = .ok (.invokevirtual 185, 3) := by decide +kernel
theorem dX12_rollLine_69 : decode cX12_rollLine 69 = .ok (.ireturn, 1) := by decide +kernel
theorem dX12_rollLine_70 : decode cX12_rollLine 70 = .ok (.aload_n 0, 1) := by decide +kernel
theorem dX12_rollLine_71 : decode cX12_rollLine 71 = .ok (.getfield 40, 3) := by decide +kernel
theorem dX12_rollLine_74 : decode cX12_rollLine 74 = .ok (.iload_n 1, 1) := by decide +kernel
theorem dX12_rollLine_75 : decode cX12_rollLine 75 = .ok (.iload_n 2, 1) := by decide +kernel
theorem dX12_rollLine_76 : decode cX12_rollLine 76 = .ok (.iastore, 1) := by decide +kernel
theorem dX12_rollLine_77 : decode cX12_rollLine 77 = .ok (.aload_n 0, 1) := by decide +kernel
theorem dX12_rollLine_78 : decode cX12_rollLine 78 = .ok (.invokevirtual 188, 3) := by decide +kernel
theorem dX12_rollLine_81 : decode cX12_rollLine 81 = .ok (.iload_n 2, 1) := by decide +kernel
theorem dX12_rollLine_82 : decode cX12_rollLine 82 = .ok (.iconst 4, 1) := by decide +kernel
theorem dX12_rollLine_83 : decode cX12_rollLine 83 = .ok (.if_icmp .ne 5, 3) := by decide +kernel
theorem dX12_rollLine_86 : decode cX12_rollLine 86 = .ok (.iconst 1, 1) := by decide +kernel
theorem dX12_rollLine_87 : decode cX12_rollLine 87 = .ok (.ireturn, 1) := by decide +kernel
theorem dX12_rollLine_88 : decode cX12_rollLine 88 = .ok (.aload_n 0, 1) := by decide +kernel
theorem dX12_rollLine_89 : decode cX12_rollLine 89 = .ok (.iload_n 2, 1) := by decide +kernel
theorem dX12_rollLine_90 : decode cX12_rollLine 90 = .ok (.ifCond .ne 7, 3) := by decide +kernel
theorem dX12_rollLine_93 : decode cX12_rollLine 93 = .ok (.iconst 0, 1) := by decide +kernel
theorem dX12_rollLine_94 : decode cX12_rollLine 94 = .ok (.goto 4, 3) := by decide +kernel
theorem dX12_rollLine_97 : decode cX12_rollLine 97 = .ok (.iconst 1, 1) := by decide +kernel
theorem dX12_rollLine_98 : decode cX12_rollLine 98 = .ok (.iload_n 2, 1) := by decide +kernel
theorem dX12_rollLine_99 : decode cX12_rollLine 99 = .ok (.ifCond .ne 7, 3) := by decide +kernel
theorem dX12_rollLine_102 : decode cX12_rollLine 102 = .ok (.iconst 3, 1) := by decide +kernel
theorem dX12_rollLine_103 : decode cX12_rollLine 103 = .ok (.goto 5, 3) := by decide +kernel
theorem dX12_rollLine_106 : decode cX12_rollLine 106 = .ok (.bipush 99, 2) := by decide +kernel
theorem dX12_rollLine_108 : decode cX12_rollLine 108 = .ok (.invokevirtual 198, 3) := by decide +kernel
theorem dX12_rollLine_111 : decode cX12_rollLine 111 = .ok (.ifCond .ne 5, 3) := by decide +kernel
theorem dX12_rollLine_114 : decode cX12_rollLine 114 = .ok (.iconst 0, 1) := by decide +kernel
theorem dX12_rollLine_115 : decode cX12_rollLine 115 = .ok (.ireturn, 1) := by decide +kernel
theorem dX12_rollLine_116 : decode cX12_rollLine 116 = .ok (.aload_n 0, 1) := by decide +kernel
theorem dX12_rollLine_117 : decode cX12_rollLine 117 = .ok (.getfield 40, 3) := by decide +kernel
theorem dX12_rollLine_120 : decode cX12_rollLine 120 = .ok (.iload_n 1, 1) := by decide +kernel
theorem dX12_rollLine_121 : decode cX12_rollLine 121 = .ok (.iconst 1, 1) := by decide +kernel
theorem dX12_rollLine_122 : decode cX12_rollLine 122 = .ok (.iadd, 1) := by decide +kernel
theorem dX12_rollLine_123 : decode cX12_rollLine 123 = .ok (.aload_n 0, 1) := by decide +kernel
theorem dX12_rollLine_124 : decode cX12_rollLine 124 = .ok (.getfield 195, 3) := by decide +kernel
theorem dX12_rollLine_127 : decode cX12_rollLine 127 = .ok (.iastore, 1) := by decide +kernel
theorem dX12_rollLine_128 : decode cX12_rollLine 128 = .ok (.iconst 1, 1) := by decide +kernel
theorem dX12_rollLine_129 : decode cX12_rollLine 129 = .ok (.ireturn, 1) := by decide +kernel
theorem dX12_rollLine_130 : decode cX12_rollLine 130 = .ok (.aload_n 0, 1) := by decide +kernel
theorem dX12_rollLine_131 : decode cX12_rollLine 131 = .ok (.bipush 8, 2) := by decide +kernel
theorem dX12_rollLine_133 : decode cX12_rollLine 133 = .ok (.aload_n 0, 1) := by decide +kernel
theorem dX12_rollLine_134 : decode cX12_rollLine 134 = .ok (.getfield 33, 3) := by decide +kernel
theorem dX12_rollLine_137 : decode cX12_rollLine 137 = .ok (.iconst 1, 1) := by decide +kernel
theorem dX12_rollLine_138 : decode cX12_rollLine 138 = .ok (.iaload, 1) := by decide +kernel
theorem dX12_rollLine_139 : decode cX12_rollLine 139 = .ok (.invokevirtual 210, 3) := by decide +kernel
theorem dX12_rollLine_142 : decode cX12_rollLine 142 = .ok (.ifCond .ne 5, 3) := by decide +kernel
theorem dX12_rollLine_145 : decode cX12_rollLine 145 = .ok (.iconst 0, 1) := by decide +kernel
theorem dX12_rollLine_146 : decode cX12_rollLine 146 = .ok (.ireturn, 1) := by decide +kernel
theorem dX12_rollLine_147 : decode cX12_rollLine 147 = .ok (.aload_n 0, 1) := by decide +kernel
theorem dX12_rollLine_148 : decode cX12_rollLine 148 = .ok (.getfield 416, 3) := by decide +kernel
theorem dX12_rollLine_151 : decode cX12_rollLine 151 = .ok (.bipush 40, 2) := by decide +kernel
theorem dX12_rollLine_153 : decode cX12_rollLine 153 = .ok (.if_icmp .ne 9, 3) := by decide +kernel
theorem dX12_rollLine_156 : decode cX12_rollLine 156 = .ok (.aload_n 0, 1) := by decide +kernel
theorem dX12_rollLine_157 : decode cX12_rollLine 157 = .ok (.iconst 4, 1) := by decide +kernel
theorem dX12_rollLine_158 : decode cX12_rollLine 158 = .ok (.invokevirtual 185, 3) := by decide +kernel
theorem dX12_rollLine_161 : decode cX12_rollLine 161 = .ok (.ireturn, 1) := by decide +kernel
theorem dX12_rollLine_162 : decode cX12_rollLine 162 = .ok (.aload_n 0, 1) := by decide +kernel
theorem dX12_rollLine_163 : decode cX12_rollLine 163 = .ok (.getfield 40, 3) := by decide +kernel
theorem dX12_rollLine_166 : decode cX12_rollLine 166 = .ok (.iload_n 1, 1) := by decide +kernel
theorem dX12_rollLine_167 : decode cX12_rollLine 167 = .ok (.iconst 1, 1) := by decide +kernel
theorem dX12_rollLine_168 : decode cX12_rollLine 168 = .ok (.iadd, 1) := by decide +kernel
theorem dX12_rollLine_169 : decode cX12_rollLine 169 = .ok (.aload_n 0, 1) := by decide +kernel
theorem dX12_rollLine_170 : decode cX12_rollLine 170 = .ok (.getfield 195, 3) := by decide +kernel
theorem dX12_rollLine_173 : decode cX12_rollLine 173 = .ok (.iastore, 1) := by decide +kernel
theorem dX12_rollLine_174 : decode cX12_rollLine 174 = .ok (.aload_n 0, 1) := by decide +kernel
theorem dX12_rollLine_175 : decode cX12_rollLine 175 = .ok (.invokevirtual 188, 3) := by decide +kernel
theorem dX12_rollLine_178 : decode cX12_rollLine 178 = .ok (.aload_n 0, 1) := by decide +kernel
theorem dX12_rollLine_179 : decode cX12_rollLine 179 = .ok (.ldc2_w 119, 3) := by decide +kernel
theorem dX12_rollLine_182 : decode cX12_rollLine 182 = .ok (.invokevirtual 219, 3) := by decide +kernel
theorem dX12_rollLine_185 : decode cX12_rollLine 185 = .ok (.ifCond .eq 7, 3) := by decide +kernel
theorem dX12_rollLine_188 : decode cX12_rollLine 188 = .ok (.iconst 1, 1) := by decide +kernel
theorem dX12_rollLine_189 : decode cX12_rollLine 189 = .ok (.goto 32, 3) := by decide +kernel
theorem dX12_rollLine_192 : decode cX12_rollLine 192 = .ok (.aload_n 0, 1) := by decide +kernel
theorem dX12_rollLine_193 : decode cX12_rollLine 193 = .ok (.ldc2_w 121, 3) := by decide +kernel
theorem dX12_rollLine_196 : decode cX12_rollLine 196 = .ok (.invokevirtual 219, 3) := by decide +kernel
theorem dX12_rollLine_199 : decode cX12_rollLine 199 = .ok (.ifCond .eq 7, 3) := by decide +kernel
theorem dX12_rollLine_202 : decode cX12_rollLine 202 = .ok (.iconst 2, 1) := by decide +kernel
theorem dX12_rollLine_203 : decode cX12_rollLine 203 = .ok (.goto 18, 3) := by decide +kernel
theorem dX12_rollLine_206 : decode cX12_rollLine 206 = .ok (.aload_n 0, 1) := by decide +kernel
theorem dX12_rollLine_207 : decode cX12_rollLine 207 = .ok (.ldc2_w 123, 3) := by decide +kernel
theorem dX12_rollLine_210 : decode cX12_rollLine 210 = .ok (.invokevirtual 219, 3) := by decide +kernel
theorem dX12_rollLine_213 : decode cX12_rollLine 213 = .ok (.ifCond .eq 7, 3) := by decide +kernel
theorem dX12_rollLine_216 : decode cX12_rollLine 216 = .ok (.iconst 3, 1) := by decide +kernel
theorem dX12_rollLine_217 : decode cX12_rollLine 217 = .ok (.goto 4, 3) := by decide +kernel
theorem dX12_rollLine_220 : decode cX12_rollLine 220 = .ok (.iconst (-1), 1) := by decide +kernel
theorem dX12_rollLine_221 : decode cX12_rollLine 221 = .ok (.istore_n 3, 1) := by decide +kernel
theorem dX12_rollLine_222 : decode cX12_rollLine 222 = .ok (.iload_n 3, 1) := by decide +kernel
theorem dX12_rollLine_223 : decode cX12_rollLine 223 = .ok (.ifCond .ge 9, 3) := by decide +kernel
theorem dX12_rollLine_226 : decode cX12_rollLine 226 = .ok (.aload_n 0, 1) := by decide +kernel
theorem dX12_rollLine_227 : decode cX12_rollLine 227 = .ok (.iconst 1, 1) := by decide +kernel
theorem dX12_rollLine_228 : decode cX12_rollLine 228 = .ok (.invokevirtual 185, 3) := by decide +kernel
theorem dX12_rollLine_231 : decode cX12_rollLine 231 = .ok (.ireturn, 1) := by decide +kernel
theorem dX12_rollLine_232 : decode cX12_rollLine 232 = .ok (.aload_n 0, 1) := by decide +kernel
theorem dX12_rollLine_233 : decode cX12_rollLine 233 = .ok (.getfield 40, 3) := by decide +kernel
theorem dX12_rollLine_236 : decode cX12_rollLine 236 = .ok (.iload_n 1, 1) := by decide +kernel
theorem dX12_rollLine_237 : decode cX12_rollLine 237 = .ok (.iload_n 3, 1) := by decide +kernel
theorem dX12_rollLine_238 : decode cX12_rollLine 238 = .ok (.iastore, 1) := by decide +kernel
theorem dX12_rollLine_239 : decode cX12_rollLine 239 = .ok (.aload_n 0, 1) := by decide +kernel
theorem dX12_rollLine_240 : decode cX12_rollLine 240 = .ok (.invokevirtual 188, 3) := by decide +kernel
theorem dX12_rollLine_243 : decode cX12_rollLine 243 = .ok (.iload_n 3, 1) := by decide +kernel
theorem dX12_rollLine_244 : decode cX12_rollLine 244 = .ok (.iconst 2, 1) := by decide +kernel
theorem dX12_rollLine_245 : decode cX12_rollLine 245 = .ok (.if_icmp .ne 16, 3) := by decide +kernel
theorem dX12_rollLine_248 : decode cX12_rollLine 248 = .ok (.aload_n 0, 1) := by decide +kernel
theorem dX12_rollLine_249 : decode cX12_rollLine 249 = .ok (.iconst 0, 1) := by decide +kernel
theorem dX12_rollLine_250 : decode cX12_rollLine 250 = .ok (.bipush 9, 2) := by decide +kernel
theorem dX12_rollLine_252 : decode cX12_rollLine 252 = .ok (.invokevirtual 198, 3) := by decide +kernel
theorem dX12_rollLine_255 : decode cX12_rollLine 255 = .ok (.ifCond .ne 41, 3) := by decide +kernel
theorem dX12_rollLine_258 : decode cX12_rollLine 258 = .ok (.goto 36, 3) := by decide +kernel
theorem dX12_rollLine_261 : decode cX12_rollLine 261 = .ok (.aload_n 0, 1) := by decide +kernel
theorem dX12_rollLine_262 : decode cX12_rollLine 262 = .ok (.iload_n 3, 1) := by decide +kernel
theorem dX12_rollLine_263 : decode cX12_rollLine 263 = .ok (.iconst 1, 1) := by decide +kernel
theorem dX12_rollLine_264 : decode cX12_rollLine 264 = .ok (.if_icmp .ne 7, 3) := by decide +kernel
theorem dX12_rollLine_267 : decode cX12_rollLine 267 = .ok (.iconst 0, 1) := by decide +kernel
theorem dX12_rollLine_268 : decode cX12_rollLine 268 = .ok (.goto 5, 3) := by decide +kernel
theorem dX12_rollLine_271 : decode cX12_rollLine 271 = .ok (.bipush 8, 2) := by decide +kernel
theorem dX12_rollLine_273 : decode cX12_rollLine 273 = .ok (.aload_n 0, 1) := by decide +kernel
theorem dX12_rollLine_274 : decode cX12_rollLine 274 = .ok (.getfield 33, 3) := by decide +kernel
theorem dX12_rollLine_277 : decode cX12_rollLine 277 = .ok (.iload_n 3, 1) := by decide +kernel
theorem dX12_rollLine_278 : decode cX12_rollLine 278 = .ok (.iconst 1, 1) := by decide +kernel
theorem dX12_rollLine_279 : decode cX12_rollLine 279 = .ok (.if_icmp .ne 7, 3) := by decide +kernel
theorem dX12_rollLine_282 : decode cX12_rollLine 282 = .ok (.iconst 0, 1) := by decide +kernel
theorem dX12_rollLine_283 : decode cX12_rollLine 283 = .ok (.goto 4, 3) := by decide +kernel
theorem dX12_rollLine_286 : decode cX12_rollLine 286 = .ok (.iconst 1, 1) := by decide +kernel
theorem dX12_rollLine_287 : decode cX12_rollLine 287 = .ok (.iaload, 1) := by decide +kernel
theorem dX12_rollLine_288 : decode cX12_rollLine 288 = .ok (.invokevirtual 235, 3) := by decide +kernel
theorem dX12_rollLine_291 : decode cX12_rollLine 291 = .ok (.ifCond .ne 5, 3) := by decide +kernel
theorem dX12_rollLine_294 : decode cX12_rollLine 294 = .ok (.iconst 0, 1) := by decide +kernel
theorem dX12_rollLine_295 : decode cX12_rollLine 295 = .ok (.ireturn, 1) := by decide +kernel
theorem dX12_rollLine_296 : decode cX12_rollLine 296 = .ok (.aload_n 0, 1) := by decide +kernel
theorem dX12_rollLine_297 : decode cX12_rollLine 297 = .ok (.getfield 40, 3) := by decide +kernel
theorem dX12_rollLine_300 : decode cX12_rollLine 300 = .ok (.iload_n 1, 1) := by decide +kernel
theorem dX12_rollLine_301 : decode cX12_rollLine 301 = .ok (.iconst 2, 1) := by decide +kernel
theorem dX12_rollLine_302 : decode cX12_rollLine 302 = .ok (.iadd, 1) := by decide +kernel
theorem dX12_rollLine_303 : decode cX12_rollLine 303 = .ok (.aload_n 0, 1) := by decide +kernel
theorem dX12_rollLine_304 : decode cX12_rollLine 304 = .ok (.getfield 195, 3) := by decide +kernel
theorem dX12_rollLine_307 : decode cX12_rollLine 307 = .ok (.iastore, 1) := by decide +kernel
theorem dX12_rollLine_308 : decode cX12_rollLine 308 = .ok (.iconst 1, 1) := by decide +kernel
theorem dX12_rollLine_309 : decode cX12_rollLine 309 = .ok (.ireturn, 1) := by decide +kernel
set_option maxRecDepth 20000 in
theorem ggX12_whyLine_X12_isFlight : GoodIn wsX12_whyLine wsX12_isFlight := goodIn_r _ [6, 1, 7, 8, 5, 9, 52, 53, 54, 55, 56, 57, 58, 59, 60, 61, 62, 63, 64, 65, 66, 67, 68, 69, 70, 71, 72, 73, 74, 75, 76, 77, 78, 79, 80, 81, 82, 83, 84, 85, 86, 87, 88, 89, 90, 91, 92, 93, 94, 95, 96, 97, 98] (by decide +kernel) (by decide +kernel)
set_option maxRecDepth 20000 in
theorem gX12_whyLine_X12_isFlight : GoodIn wsX12_whyLine (wsV RX12 259 RX12 yX12_isFlight wsX12_isFlight) := goodIn_app (goodIn_of _ (by decide +kernel)) ggX12_whyLine_X12_isFlight
set_option maxRecDepth 20000 in
theorem ggX12_whyLine_X12_whyMove : GoodIn wsX12_whyLine wsX12_whyMove := goodIn_r _ [13, 1, 14, 15, 16, 5, 17, 18, 19, 20, 21, 52, 53, 54, 55, 56, 57, 58, 59, 60, 61, 62, 63, 64, 65, 66, 67, 68, 69, 70, 71, 72, 73, 74, 75, 76, 77, 78, 79, 80, 81, 82, 83, 84, 85, 86, 87, 88, 89, 90, 91, 92, 93, 94, 95, 96, 97, 98] (by decide +kernel) (by decide +kernel)
set_option maxRecDepth 20000 in
theorem gX12_whyLine_X12_whyMove : GoodIn wsX12_whyLine (wsV RX12 342 RX12 yX12_whyMove wsX12_whyMove) := goodIn_app (goodIn_of _ (by decide +kernel)) ggX12_whyLine_X12_whyMove
set_option maxRecDepth 20000 in
theorem ggX12_whyLine_X12_whySwear : GoodIn wsX12_whyLine wsX12_whySwear := goodIn_r _ [25, 1, 18, 19, 20, 5, 21, 52, 53, 54, 55, 56, 57, 58, 59, 60, 61, 62, 63, 64, 65, 66, 67, 68, 69, 70, 71, 72, 73, 74, 75, 76, 77, 78, 79, 80, 81, 82, 83, 84, 85, 86, 87, 88, 89, 90, 91, 92, 93, 94, 95, 96, 97, 98] (by decide +kernel) (by decide +kernel)
set_option maxRecDepth 20000 in
theorem gX12_whyLine_X12_whySwear : GoodIn wsX12_whyLine (wsV RX12 345 RX12 yX12_whySwear wsX12_whySwear) := goodIn_app (goodIn_of _ (by decide +kernel)) ggX12_whyLine_X12_whySwear
set_option maxRecDepth 20000 in
theorem ggX12_whyLine_X12_whyAccuse : GoodIn wsX12_whyLine wsX12_whyAccuse := goodIn_r _ [29, 1, 30, 31, 32, 5, 33, 34, 35, 36, 37, 38, 39, 40, 41, 42, 43, 44, 45, 46, 47, 52, 53, 54, 55, 56, 57, 58, 59, 60, 61, 62, 63, 64, 65, 66, 67, 68, 69, 70, 71, 72, 73, 74, 75, 76, 77, 78, 79, 80, 81, 82, 83, 84, 85, 86, 87, 88, 89, 90, 91, 92, 93, 94, 95, 96, 97, 98] (by decide +kernel) (by decide +kernel)
set_option maxRecDepth 20000 in
theorem gX12_whyLine_X12_whyAccuse : GoodIn wsX12_whyLine (wsV RX12 351 RX12 yX12_whyAccuse wsX12_whyAccuse) := goodIn_app (goodIn_of _ (by decide +kernel)) ggX12_whyLine_X12_whyAccuse
set_option maxRecDepth 20000 in
theorem ggX12_whyLine_X12_whyShare : GoodIn wsX12_whyLine wsX12_whyShare := goodIn_r _ [51, 1, 52, 53, 54, 55, 56, 57, 58, 59, 60, 61, 62, 63, 64, 65, 66, 67, 68, 69, 70, 71, 72, 73, 74, 75, 76, 77, 78, 79, 80, 81, 82, 83, 84, 85, 86, 87, 88, 89, 90, 91, 92, 93, 94, 95, 96, 97, 98] (by decide +kernel) (by decide +kernel)
set_option maxRecDepth 20000 in
theorem gX12_whyLine_X12_whyShare : GoodIn wsX12_whyLine (wsV RX12 357 RX12 yX12_whyShare wsX12_whyShare) := goodIn_app (goodIn_of _ (by decide +kernel)) ggX12_whyLine_X12_whyShare
theorem dX12_whyLine_0 : decode cX12_whyLine 0 = .ok (.iload_n 1, 1) := by decide +kernel
theorem dX12_whyLine_1 : decode cX12_whyLine 1 = .ok (.tableswitch 101 0 4 #[35, 65, 72, 79, 96], 35) := by decide +kernel
theorem dX12_whyLine_36 : decode cX12_whyLine 36 = .ok (.aload_n 0, 1) := by decide +kernel
theorem dX12_whyLine_37 : decode cX12_whyLine 37 = .ok (.iload_n 2, 1) := by decide +kernel
theorem dX12_whyLine_38 : decode cX12_whyLine 38 = .ok (.invokevirtual 259, 3) := by decide +kernel
theorem dX12_whyLine_41 : decode cX12_whyLine 41 = .ok (.ifCond .ne 8, 3) := by decide +kernel
theorem dX12_whyLine_44 : decode cX12_whyLine 44 = .ok (.bipush 9, 2) := by decide +kernel
theorem dX12_whyLine_46 : decode cX12_whyLine 46 = .ok (.goto 19, 3) := by decide +kernel
theorem dX12_whyLine_49 : decode cX12_whyLine 49 = .ok (.aload_n 0, 1) := by decide +kernel
theorem dX12_whyLine_50 : decode cX12_whyLine 50 = .ok (.getfield 33, 3) := by decide +kernel
theorem dX12_whyLine_53 : decode cX12_whyLine 53 = .ok (.sipush 212, 3) := by decide +kernel
theorem dX12_whyLine_56 : decode cX12_whyLine 56 = .ok (.iaload, 1) := by decide +kernel
theorem dX12_whyLine_57 : decode cX12_whyLine 57 = .ok (.ifCond .le 7, 3) := by decide +kernel
theorem dX12_whyLine_60 : decode cX12_whyLine 60 = .ok (.iconst 1, 1) := by decide +kernel
theorem dX12_whyLine_61 : decode cX12_whyLine 61 = .ok (.goto 4, 3) := by decide +kernel
theorem dX12_whyLine_64 : decode cX12_whyLine 64 = .ok (.iconst 0, 1) := by decide +kernel
theorem dX12_whyLine_65 : decode cX12_whyLine 65 = .ok (.ireturn, 1) := by decide +kernel
theorem dX12_whyLine_66 : decode cX12_whyLine 66 = .ok (.aload_n 0, 1) := by decide +kernel
theorem dX12_whyLine_67 : decode cX12_whyLine 67 = .ok (.iload_n 2, 1) := by decide +kernel
theorem dX12_whyLine_68 : decode cX12_whyLine 68 = .ok (.iload_n 3, 1) := by decide +kernel
theorem dX12_whyLine_69 : decode cX12_whyLine 69 = .ok (.invokevirtual 342, 3) := by decide +kernel
theorem dX12_whyLine_72 : decode cX12_whyLine 72 = .ok (.ireturn, 1) := by decide +kernel
theorem dX12_whyLine_73 : decode cX12_whyLine 73 = .ok (.aload_n 0, 1) := by decide +kernel
theorem dX12_whyLine_74 : decode cX12_whyLine 74 = .ok (.iload_n 2, 1) := by decide +kernel
theorem dX12_whyLine_75 : decode cX12_whyLine 75 = .ok (.iload_n 3, 1) := by decide +kernel
theorem dX12_whyLine_76 : decode cX12_whyLine 76 = .ok (.invokevirtual 345, 3) := by decide +kernel
theorem dX12_whyLine_79 : decode cX12_whyLine 79 = .ok (.ireturn, 1) := by decide +kernel
theorem dX12_whyLine_80 : decode cX12_whyLine 80 = .ok (.iload_n 2, 1) := by decide +kernel
theorem dX12_whyLine_81 : decode cX12_whyLine 81 = .ok (.iload_n 3, 1) := by decide +kernel
theorem dX12_whyLine_82 : decode cX12_whyLine 82 = .ok (.if_icmp .ne 8, 3) := by decide +kernel
theorem dX12_whyLine_85 : decode cX12_whyLine 85 = .ok (.bipush 9, 2) := by decide +kernel
theorem dX12_whyLine_87 : decode cX12_whyLine 87 = .ok (.goto 9, 3) := by decide +kernel
theorem dX12_whyLine_90 : decode cX12_whyLine 90 = .ok (.aload_n 0, 1) := by decide +kernel
theorem dX12_whyLine_91 : decode cX12_whyLine 91 = .ok (.iload_n 2, 1) := by decide +kernel
theorem dX12_whyLine_92 : decode cX12_whyLine 92 = .ok (.iload_n 3, 1) := by decide +kernel
theorem dX12_whyLine_93 : decode cX12_whyLine 93 = .ok (.invokevirtual 351, 3) := by decide +kernel
theorem dX12_whyLine_96 : decode cX12_whyLine 96 = .ok (.ireturn, 1) := by decide +kernel
theorem dX12_whyLine_97 : decode cX12_whyLine 97 = .ok (.aload_n 0, 1) := by decide +kernel
theorem dX12_whyLine_98 : decode cX12_whyLine 98 = .ok (.invokevirtual 357, 3) := by decide +kernel
theorem dX12_whyLine_101 : decode cX12_whyLine 101 = .ok (.ireturn, 1) := by decide +kernel
theorem dX12_whyLine_102 : decode cX12_whyLine 102 = .ok (.iconst 0, 1) := by decide +kernel
theorem dX12_whyLine_103 : decode cX12_whyLine 103 = .ok (.ireturn, 1) := by decide +kernel
set_option maxRecDepth 20000 in
theorem ggX12_livesLine_X12_swearsTo : GoodIn wsX12_livesLine wsX12_swearsTo := goodIn_r _ [6, 1, 73, 74, 75, 76, 77, 78, 79, 80, 81, 82, 83, 84, 85, 86, 87, 88, 89, 90, 91, 92, 93, 94, 95, 96, 97, 98, 99, 100, 101, 102, 103, 104, 105, 106, 107, 108, 109, 110, 111, 112, 113, 114, 115, 116, 117, 118, 119] (by decide +kernel) (by decide +kernel)
set_option maxRecDepth 20000 in
theorem gX12_livesLine_X12_swearsTo : GoodIn wsX12_livesLine (wsV RX12 348 RX12 yX12_swearsTo wsX12_swearsTo) := goodIn_app (goodIn_of _ (by decide +kernel)) ggX12_livesLine_X12_swearsTo
set_option maxRecDepth 20000 in
theorem ggX12_livesLine_X12_accuses : GoodIn wsX12_livesLine wsX12_accuses := goodIn_r _ [10, 1, 11, 12, 13, 5, 14, 15, 16, 17, 18, 19, 20, 21, 22, 23, 24, 25, 26, 27, 28, 29, 30, 31, 32, 33, 34, 35, 36, 37, 38, 39, 40, 41, 42, 43, 44, 73, 74, 75, 76, 77, 78, 79, 80, 81, 82, 83, 84, 85, 86, 87, 88, 89, 90, 91, 92, 93, 94, 95, 96, 97, 98, 99, 100, 101, 102, 103, 104, 105, 106, 107, 108, 109, 110, 111, 112, 113, 114, 115, 116, 117, 118, 119] (by decide +kernel) (by decide +kernel)
set_option maxRecDepth 20000 in
theorem gX12_livesLine_X12_accuses : GoodIn wsX12_livesLine (wsV RX12 354 RX12 yX12_accuses wsX12_accuses) := goodIn_app (goodIn_of _ (by decide +kernel)) ggX12_livesLine_X12_accuses
set_option maxRecDepth 20000 in
theorem ggX12_livesLine_X12_sharesNow : GoodIn wsX12_livesLine wsX12_sharesNow := goodIn_r _ [48, 1, 23, 49, 50, 51, 5, 52, 53, 54, 15, 16, 17, 18, 19, 20, 21, 22, 24, 25, 34, 35, 36, 37, 55, 56, 57, 58, 59, 60, 61, 62, 63, 64, 65, 73, 74, 75, 76, 77, 78, 79, 80, 81, 82, 83, 84, 85, 86, 87, 88, 89, 90, 91, 92, 93, 94, 95, 96, 97, 98, 99, 100, 101, 102, 103, 104, 105, 106, 107, 108, 109, 110, 111, 112, 113, 114, 115, 116, 117, 118, 119] (by decide +kernel) (by decide +kernel)
set_option maxRecDepth 20000 in
theorem gX12_livesLine_X12_sharesNow : GoodIn wsX12_livesLine (wsV RX12 360 RX12 yX12_sharesNow wsX12_sharesNow) := goodIn_app (goodIn_of _ (by decide +kernel)) ggX12_livesLine_X12_sharesNow
set_option maxRecDepth 20000 in
theorem ggX12_livesLine_X12_ends : GoodIn wsX12_livesLine wsX12_ends := goodIn_r _ [69, 1, 54, 73, 74, 75, 76, 77, 78, 79, 80, 81, 82, 83, 84, 85, 86, 87, 88, 89, 90, 91, 92, 93, 94, 95, 96, 97, 98, 99, 100, 101, 102, 103, 104, 105, 106, 107, 108, 109, 110, 111, 112, 113, 114, 115, 116, 117, 118, 119] (by decide +kernel) (by decide +kernel)
set_option maxRecDepth 20000 in
theorem gX12_livesLine_X12_ends : GoodIn wsX12_livesLine (wsV RX12 363 RX12 yX12_ends wsX12_ends) := goodIn_app (goodIn_of _ (by decide +kernel)) ggX12_livesLine_X12_ends
set_option maxRecDepth 20000 in
theorem ggX12_livesLine_X12_lesser : GoodIn wsX12_livesLine wsX12_lesser := goodIn_r _ [72] (by decide +kernel) (by decide +kernel)
set_option maxRecDepth 20000 in
theorem gX12_livesLine_X12_lesser : GoodIn wsX12_livesLine (va_wsS RX12 339 yX12_lesser wsX12_lesser) := goodIn_app (goodIn_of _ (by decide +kernel)) ggX12_livesLine_X12_lesser
theorem dX12_livesLine_0 : decode cX12_livesLine 0 = .ok (.iload_n 1, 1) := by decide +kernel
theorem dX12_livesLine_1 : decode cX12_livesLine 1 = .ok (.tableswitch 92 0 4 #[35, 49, 63, 72, 81], 35) := by decide +kernel
theorem dX12_livesLine_36 : decode cX12_livesLine 36 = .ok (.aload_n 0, 1) := by decide +kernel
theorem dX12_livesLine_37 : decode cX12_livesLine 37 = .ok (.getfield 33, 3) := by decide +kernel
theorem dX12_livesLine_40 : decode cX12_livesLine 40 = .ok (.sipush 212, 3) := by decide +kernel
theorem dX12_livesLine_43 : decode cX12_livesLine 43 = .ok (.iload_n 2, 1) := by decide +kernel
theorem dX12_livesLine_44 : decode cX12_livesLine 44 = .ok (.iconst 1, 1) := by decide +kernel
theorem dX12_livesLine_45 : decode cX12_livesLine 45 = .ok (.iadd, 1) := by decide +kernel
theorem dX12_livesLine_46 : decode cX12_livesLine 46 = .ok (.iastore, 1) := by decide +kernel
theorem dX12_livesLine_47 : decode cX12_livesLine 47 = .ok (.goto 69, 3) := by decide +kernel
theorem dX12_livesLine_50 : decode cX12_livesLine 50 = .ok (.aload_n 0, 1) := by decide +kernel
theorem dX12_livesLine_51 : decode cX12_livesLine 51 = .ok (.getfield 33, 3) := by decide +kernel
theorem dX12_livesLine_54 : decode cX12_livesLine 54 = .ok (.sipush 214, 3) := by decide +kernel
theorem dX12_livesLine_57 : decode cX12_livesLine 57 = .ok (.iload_n 2, 1) := by decide +kernel
theorem dX12_livesLine_58 : decode cX12_livesLine 58 = .ok (.iadd, 1) := by decide +kernel
theorem dX12_livesLine_59 : decode cX12_livesLine 59 = .ok (.iload_n 3, 1) := by decide +kernel
theorem dX12_livesLine_60 : decode cX12_livesLine 60 = .ok (.iastore, 1) := by decide +kernel
theorem dX12_livesLine_61 : decode cX12_livesLine 61 = .ok (.goto 55, 3) := by decide +kernel
theorem dX12_livesLine_64 : decode cX12_livesLine 64 = .ok (.aload_n 0, 1) := by decide +kernel
theorem dX12_livesLine_65 : decode cX12_livesLine 65 = .ok (.iload_n 2, 1) := by decide +kernel
theorem dX12_livesLine_66 : decode cX12_livesLine 66 = .ok (.iload_n 3, 1) := by decide +kernel
theorem dX12_livesLine_67 : decode cX12_livesLine 67 = .ok (.invokevirtual 348, 3) := by decide +kernel
theorem dX12_livesLine_70 : decode cX12_livesLine 70 = .ok (.goto 46, 3) := by decide +kernel
theorem dX12_livesLine_73 : decode cX12_livesLine 73 = .ok (.aload_n 0, 1) := by decide +kernel
theorem dX12_livesLine_74 : decode cX12_livesLine 74 = .ok (.iload_n 2, 1) := by decide +kernel
theorem dX12_livesLine_75 : decode cX12_livesLine 75 = .ok (.iload_n 3, 1) := by decide +kernel
theorem dX12_livesLine_76 : decode cX12_livesLine 76 = .ok (.invokevirtual 354, 3) := by decide +kernel
theorem dX12_livesLine_79 : decode cX12_livesLine 79 = .ok (.goto 37, 3) := by decide +kernel
theorem dX12_livesLine_82 : decode cX12_livesLine 82 = .ok (.aload_n 0, 1) := by decide +kernel
theorem dX12_livesLine_83 : decode cX12_livesLine 83 = .ok (.invokevirtual 360, 3) := by decide +kernel
theorem dX12_livesLine_86 : decode cX12_livesLine 86 = .ok (.aload_n 0, 1) := by decide +kernel
theorem dX12_livesLine_87 : decode cX12_livesLine 87 = .ok (.invokevirtual 363, 3) := by decide +kernel
theorem dX12_livesLine_90 : decode cX12_livesLine 90 = .ok (.goto 26, 3) := by decide +kernel
theorem dX12_livesLine_93 : decode cX12_livesLine 93 = .ok (.aload_n 0, 1) := by decide +kernel
theorem dX12_livesLine_94 : decode cX12_livesLine 94 = .ok (.getfield 33, 3) := by decide +kernel
theorem dX12_livesLine_97 : decode cX12_livesLine 97 = .ok (.sipush 213, 3) := by decide +kernel
theorem dX12_livesLine_100 : decode cX12_livesLine 100 = .ok (.bipush 99, 2) := by decide +kernel
theorem dX12_livesLine_102 : decode cX12_livesLine 102 = .ok (.aload_n 0, 1) := by decide +kernel
theorem dX12_livesLine_103 : decode cX12_livesLine 103 = .ok (.getfield 33, 3) := by decide +kernel
theorem dX12_livesLine_106 : decode cX12_livesLine 106 = .ok (.sipush 213, 3) := by decide +kernel
theorem dX12_livesLine_109 : decode cX12_livesLine 109 = .ok (.iaload, 1) := by decide +kernel
theorem dX12_livesLine_110 : decode cX12_livesLine 110 = .ok (.iload_n 2, 1) := by decide +kernel
theorem dX12_livesLine_111 : decode cX12_livesLine 111 = .ok (.iadd, 1) := by decide +kernel
theorem dX12_livesLine_112 : decode cX12_livesLine 112 = .ok (.invokestatic 339, 3) := by decide +kernel
theorem dX12_livesLine_115 : decode cX12_livesLine 115 = .ok (.iastore, 1) := by decide +kernel
theorem dX12_livesLine_116 : decode cX12_livesLine 116 = .ok (.return_, 1) := by decide +kernel
set_option maxRecDepth 20000 in
theorem ggX12_roll_X12_isIn : GoodIn wsX12_roll wsX12_isIn := goodIn_r _ [16] (by decide +kernel) (by decide +kernel)
set_option maxRecDepth 20000 in
theorem gX12_roll_X12_isIn : GoodIn wsX12_roll (va_wsS RX12 191 yX12_isIn wsX12_isIn) := goodIn_app (goodIn_of _ (by decide +kernel)) ggX12_roll_X12_isIn
set_option maxRecDepth 20000 in
theorem ggX12_roll_X12_taken : GoodIn wsX12_roll wsX12_taken := goodIn_r _ [20, 21, 22, 23, 24, 215, 216, 217, 218, 219, 220, 221, 222, 223, 224, 225, 226, 227, 228, 229, 230, 231, 232, 233, 234, 235, 236, 237, 238, 239, 240, 241, 242, 243, 244, 245, 246, 247, 248, 249, 250, 251, 252, 253, 254, 255, 256, 257, 258, 259, 260, 261] (by decide +kernel) (by decide +kernel)
set_option maxRecDepth 20000 in
theorem gX12_roll_X12_taken : GoodIn wsX12_roll (wsV RX12 244 RX12 yX12_taken wsX12_taken) := goodIn_app (goodIn_of _ (by decide +kernel)) ggX12_roll_X12_taken
set_option maxRecDepth 20000 in
theorem ggX12_roll_X12_next : GoodIn wsX12_roll wsX12_next := goodIn_r _ [28, 23, 29, 30, 22, 24, 4, 31, 32, 33, 34, 35, 15, 36, 37, 38, 39, 40, 41, 42, 43, 215, 216, 217, 218, 219, 220, 221, 222, 223, 224, 225, 226, 227, 228, 229, 230, 231, 232, 233, 234, 235, 236, 237, 238, 239, 240, 241, 242, 243, 244, 245, 246, 247, 248, 249, 250, 251, 252, 253, 254, 255, 256, 257, 258, 259, 260, 261] (by decide +kernel) (by decide +kernel)
set_option maxRecDepth 20000 in
theorem gX12_roll_X12_next : GoodIn wsX12_roll (wsV RX12 188 RX12 yX12_next wsX12_next) := goodIn_app (goodIn_of _ (by decide +kernel)) ggX12_roll_X12_next
set_option maxRecDepth 20000 in
theorem ggX12_roll_X12_rollLine : GoodIn wsX12_roll wsX12_rollLine := goodIn_r _ [47, 3, 48, 49, 50, 7, 51, 8, 52, 53, 54, 55, 56, 57, 15, 58, 4, 32, 59, 60, 61, 62, 2, 29, 5, 25, 26, 27, 28, 23, 30, 22, 24, 31, 33, 34, 35, 36, 37, 38, 39, 40, 41, 42, 43, 63, 64, 65, 66, 13, 14, 16, 67, 68, 69, 70, 71, 72, 73, 74, 75, 76, 77, 78, 79, 80, 81, 82, 83, 84, 215, 216, 217, 218, 219, 220, 221, 222, 223, 224, 225, 226, 227, 228, 229, 230, 231, 232, 233, 234, 235, 236, 237, 238, 239, 240, 241, 242, 243, 244, 245, 246, 247, 248, 249, 250, 251, 252, 253, 254, 255, 256, 257, 258, 259, 260, 261] (by decide +kernel) (by decide +kernel)
set_option maxRecDepth 20000 in
theorem gX12_roll_X12_rollLine : GoodIn wsX12_roll (wsV RX12 419 RX12 yX12_rollLine wsX12_rollLine) := goodIn_app (goodIn_of _ (by decide +kernel)) ggX12_roll_X12_rollLine
set_option maxRecDepth 20000 in
theorem ggX12_roll_X12_sign : GoodIn wsX12_roll wsX12_sign := goodIn_r _ [88, 89, 90, 91, 15, 92, 4, 31, 59, 60, 61, 62, 2, 29, 5, 25, 26, 27, 28, 23, 30, 22, 24, 32, 33, 34, 35, 36, 37, 38, 39, 40, 41, 42, 43, 215, 216, 217, 218, 219, 220, 221, 222, 223, 224, 225, 226, 227, 228, 229, 230, 231, 232, 233, 234, 235, 236, 237, 238, 239, 240, 241, 242, 243, 244, 245, 246, 247, 248, 249, 250, 251, 252, 253, 254, 255, 256, 257, 258, 259, 260, 261] (by decide +kernel) (by decide +kernel)
set_option maxRecDepth 20000 in
theorem gX12_roll_X12_sign : GoodIn wsX12_roll (wsV RX12 253 RX12 yX12_sign wsX12_sign) := goodIn_app (goodIn_of _ (by decide +kernel)) ggX12_roll_X12_sign
set_option maxRecDepth 20000 in
theorem ggX12_roll_X12_tries : GoodIn wsX12_roll wsX12_tries := goodIn_r _ [96, 12, 8, 215, 216, 217, 218, 219, 220, 221, 222, 223, 224, 225, 226, 227, 228, 229, 230, 231, 232, 233, 234, 235, 236, 237, 238, 239, 240, 241, 242, 243, 244, 245, 246, 247, 248, 249, 250, 251, 252, 253, 254, 255, 256, 257, 258, 259, 260, 261] (by decide +kernel) (by decide +kernel)
set_option maxRecDepth 20000 in
theorem gX12_roll_X12_tries : GoodIn wsX12_roll (wsV RX12 410 RX12 yX12_tries wsX12_tries) := goodIn_app (goodIn_of _ (by decide +kernel)) ggX12_roll_X12_tries
set_option maxRecDepth 20000 in
theorem ggX12_roll_X12_sum : GoodIn wsX12_roll wsX12_sum := goodIn_r _ [100, 8, 215, 216, 217, 218, 219, 220, 221, 222, 223, 224, 225, 226, 227, 228, 229, 230, 231, 232, 233, 234, 235, 236, 237, 238, 239, 240, 241, 242, 243, 244, 245, 246, 247, 248, 249, 250, 251, 252, 253, 254, 255, 256, 257, 258, 259, 260, 261] (by decide +kernel) (by decide +kernel)
set_option maxRecDepth 20000 in
theorem gX12_roll_X12_sum : GoodIn wsX12_roll (wsV RX12 330 RX12 yX12_sum wsX12_sum) := goodIn_app (goodIn_of _ (by decide +kernel)) ggX12_roll_X12_sum
set_option maxRecDepth 20000 in
theorem ggX12_roll_X12_whyLine : GoodIn wsX12_roll wsX12_whyLine := goodIn_r _ [104, 8, 105, 106, 107, 15, 108, 13, 14, 16, 109, 110, 111, 112, 113, 114, 115, 116, 117, 118, 119, 120, 121, 122, 123, 124, 125, 126, 127, 128, 129, 130, 131, 132, 133, 134, 135, 136, 137, 138, 139, 140, 141, 142, 143, 144, 145, 146, 147, 148, 149, 150, 215, 216, 217, 218, 219, 220, 221, 222, 223, 224, 225, 226, 227, 228, 229, 230, 231, 232, 233, 234, 235, 236, 237, 238, 239, 240, 241, 242, 243, 244, 245, 246, 247, 248, 249, 250, 251, 252, 253, 254, 255, 256, 257, 258, 259, 260, 261] (by decide +kernel) (by decide +kernel)
set_option maxRecDepth 20000 in
theorem gX12_roll_X12_whyLine : GoodIn wsX12_roll (wsV RX12 422 RX12 yX12_whyLine wsX12_whyLine) := goodIn_app (goodIn_of _ (by decide +kernel)) ggX12_roll_X12_whyLine
set_option maxRecDepth 20000 in
theorem ggX12_roll_X12_livesLine : GoodIn wsX12_roll wsX12_livesLine := goodIn_r _ [154, 8, 155, 156, 157, 15, 158, 159, 160, 161, 162, 163, 164, 165, 166, 129, 130, 131, 132, 133, 134, 135, 136, 137, 138, 139, 167, 168, 169, 170, 171, 172, 173, 174, 175, 176, 177, 178, 140, 141, 142, 143, 144, 145, 146, 179, 180, 181, 182, 183, 184, 185, 186, 187, 188, 189, 190, 191, 192, 193, 194, 195, 196, 197, 198, 199, 200, 201, 202, 203, 204, 205, 206, 215, 216, 217, 218, 219, 220, 221, 222, 223, 224, 225, 226, 227, 228, 229, 230, 231, 232, 233, 234, 235, 236, 237, 238, 239, 240, 241, 242, 243, 244, 245, 246, 247, 248, 249, 250, 251, 252, 253, 254, 255, 256, 257, 258, 259, 260, 261] (by decide +kernel) (by decide +kernel)
set_option maxRecDepth 20000 in
theorem gX12_roll_X12_livesLine : GoodIn wsX12_roll (wsV RX12 425 RX12 yX12_livesLine wsX12_livesLine) := goodIn_app (goodIn_of _ (by decide +kernel)) ggX12_roll_X12_livesLine
set_option maxRecDepth 20000 in
theorem ggX12_roll_X12_keep : GoodIn wsX12_roll wsX12_keep := goodIn_r _ [210, 11, 10, 8, 215, 216, 217, 218, 219, 220, 221, 222, 223, 224, 225, 226, 227, 228, 229, 230, 231, 232, 233, 234, 235, 236, 237, 238, 239, 240, 241, 242, 243, 244, 245, 246, 247, 248, 249, 250, 251, 252, 253, 254, 255, 256, 257, 258, 259, 260, 261] (by decide +kernel) (by decide +kernel)
set_option maxRecDepth 20000 in
theorem gX12_roll_X12_keep : GoodIn wsX12_roll (wsV RX12 336 RX12 yX12_keep wsX12_keep) := goodIn_app (goodIn_of _ (by decide +kernel)) ggX12_roll_X12_keep
set_option maxRecDepth 20000 in
theorem ggX12_roll_X12_back : GoodIn wsX12_roll wsX12_back := goodIn_r _ [214, 8, 12, 215, 216, 217, 218, 219, 220, 221, 222, 223, 224, 225, 226, 227, 228, 229, 230, 231, 232, 233, 234, 235, 236, 237, 238, 239, 240, 241, 242, 243, 244, 245, 246, 247, 248, 249, 250, 251, 252, 253, 254, 255, 256, 257, 258, 259, 260, 261] (by decide +kernel) (by decide +kernel)
set_option maxRecDepth 20000 in
theorem gX12_roll_X12_back : GoodIn wsX12_roll (wsV RX12 413 RX12 yX12_back wsX12_back) := goodIn_app (goodIn_of _ (by decide +kernel)) ggX12_roll_X12_back
theorem dX12_roll_0 : decode cX12_roll 0 = .ok (.aload_n 0, 1) := by decide +kernel
theorem dX12_roll_1 : decode cX12_roll 1 = .ok (.iconst 0, 1) := by decide +kernel
theorem dX12_roll_2 : decode cX12_roll 2 = .ok (.putfield 1, 3) := by decide +kernel
theorem dX12_roll_5 : decode cX12_roll 5 = .ok (.iload_n 1, 1) := by decide +kernel
theorem dX12_roll_6 : decode cX12_roll 6 = .ok (.iconst 0, 1) := by decide +kernel
theorem dX12_roll_7 : decode cX12_roll 7 = .ok (.iconst 1, 1) := by decide +kernel
theorem dX12_roll_8 : decode cX12_roll 8 = .ok (.invokestatic 191, 3) := by decide +kernel
theorem dX12_roll_11 : decode cX12_roll 11 = .ok (.ifCond .ne 7, 3) := by decide +kernel
theorem dX12_roll_14 : decode cX12_roll 14 = .ok (.sipush (-1000), 3) := by decide +kernel
theorem dX12_roll_17 : decode cX12_roll 17 = .ok (.ireturn, 1) := by decide +kernel
theorem dX12_roll_18 : decode cX12_roll 18 = .ok (.aload_n 0, 1) := by decide +kernel
theorem dX12_roll_19 : decode cX12_roll 19 = .ok (.sipush 400, 3) := by decide +kernel
theorem dX12_roll_22 : decode cX12_roll 22 = .ok (.invokevirtual 244, 3) := by decide +kernel
theorem dX12_roll_25 : decode cX12_roll 25 = .ok (.aload_n 0, 1) := by decide +kernel
theorem dX12_roll_26 : decode cX12_roll 26 = .ok (.iconst 0, 1) := by decide +kernel
theorem dX12_roll_27 : decode cX12_roll 27 = .ok (.putfield 176, 3) := by decide +kernel
theorem dX12_roll_30 : decode cX12_roll 30 = .ok (.aload_n 0, 1) := by decide +kernel
theorem dX12_roll_31 : decode cX12_roll 31 = .ok (.iconst 0, 1) := by decide +kernel
theorem dX12_roll_32 : decode cX12_roll 32 = .ok (.putfield 416, 3) := by decide +kernel
theorem dX12_roll_35 : decode cX12_roll 35 = .ok (.aload_n 0, 1) := by decide +kernel
theorem dX12_roll_36 : decode cX12_roll 36 = .ok (.invokevirtual 188, 3) := by decide +kernel
theorem dX12_roll_39 : decode cX12_roll 39 = .ok (.aload_n 0, 1) := by decide +kernel
theorem dX12_roll_40 : decode cX12_roll 40 = .ok (.getfield 159, 3) := by decide +kernel
theorem dX12_roll_43 : decode cX12_roll 43 = .ok (.ifCond .eq 40, 3) := by decide +kernel
theorem dX12_roll_46 : decode cX12_roll 46 = .ok (.aload_n 0, 1) := by decide +kernel
theorem dX12_roll_47 : decode cX12_roll 47 = .ok (.invokevirtual 419, 3) := by decide +kernel
theorem dX12_roll_50 : decode cX12_roll 50 = .ok (.ifCond .eq 12, 3) := by decide +kernel
theorem dX12_roll_53 : decode cX12_roll 53 = .ok (.aload_n 0, 1) := by decide +kernel
theorem dX12_roll_54 : decode cX12_roll 54 = .ok (.bipush 59, 2) := by decide +kernel
theorem dX12_roll_56 : decode cX12_roll 56 = .ok (.invokevirtual 253, 3) := by decide +kernel
theorem dX12_roll_59 : decode cX12_roll 59 = .ok (.ifCond .ne 11, 3) := by decide +kernel
theorem dX12_roll_62 : decode cX12_roll 62 = .ok (.bipush (-2), 2) := by decide +kernel
theorem dX12_roll_64 : decode cX12_roll 64 = .ok (.aload_n 0, 1) := by decide +kernel
theorem dX12_roll_65 : decode cX12_roll 65 = .ok (.getfield 179, 3) := by decide +kernel
theorem dX12_roll_68 : decode cX12_roll 68 = .ok (.isub, 1) := by decide +kernel
theorem dX12_roll_69 : decode cX12_roll 69 = .ok (.ireturn, 1) := by decide +kernel
theorem dX12_roll_70 : decode cX12_roll 70 = .ok (.aload_n 0, 1) := by decide +kernel
theorem dX12_roll_71 : decode cX12_roll 71 = .ok (.dup, 1) := by decide +kernel
theorem dX12_roll_72 : decode cX12_roll 72 = .ok (.getfield 416, 3) := by decide +kernel
theorem dX12_roll_75 : decode cX12_roll 75 = .ok (.iconst 1, 1) := by decide +kernel
theorem dX12_roll_76 : decode cX12_roll 76 = .ok (.iadd, 1) := by decide +kernel
theorem dX12_roll_77 : decode cX12_roll 77 = .ok (.putfield 416, 3) := by decide +kernel
theorem dX12_roll_80 : decode cX12_roll 80 = .ok (.goto (-41), 3) := by decide +kernel
theorem dX12_roll_83 : decode cX12_roll 83 = .ok (.aload_n 0, 1) := by decide +kernel
theorem dX12_roll_84 : decode cX12_roll 84 = .ok (.invokevirtual 410, 3) := by decide +kernel
theorem dX12_roll_87 : decode cX12_roll 87 = .ok (.iconst 0, 1) := by decide +kernel
theorem dX12_roll_88 : decode cX12_roll 88 = .ok (.istore_n 2, 1) := by decide +kernel
theorem dX12_roll_89 : decode cX12_roll 89 = .ok (.iload_n 2, 1) := by decide +kernel
theorem dX12_roll_90 : decode cX12_roll 90 = .ok (.iconst 4, 1) := by decide +kernel
theorem dX12_roll_91 : decode cX12_roll 91 = .ok (.if_icmp .ge 16, 3) := by decide +kernel
theorem dX12_roll_94 : decode cX12_roll 94 = .ok (.aload_n 0, 1) := by decide +kernel
theorem dX12_roll_95 : decode cX12_roll 95 = .ok (.getfield 68, 3) := by decide +kernel
theorem dX12_roll_98 : decode cX12_roll 98 = .ok (.iload_n 2, 1) := by decide +kernel
theorem dX12_roll_99 : decode cX12_roll 99 = .ok (.iconst 0, 1) := by decide +kernel
theorem dX12_roll_100 : decode cX12_roll 100 = .ok (.iastore, 1) := by decide +kernel
theorem dX12_roll_101 : decode cX12_roll 101 = .ok (.iinc 2 1, 3) := by decide +kernel
theorem dX12_roll_104 : decode cX12_roll 104 = .ok (.goto (-15), 3) := by decide +kernel
theorem dX12_roll_107 : decode cX12_roll 107 = .ok (.aload_n 0, 1) := by decide +kernel
theorem dX12_roll_108 : decode cX12_roll 108 = .ok (.sipush 238, 3) := by decide +kernel
theorem dX12_roll_111 : decode cX12_roll 111 = .ok (.invokevirtual 330, 3) := by decide +kernel
theorem dX12_roll_114 : decode cX12_roll 114 = .ok (.istore_n 2, 1) := by decide +kernel
theorem dX12_roll_115 : decode cX12_roll 115 = .ok (.iconst (-1), 1) := by decide +kernel
theorem dX12_roll_116 : decode cX12_roll 116 = .ok (.istore_n 3, 1) := by decide +kernel
theorem dX12_roll_117 : decode cX12_roll 117 = .ok (.iconst 0, 1) := by decide +kernel
theorem dX12_roll_118 : decode cX12_roll 118 = .ok (.istore 4, 2) := by decide +kernel
theorem dX12_roll_120 : decode cX12_roll 120 = .ok (.iload 4, 2) := by decide +kernel
theorem dX12_roll_122 : decode cX12_roll 122 = .ok (.aload_n 0, 1) := by decide +kernel
theorem dX12_roll_123 : decode cX12_roll 123 = .ok (.getfield 416, 3) := by decide +kernel
theorem dX12_roll_126 : decode cX12_roll 126 = .ok (.if_icmp .ge 119, 3) := by decide +kernel
theorem dX12_roll_129 : decode cX12_roll 129 = .ok (.iload_n 3, 1) := by decide +kernel
theorem dX12_roll_130 : decode cX12_roll 130 = .ok (.ifCond .ge 115, 3) := by decide +kernel
theorem dX12_roll_133 : decode cX12_roll 133 = .ok (.iconst 3, 1) := by decide +kernel
theorem dX12_roll_134 : decode cX12_roll 134 = .ok (.iload 4, 2) := by decide +kernel
theorem dX12_roll_136 : decode cX12_roll 136 = .ok (.imul, 1) := by decide +kernel
theorem dX12_roll_137 : decode cX12_roll 137 = .ok (.istore 5, 2) := by decide +kernel
theorem dX12_roll_139 : decode cX12_roll 139 = .ok (.aload_n 0, 1) := by decide +kernel
theorem dX12_roll_140 : decode cX12_roll 140 = .ok (.aload_n 0, 1) := by decide +kernel
theorem dX12_roll_141 : decode cX12_roll 141 = .ok (.getfield 40, 3) := by decide +kernel
theorem dX12_roll_144 : decode cX12_roll 144 = .ok (.iload 5, 2) := by decide +kernel
theorem dX12_roll_146 : decode cX12_roll 146 = .ok (.iaload, 1) := by decide +kernel
theorem dX12_roll_147 : decode cX12_roll 147 = .ok (.aload_n 0, 1) := by decide +kernel
theorem dX12_roll_148 : decode cX12_roll 148 = .ok (.getfield 40, 3) := by decide +kernel
theorem dX12_roll_151 : decode cX12_roll 151 = .ok (.iload 5, 2) := by decide +kernel
theorem dX12_roll_153 : decode cX12_roll 153 = .ok (.iconst 1, 1) := by decide +kernel
theorem dX12_roll_154 : decode cX12_roll 154 = .ok (.iadd, 1) := by decide +kernel
theorem dX12_roll_155 : decode cX12_roll 155 = .ok (.iaload, 1) := by decide +kernel
theorem dX12_roll_156 : decode cX12_roll 156 = .ok (.aload_n 0, 1) := by decide +kernel
theorem dX12_roll_157 : decode cX12_roll 157 = .ok (.getfield 40, 3) := by decide +kernel
theorem dX12_roll_160 : decode cX12_roll 160 = .ok (.iload 5, 2) := by decide +kernel
theorem dX12_roll_162 : decode cX12_roll 162 = .ok (.iconst 2, 1) := by decide +kernel
theorem dX12_roll_163 : decode cX12_roll 163 = .ok (.iadd, 1) := by decide +kernel
theorem dX12_roll_164 : decode cX12_roll 164 = .ok (.iaload, 1) := by decide +kernel
theorem dX12_roll_165 : decode cX12_roll 165 = .ok (.invokevirtual 422, 3) := by decide +kernel
theorem dX12_roll_168 : decode cX12_roll 168 = .ok (.istore 6, 2) := by decide +kernel
theorem dX12_roll_170 : decode cX12_roll 170 = .ok (.iload 6, 2) := by decide +kernel
theorem dX12_roll_172 : decode cX12_roll 172 = .ok (.ifCond .le 28, 3) := by decide +kernel
theorem dX12_roll_175 : decode cX12_roll 175 = .ok (.aload_n 0, 1) := by decide +kernel
theorem dX12_roll_176 : decode cX12_roll 176 = .ok (.getfield 68, 3) := by decide +kernel
theorem dX12_roll_179 : decode cX12_roll 179 = .ok (.iconst 0, 1) := by decide +kernel
theorem dX12_roll_180 : decode cX12_roll 180 = .ok (.bipush 10, 2) := by decide +kernel
theorem dX12_roll_182 : decode cX12_roll 182 = .ok (.aload_n 0, 1) := by decide +kernel
theorem dX12_roll_183 : decode cX12_roll 183 = .ok (.getfield 40, 3) := by decide +kernel
theorem dX12_roll_186 : decode cX12_roll 186 = .ok (.iload 5, 2) := by decide +kernel
theorem dX12_roll_188 : decode cX12_roll 188 = .ok (.iaload, 1) := by decide +kernel
theorem dX12_roll_189 : decode cX12_roll 189 = .ok (.imul, 1) := by decide +kernel
theorem dX12_roll_190 : decode cX12_roll 190 = .ok (.iload 6, 2) := by decide +kernel
theorem dX12_roll_192 : decode cX12_roll 192 = .ok (.iadd, 1) := by decide +kernel
theorem dX12_roll_193 : decode cX12_roll 193 = .ok (.iastore, 1) := by decide +kernel
theorem dX12_roll_194 : decode cX12_roll 194 = .ok (.iload 4, 2) := by decide +kernel
theorem dX12_roll_196 : decode cX12_roll 196 = .ok (.istore_n 3, 1) := by decide +kernel
theorem dX12_roll_197 : decode cX12_roll 197 = .ok (.goto 42, 3) := by decide +kernel
theorem dX12_roll_200 : decode cX12_roll 200 = .ok (.aload_n 0, 1) := by decide +kernel
theorem dX12_roll_201 : decode cX12_roll 201 = .ok (.aload_n 0, 1) := by decide +kernel
theorem dX12_roll_202 : decode cX12_roll 202 = .ok (.getfield 40, 3) := by decide +kernel
theorem dX12_roll_205 : decode cX12_roll 205 = .ok (.iload 5, 2) := by decide +kernel
theorem dX12_roll_207 : decode cX12_roll 207 = .ok (.iaload, 1) := by decide +kernel
theorem dX12_roll_208 : decode cX12_roll 208 = .ok (.aload_n 0, 1) := by decide +kernel
theorem dX12_roll_209 : decode cX12_roll 209 = .ok (.getfield 40, 3) := by decide +kernel
theorem dX12_roll_212 : decode cX12_roll 212 = .ok (.iload 5, 2) := by decide +kernel
theorem dX12_roll_214 : decode cX12_roll 214 = .ok (.iconst 1, 1) := by decide +kernel
theorem dX12_roll_215 : decode cX12_roll 215 = .ok (.iadd, 1) := by decide +kernel
theorem dX12_roll_216 : decode cX12_roll 216 = .ok (.iaload, 1) := by decide +kernel
theorem dX12_roll_217 : decode cX12_roll 217 = .ok (.aload_n 0, 1) := by decide +kernel
theorem dX12_roll_218 : decode cX12_roll 218 = .ok (.getfield 40, 3) := by decide +kernel
theorem dX12_roll_221 : decode cX12_roll 221 = .ok (.iload 5, 2) := by decide +kernel
theorem dX12_roll_223 : decode cX12_roll 223 = .ok (.iconst 2, 1) := by decide +kernel
theorem dX12_roll_224 : decode cX12_roll 224 = .ok (.iadd, 1) := by decide +kernel
theorem dX12_roll_225 : decode cX12_roll 225 = .ok (.iaload, 1) := by decide +kernel
theorem dX12_roll_226 : decode cX12_roll 226 = .ok (.invokevirtual 425, 3) := by decide +kernel
theorem dX12_roll_229 : decode cX12_roll 229 = .ok (.aload_n 0, 1) := by decide +kernel
theorem dX12_roll_230 : decode cX12_roll 230 = .ok (.getfield 68, 3) := by decide +kernel
theorem dX12_roll_233 : decode cX12_roll 233 = .ok (.iconst 1, 1) := by decide +kernel
theorem dX12_roll_234 : decode cX12_roll 234 = .ok (.dup2, 1) := by decide +kernel
theorem dX12_roll_235 : decode cX12_roll 235 = .ok (.iaload, 1) := by decide +kernel
theorem dX12_roll_236 : decode cX12_roll 236 = .ok (.iconst 1, 1) := by decide +kernel
theorem dX12_roll_237 : decode cX12_roll 237 = .ok (.iadd, 1) := by decide +kernel
theorem dX12_roll_238 : decode cX12_roll 238 = .ok (.iastore, 1) := by decide +kernel
theorem dX12_roll_239 : decode cX12_roll 239 = .ok (.iinc 4 1, 3) := by decide +kernel
theorem dX12_roll_242 : decode cX12_roll 242 = .ok (.goto (-122), 3) := by decide +kernel
theorem dX12_roll_245 : decode cX12_roll 245 = .ok (.aload_n 0, 1) := by decide +kernel
theorem dX12_roll_246 : decode cX12_roll 246 = .ok (.getfield 68, 3) := by decide +kernel
theorem dX12_roll_249 : decode cX12_roll 249 = .ok (.iconst 2, 1) := by decide +kernel
theorem dX12_roll_250 : decode cX12_roll 250 = .ok (.aload_n 0, 1) := by decide +kernel
theorem dX12_roll_251 : decode cX12_roll 251 = .ok (.getfield 33, 3) := by decide +kernel
theorem dX12_roll_254 : decode cX12_roll 254 = .ok (.sipush 211, 3) := by decide +kernel
theorem dX12_roll_257 : decode cX12_roll 257 = .ok (.iaload, 1) := by decide +kernel
theorem dX12_roll_258 : decode cX12_roll 258 = .ok (.iastore, 1) := by decide +kernel
theorem dX12_roll_259 : decode cX12_roll 259 = .ok (.aload_n 0, 1) := by decide +kernel
theorem dX12_roll_260 : decode cX12_roll 260 = .ok (.getfield 68, 3) := by decide +kernel
theorem dX12_roll_263 : decode cX12_roll 263 = .ok (.iconst 3, 1) := by decide +kernel
theorem dX12_roll_264 : decode cX12_roll 264 = .ok (.aload_n 0, 1) := by decide +kernel
theorem dX12_roll_265 : decode cX12_roll 265 = .ok (.sipush 238, 3) := by decide +kernel
theorem dX12_roll_268 : decode cX12_roll 268 = .ok (.invokevirtual 330, 3) := by decide +kernel
theorem dX12_roll_271 : decode cX12_roll 271 = .ok (.iload_n 2, 1) := by decide +kernel
theorem dX12_roll_272 : decode cX12_roll 272 = .ok (.isub, 1) := by decide +kernel
theorem dX12_roll_273 : decode cX12_roll 273 = .ok (.iastore, 1) := by decide +kernel
theorem dX12_roll_274 : decode cX12_roll 274 = .ok (.aload_n 0, 1) := by decide +kernel
theorem dX12_roll_275 : decode cX12_roll 275 = .ok (.iconst 1, 1) := by decide +kernel
theorem dX12_roll_276 : decode cX12_roll 276 = .ok (.putfield 428, 3) := by decide +kernel
theorem dX12_roll_279 : decode cX12_roll 279 = .ok (.iload_n 1, 1) := by decide +kernel
theorem dX12_roll_280 : decode cX12_roll 280 = .ok (.iconst 1, 1) := by decide +kernel
theorem dX12_roll_281 : decode cX12_roll 281 = .ok (.if_icmp .ne 56, 3) := by decide +kernel
theorem dX12_roll_284 : decode cX12_roll 284 = .ok (.aload_n 0, 1) := by decide +kernel
theorem dX12_roll_285 : decode cX12_roll 285 = .ok (.getfield 68, 3) := by decide +kernel
theorem dX12_roll_288 : decode cX12_roll 288 = .ok (.iconst 1, 1) := by decide +kernel
theorem dX12_roll_289 : decode cX12_roll 289 = .ok (.iaload, 1) := by decide +kernel
theorem dX12_roll_290 : decode cX12_roll 290 = .ok (.ifCond .le 47, 3) := by decide +kernel
theorem dX12_roll_293 : decode cX12_roll 293 = .ok (.aload_n 0, 1) := by decide +kernel
theorem dX12_roll_294 : decode cX12_roll 294 = .ok (.invokevirtual 336, 3) := by decide +kernel
theorem dX12_roll_297 : decode cX12_roll 297 = .ok (.iconst 0, 1) := by decide +kernel
theorem dX12_roll_298 : decode cX12_roll 298 = .ok (.istore 4, 2) := by decide +kernel
theorem dX12_roll_300 : decode cX12_roll 300 = .ok (.iload 4, 2) := by decide +kernel
theorem dX12_roll_302 : decode cX12_roll 302 = .ok (.bipush 35, 2) := by decide +kernel
theorem dX12_roll_304 : decode cX12_roll 304 = .ok (.if_icmp .ge 33, 3) := by decide +kernel
theorem dX12_roll_307 : decode cX12_roll 307 = .ok (.aload_n 0, 1) := by decide +kernel
theorem dX12_roll_308 : decode cX12_roll 308 = .ok (.getfield 62, 3) := by decide +kernel
theorem dX12_roll_311 : decode cX12_roll 311 = .ok (.bipush 35, 2) := by decide +kernel
theorem dX12_roll_313 : decode cX12_roll 313 = .ok (.aload_n 0, 1) := by decide +kernel
theorem dX12_roll_314 : decode cX12_roll 314 = .ok (.getfield 256, 3) := by decide +kernel
theorem dX12_roll_317 : decode cX12_roll 317 = .ok (.iconst 1, 1) := by decide +kernel
theorem dX12_roll_318 : decode cX12_roll 318 = .ok (.isub, 1) := by decide +kernel
theorem dX12_roll_319 : decode cX12_roll 319 = .ok (.imul, 1) := by decide +kernel
theorem dX12_roll_320 : decode cX12_roll 320 = .ok (.iload 4, 2) := by decide +kernel
theorem dX12_roll_322 : decode cX12_roll 322 = .ok (.iadd, 1) := by decide +kernel
theorem dX12_roll_323 : decode cX12_roll 323 = .ok (.aload_n 0, 1) := by decide +kernel
theorem dX12_roll_324 : decode cX12_roll 324 = .ok (.getfield 65, 3) := by decide +kernel
theorem dX12_roll_327 : decode cX12_roll 327 = .ok (.iload 4, 2) := by decide +kernel
theorem dX12_roll_329 : decode cX12_roll 329 = .ok (.iaload, 1) := by decide +kernel
theorem dX12_roll_330 : decode cX12_roll 330 = .ok (.iastore, 1) := by decide +kernel
theorem dX12_roll_331 : decode cX12_roll 331 = .ok (.iinc 4 1, 3) := by decide +kernel
theorem dX12_roll_334 : decode cX12_roll 334 = .ok (.goto (-34), 3) := by decide +kernel
theorem dX12_roll_337 : decode cX12_roll 337 = .ok (.iload_n 1, 1) := by decide +kernel
theorem dX12_roll_338 : decode cX12_roll 338 = .ok (.ifCond .ne 7, 3) := by decide +kernel
theorem dX12_roll_341 : decode cX12_roll 341 = .ok (.aload_n 0, 1) := by decide +kernel
theorem dX12_roll_342 : decode cX12_roll 342 = .ok (.invokevirtual 413, 3) := by decide +kernel
theorem dX12_roll_345 : decode cX12_roll 345 = .ok (.iload_n 3, 1) := by decide +kernel
theorem dX12_roll_346 : decode cX12_roll 346 = .ok (.ireturn, 1) := by decide +kernel
set_option maxRecDepth 20000 in
theorem ggX12_rolled_X12_isIn : GoodIn wsX12_rolled wsX12_isIn := goodIn_r _ [7] (by decide +kernel) (by decide +kernel)
set_option maxRecDepth 20000 in
theorem gX12_rolled_X12_isIn : GoodIn wsX12_rolled (va_wsS RX12 191 yX12_isIn wsX12_isIn) := goodIn_app (goodIn_of _ (by decide +kernel)) ggX12_rolled_X12_isIn
theorem dX12_rolled_0 : decode cX12_rolled 0 = .ok (.aload_n 0, 1) := by decide +kernel
theorem dX12_rolled_1 : decode cX12_rolled 1 = .ok (.iconst 0, 1) := by decide +kernel
theorem dX12_rolled_2 : decode cX12_rolled 2 = .ok (.putfield 1, 3) := by decide +kernel
theorem dX12_rolled_5 : decode cX12_rolled 5 = .ok (.aload_n 0, 1) := by decide +kernel
theorem dX12_rolled_6 : decode cX12_rolled 6 = .ok (.getfield 428, 3) := by decide +kernel
theorem dX12_rolled_9 : decode cX12_rolled 9 = .ok (.ifCond .eq 21, 3) := by decide +kernel
theorem dX12_rolled_12 : decode cX12_rolled 12 = .ok (.iload_n 1, 1) := by decide +kernel
theorem dX12_rolled_13 : decode cX12_rolled 13 = .ok (.iconst 0, 1) := by decide +kernel
theorem dX12_rolled_14 : decode cX12_rolled 14 = .ok (.iconst 3, 1) := by decide +kernel
theorem dX12_rolled_15 : decode cX12_rolled 15 = .ok (.invokestatic 191, 3) := by decide +kernel
theorem dX12_rolled_18 : decode cX12_rolled 18 = .ok (.ifCond .eq 12, 3) := by decide +kernel
theorem dX12_rolled_21 : decode cX12_rolled 21 = .ok (.aload_n 0, 1) := by decide +kernel
theorem dX12_rolled_22 : decode cX12_rolled 22 = .ok (.getfield 68, 3) := by decide +kernel
theorem dX12_rolled_25 : decode cX12_rolled 25 = .ok (.iload_n 1, 1) := by decide +kernel
theorem dX12_rolled_26 : decode cX12_rolled 26 = .ok (.iaload, 1) := by decide +kernel
theorem dX12_rolled_27 : decode cX12_rolled 27 = .ok (.goto 4, 3) := by decide +kernel
theorem dX12_rolled_30 : decode cX12_rolled 30 = .ok (.iconst (-1), 1) := by decide +kernel
theorem dX12_rolled_31 : decode cX12_rolled 31 = .ok (.ireturn, 1) := by decide +kernel
theorem dX12_code_0 : decode cX12_code 0 = .ok (.aload_n 0, 1) := by decide +kernel
theorem dX12_code_1 : decode cX12_code 1 = .ok (.getfield 40, 3) := by decide +kernel
theorem dX12_code_4 : decode cX12_code 4 = .ok (.iconst 3, 1) := by decide +kernel
theorem dX12_code_5 : decode cX12_code 5 = .ok (.aload_n 0, 1) := by decide +kernel
theorem dX12_code_6 : decode cX12_code 6 = .ok (.getfield 431, 3) := by decide +kernel
theorem dX12_code_9 : decode cX12_code 9 = .ok (.imul, 1) := by decide +kernel
theorem dX12_code_10 : decode cX12_code 10 = .ok (.iload_n 1, 1) := by decide +kernel
theorem dX12_code_11 : decode cX12_code 11 = .ok (.iastore, 1) := by decide +kernel
theorem dX12_code_12 : decode cX12_code 12 = .ok (.aload_n 0, 1) := by decide +kernel
theorem dX12_code_13 : decode cX12_code 13 = .ok (.getfield 40, 3) := by decide +kernel
theorem dX12_code_16 : decode cX12_code 16 = .ok (.iconst 3, 1) := by decide +kernel
theorem dX12_code_17 : decode cX12_code 17 = .ok (.aload_n 0, 1) := by decide +kernel
theorem dX12_code_18 : decode cX12_code 18 = .ok (.getfield 431, 3) := by decide +kernel
theorem dX12_code_21 : decode cX12_code 21 = .ok (.imul, 1) := by decide +kernel
theorem dX12_code_22 : decode cX12_code 22 = .ok (.iconst 1, 1) := by decide +kernel
theorem dX12_code_23 : decode cX12_code 23 = .ok (.iadd, 1) := by decide +kernel
theorem dX12_code_24 : decode cX12_code 24 = .ok (.iload_n 2, 1) := by decide +kernel
theorem dX12_code_25 : decode cX12_code 25 = .ok (.iastore, 1) := by decide +kernel
theorem dX12_code_26 : decode cX12_code 26 = .ok (.aload_n 0, 1) := by decide +kernel
theorem dX12_code_27 : decode cX12_code 27 = .ok (.getfield 40, 3) := by decide +kernel
theorem dX12_code_30 : decode cX12_code 30 = .ok (.iconst 3, 1) := by decide +kernel
theorem dX12_code_31 : decode cX12_code 31 = .ok (.aload_n 0, 1) := by decide +kernel
theorem dX12_code_32 : decode cX12_code 32 = .ok (.getfield 431, 3) := by decide +kernel
theorem dX12_code_35 : decode cX12_code 35 = .ok (.imul, 1) := by decide +kernel
theorem dX12_code_36 : decode cX12_code 36 = .ok (.iconst 2, 1) := by decide +kernel
theorem dX12_code_37 : decode cX12_code 37 = .ok (.iadd, 1) := by decide +kernel
theorem dX12_code_38 : decode cX12_code 38 = .ok (.iload_n 3, 1) := by decide +kernel
theorem dX12_code_39 : decode cX12_code 39 = .ok (.iastore, 1) := by decide +kernel
theorem dX12_code_40 : decode cX12_code 40 = .ok (.aload_n 0, 1) := by decide +kernel
theorem dX12_code_41 : decode cX12_code 41 = .ok (.dup, 1) := by decide +kernel
theorem dX12_code_42 : decode cX12_code 42 = .ok (.getfield 431, 3) := by decide +kernel
theorem dX12_code_45 : decode cX12_code 45 = .ok (.iconst 1, 1) := by decide +kernel
theorem dX12_code_46 : decode cX12_code 46 = .ok (.iadd, 1) := by decide +kernel
theorem dX12_code_47 : decode cX12_code 47 = .ok (.putfield 431, 3) := by decide +kernel
theorem dX12_code_50 : decode cX12_code 50 = .ok (.return_, 1) := by decide +kernel
set_option maxRecDepth 20000 in
theorem ggX12_joins_X12_code : GoodIn wsX12_joins wsX12_code := goodIn_r _ [7, 8, 9, 10, 11, 12, 13, 14, 15, 16, 17, 18, 19, 20, 21, 22, 23, 24, 25, 26, 27, 28, 29, 30, 31, 32, 33, 34, 35, 36, 37, 38, 39, 40, 41, 42, 43, 44, 45, 46, 47, 48, 49, 50, 51, 52, 53, 54, 55, 56] (by decide +kernel) (by decide +kernel)
set_option maxRecDepth 20000 in
theorem gX12_joins_X12_code : GoodIn wsX12_joins (wsV RX12 437 RX12 yX12_code wsX12_code) := goodIn_app (goodIn_of _ (by decide +kernel)) ggX12_joins_X12_code
theorem dX12_joins_0 : decode cX12_joins 0 = .ok (.aload_n 0, 1) := by decide +kernel
theorem dX12_joins_1 : decode cX12_joins 1 = .ok (.getfield 434, 3) := by decide +kernel
theorem dX12_joins_4 : decode cX12_joins 4 = .ok (.ifCond .le 69, 3) := by decide +kernel
theorem dX12_joins_7 : decode cX12_joins 7 = .ok (.aload_n 0, 1) := by decide +kernel
theorem dX12_joins_8 : decode cX12_joins 8 = .ok (.getfield 71, 3) := by decide +kernel
theorem dX12_joins_11 : decode cX12_joins 11 = .ok (.aload_n 0, 1) := by decide +kernel
theorem dX12_joins_12 : decode cX12_joins 12 = .ok (.getfield 434, 3) := by decide +kernel
theorem dX12_joins_15 : decode cX12_joins 15 = .ok (.iconst 1, 1) := by decide +kernel
theorem dX12_joins_16 : decode cX12_joins 16 = .ok (.isub, 1) := by decide +kernel
theorem dX12_joins_17 : decode cX12_joins 17 = .ok (.iaload, 1) := by decide +kernel
theorem dX12_joins_18 : decode cX12_joins 18 = .ok (.bipush 21, 2) := by decide +kernel
theorem dX12_joins_20 : decode cX12_joins 20 = .ok (.if_icmp .eq 25, 3) := by decide +kernel
theorem dX12_joins_23 : decode cX12_joins 23 = .ok (.aload_n 0, 1) := by decide +kernel
theorem dX12_joins_24 : decode cX12_joins 24 = .ok (.getfield 71, 3) := by decide +kernel
theorem dX12_joins_27 : decode cX12_joins 27 = .ok (.aload_n 0, 1) := by decide +kernel
theorem dX12_joins_28 : decode cX12_joins 28 = .ok (.getfield 434, 3) := by decide +kernel
theorem dX12_joins_31 : decode cX12_joins 31 = .ok (.iconst 1, 1) := by decide +kernel
theorem dX12_joins_32 : decode cX12_joins 32 = .ok (.isub, 1) := by decide +kernel
theorem dX12_joins_33 : decode cX12_joins 33 = .ok (.iaload, 1) := by decide +kernel
theorem dX12_joins_34 : decode cX12_joins 34 = .ok (.bipush 22, 2) := by decide +kernel
theorem dX12_joins_36 : decode cX12_joins 36 = .ok (.if_icmp .ne 37, 3) := by decide +kernel
theorem dX12_joins_39 : decode cX12_joins 39 = .ok (.iload_n 1, 1) := by decide +kernel
theorem dX12_joins_40 : decode cX12_joins 40 = .ok (.bipush 22, 2) := by decide +kernel
theorem dX12_joins_42 : decode cX12_joins 42 = .ok (.if_icmp .ne 31, 3) := by decide +kernel
theorem dX12_joins_45 : decode cX12_joins 45 = .ok (.aload_n 0, 1) := by decide +kernel
theorem dX12_joins_46 : decode cX12_joins 46 = .ok (.dup, 1) := by decide +kernel
theorem dX12_joins_47 : decode cX12_joins 47 = .ok (.getfield 434, 3) := by decide +kernel
theorem dX12_joins_50 : decode cX12_joins 50 = .ok (.iconst 1, 1) := by decide +kernel
theorem dX12_joins_51 : decode cX12_joins 51 = .ok (.isub, 1) := by decide +kernel
theorem dX12_joins_52 : decode cX12_joins 52 = .ok (.putfield 434, 3) := by decide +kernel
theorem dX12_joins_55 : decode cX12_joins 55 = .ok (.aload_n 0, 1) := by decide +kernel
theorem dX12_joins_56 : decode cX12_joins 56 = .ok (.aload_n 0, 1) := by decide +kernel
theorem dX12_joins_57 : decode cX12_joins 57 = .ok (.getfield 71, 3) := by decide +kernel
theorem dX12_joins_60 : decode cX12_joins 60 = .ok (.aload_n 0, 1) := by decide +kernel
theorem dX12_joins_61 : decode cX12_joins 61 = .ok (.getfield 434, 3) := by decide +kernel
theorem dX12_joins_64 : decode cX12_joins 64 = .ok (.iaload, 1) := by decide +kernel
theorem dX12_joins_65 : decode cX12_joins 65 = .ok (.iconst 0, 1) := by decide +kernel
theorem dX12_joins_66 : decode cX12_joins 66 = .ok (.iconst 0, 1) := by decide +kernel
theorem dX12_joins_67 : decode cX12_joins 67 = .ok (.invokevirtual 437, 3) := by decide +kernel
theorem dX12_joins_70 : decode cX12_joins 70 = .ok (.goto (-70), 3) := by decide +kernel
theorem dX12_joins_73 : decode cX12_joins 73 = .ok (.return_, 1) := by decide +kernel
set_option maxRecDepth 20000 in
theorem ggX12_nots_X12_code : GoodIn wsX12_nots wsX12_code := goodIn_r _ [8, 9, 10, 11, 12, 13, 14, 15, 16, 17, 18, 19, 20, 21, 22, 23, 24, 25, 26, 27, 28, 29, 30, 31, 32, 33, 34, 35, 36, 37, 38, 39, 40, 41, 42, 43, 44, 45, 46, 47, 48, 49, 50, 51, 52, 53, 54, 55, 56, 57] (by decide +kernel) (by decide +kernel)
set_option maxRecDepth 20000 in
theorem gX12_nots_X12_code : GoodIn wsX12_nots (wsV RX12 437 RX12 yX12_code wsX12_code) := goodIn_app (goodIn_of _ (by decide +kernel)) ggX12_nots_X12_code
theorem dX12_nots_0 : decode cX12_nots 0 = .ok (.aload_n 0, 1) := by decide +kernel
theorem dX12_nots_1 : decode cX12_nots 1 = .ok (.getfield 434, 3) := by decide +kernel
theorem dX12_nots_4 : decode cX12_nots 4 = .ok (.ifCond .le 50, 3) := by decide +kernel
theorem dX12_nots_7 : decode cX12_nots 7 = .ok (.aload_n 0, 1) := by decide +kernel
theorem dX12_nots_8 : decode cX12_nots 8 = .ok (.getfield 71, 3) := by decide +kernel
theorem dX12_nots_11 : decode cX12_nots 11 = .ok (.aload_n 0, 1) := by decide +kernel
theorem dX12_nots_12 : decode cX12_nots 12 = .ok (.getfield 434, 3) := by decide +kernel
theorem dX12_nots_15 : decode cX12_nots 15 = .ok (.iconst 1, 1) := by decide +kernel
theorem dX12_nots_16 : decode cX12_nots 16 = .ok (.isub, 1) := by decide +kernel
theorem dX12_nots_17 : decode cX12_nots 17 = .ok (.iaload, 1) := by decide +kernel
theorem dX12_nots_18 : decode cX12_nots 18 = .ok (.bipush 20, 2) := by decide +kernel
theorem dX12_nots_20 : decode cX12_nots 20 = .ok (.if_icmp .ne 34, 3) := by decide +kernel
theorem dX12_nots_23 : decode cX12_nots 23 = .ok (.aload_n 0, 1) := by decide +kernel
theorem dX12_nots_24 : decode cX12_nots 24 = .ok (.dup, 1) := by decide +kernel
theorem dX12_nots_25 : decode cX12_nots 25 = .ok (.getfield 434, 3) := by decide +kernel
theorem dX12_nots_28 : decode cX12_nots 28 = .ok (.iconst 1, 1) := by decide +kernel
theorem dX12_nots_29 : decode cX12_nots 29 = .ok (.isub, 1) := by decide +kernel
theorem dX12_nots_30 : decode cX12_nots 30 = .ok (.putfield 434, 3) := by decide +kernel
theorem dX12_nots_33 : decode cX12_nots 33 = .ok (.aload_n 0, 1) := by decide +kernel
theorem dX12_nots_34 : decode cX12_nots 34 = .ok (.dup, 1) := by decide +kernel
theorem dX12_nots_35 : decode cX12_nots 35 = .ok (.getfield 440, 3) := by decide +kernel
theorem dX12_nots_38 : decode cX12_nots 38 = .ok (.iconst 1, 1) := by decide +kernel
theorem dX12_nots_39 : decode cX12_nots 39 = .ok (.isub, 1) := by decide +kernel
theorem dX12_nots_40 : decode cX12_nots 40 = .ok (.putfield 440, 3) := by decide +kernel
theorem dX12_nots_43 : decode cX12_nots 43 = .ok (.aload_n 0, 1) := by decide +kernel
theorem dX12_nots_44 : decode cX12_nots 44 = .ok (.bipush 20, 2) := by decide +kernel
theorem dX12_nots_46 : decode cX12_nots 46 = .ok (.iconst 0, 1) := by decide +kernel
theorem dX12_nots_47 : decode cX12_nots 47 = .ok (.iconst 0, 1) := by decide +kernel
theorem dX12_nots_48 : decode cX12_nots 48 = .ok (.invokevirtual 437, 3) := by decide +kernel
theorem dX12_nots_51 : decode cX12_nots 51 = .ok (.goto (-51), 3) := by decide +kernel
theorem dX12_nots_54 : decode cX12_nots 54 = .ok (.return_, 1) := by decide +kernel
set_option maxRecDepth 20000 in
theorem ggX12_leafOf_X12_isWord : GoodIn wsX12_leafOf wsX12_isWord := goodIn_r _ [15, 16, 17, 18, 19, 20, 21, 22, 23, 24, 25, 26, 27, 28, 29, 30, 31, 32, 33, 34, 35, 36, 37, 38, 39, 40, 41, 42, 43, 44, 45, 46, 47, 48, 49, 50, 51, 52, 53, 54, 55, 56, 57, 58, 59, 60, 61, 62, 63, 64] (by decide +kernel) (by decide +kernel)
set_option maxRecDepth 20000 in
theorem gX12_leafOf_X12_isWord : GoodIn wsX12_leafOf (wsV RX12 219 RX12 yX12_isWord wsX12_isWord) := goodIn_app (goodIn_of _ (by decide +kernel)) ggX12_leafOf_X12_isWord
theorem dX12_leafOf_0 : decode cX12_leafOf 0 = .ok (.aload_n 0, 1) := by decide +kernel
theorem dX12_leafOf_1 : decode cX12_leafOf 1 = .ok (.ldc2_w 107, 3) := by decide +kernel
theorem dX12_leafOf_4 : decode cX12_leafOf 4 = .ok (.invokevirtual 219, 3) := by decide +kernel
theorem dX12_leafOf_7 : decode cX12_leafOf 7 = .ok (.ifCond .eq 7, 3) := by decide +kernel
theorem dX12_leafOf_10 : decode cX12_leafOf 10 = .ok (.iconst 0, 1) := by decide +kernel
theorem dX12_leafOf_11 : decode cX12_leafOf 11 = .ok (.goto 134, 3) := by decide +kernel
theorem dX12_leafOf_14 : decode cX12_leafOf 14 = .ok (.aload_n 0, 1) := by decide +kernel
theorem dX12_leafOf_15 : decode cX12_leafOf 15 = .ok (.ldc2_w 109, 3) := by decide +kernel
theorem dX12_leafOf_18 : decode cX12_leafOf 18 = .ok (.invokevirtual 219, 3) := by decide +kernel
theorem dX12_leafOf_21 : decode cX12_leafOf 21 = .ok (.ifCond .eq 7, 3) := by decide +kernel
theorem dX12_leafOf_24 : decode cX12_leafOf 24 = .ok (.iconst 1, 1) := by decide +kernel
theorem dX12_leafOf_25 : decode cX12_leafOf 25 = .ok (.goto 120, 3) := by decide +kernel
theorem dX12_leafOf_28 : decode cX12_leafOf 28 = .ok (.aload_n 0, 1) := by decide +kernel
theorem dX12_leafOf_29 : decode cX12_leafOf 29 = .ok (.ldc2_w 133, 3) := by decide +kernel
theorem dX12_leafOf_32 : decode cX12_leafOf 32 = .ok (.invokevirtual 219, 3) := by decide +kernel
theorem dX12_leafOf_35 : decode cX12_leafOf 35 = .ok (.ifCond .eq 7, 3) := by decide +kernel
theorem dX12_leafOf_38 : decode cX12_leafOf 38 = .ok (.iconst 2, 1) := by decide +kernel
theorem dX12_leafOf_39 : decode cX12_leafOf 39 = .ok (.goto 106, 3) := by decide +kernel
theorem dX12_leafOf_42 : decode cX12_leafOf 42 = .ok (.aload_n 0, 1) := by decide +kernel
theorem dX12_leafOf_43 : decode cX12_leafOf 43 = .ok (.ldc2_w 135, 3) := by decide +kernel
theorem dX12_leafOf_46 : decode cX12_leafOf 46 = .ok (.invokevirtual 219, 3) := by decide +kernel
theorem dX12_leafOf_49 : decode cX12_leafOf 49 = .ok (.ifCond .eq 7, 3) := by decide +kernel
theorem dX12_leafOf_52 : decode cX12_leafOf 52 = .ok (.iconst 3, 1) := by decide +kernel
theorem dX12_leafOf_53 : decode cX12_leafOf 53 = .ok (.goto 92, 3) := by decide +kernel
theorem dX12_leafOf_56 : decode cX12_leafOf 56 = .ok (.aload_n 0, 1) := by decide +kernel
theorem dX12_leafOf_57 : decode cX12_leafOf 57 = .ok (.ldc2_w 139, 3) := by decide +kernel
theorem dX12_leafOf_60 : decode cX12_leafOf 60 = .ok (.invokevirtual 219, 3) := by decide +kernel
theorem dX12_leafOf_63 : decode cX12_leafOf 63 = .ok (.ifCond .eq 7, 3) := by decide +kernel
theorem dX12_leafOf_66 : decode cX12_leafOf 66 = .ok (.iconst 4, 1) := by decide +kernel
theorem dX12_leafOf_67 : decode cX12_leafOf 67 = .ok (.goto 78, 3) := by decide +kernel
theorem dX12_leafOf_70 : decode cX12_leafOf 70 = .ok (.aload_n 0, 1) := by decide +kernel
theorem dX12_leafOf_71 : decode cX12_leafOf 71 = .ok (.ldc2_w 137, 3) := by decide +kernel
theorem dX12_leafOf_74 : decode cX12_leafOf 74 = .ok (.invokevirtual 219, 3) := by decide +kernel
theorem dX12_leafOf_77 : decode cX12_leafOf 77 = .ok (.ifCond .eq 7, 3) := by decide +kernel
theorem dX12_leafOf_80 : decode cX12_leafOf 80 = .ok (.iconst 5, 1) := by decide +kernel
theorem dX12_leafOf_81 : decode cX12_leafOf 81 = .ok (.goto 64, 3) := by decide +kernel
theorem dX12_leafOf_84 : decode cX12_leafOf 84 = .ok (.aload_n 0, 1) := by decide +kernel
theorem dX12_leafOf_85 : decode cX12_leafOf 85 = .ok (.ldc2_w 141, 3) := by decide +kernel
theorem dX12_leafOf_88 : decode cX12_leafOf 88 = .ok (.invokevirtual 219, 3) := by decide +kernel
theorem dX12_leafOf_91 : decode cX12_leafOf 91 = .ok (.ifCond .eq 8, 3) := by decide +kernel
theorem dX12_leafOf_94 : decode cX12_leafOf 94 = .ok (.bipush 6, 2) := by decide +kernel
theorem dX12_leafOf_96 : decode cX12_leafOf 96 = .ok (.goto 49, 3) := by decide +kernel
theorem dX12_leafOf_99 : decode cX12_leafOf 99 = .ok (.aload_n 0, 1) := by decide +kernel
theorem dX12_leafOf_100 : decode cX12_leafOf 100 = .ok (.ldc2_w 143, 3) := by decide +kernel
theorem dX12_leafOf_103 : decode cX12_leafOf 103 = .ok (.invokevirtual 219, 3) := by decide +kernel
theorem dX12_leafOf_106 : decode cX12_leafOf 106 = .ok (.ifCond .eq 8, 3) := by decide +kernel
theorem dX12_leafOf_109 : decode cX12_leafOf 109 = .ok (.bipush 7, 2) := by decide +kernel
theorem dX12_leafOf_111 : decode cX12_leafOf 111 = .ok (.goto 34, 3) := by decide +kernel
theorem dX12_leafOf_114 : decode cX12_leafOf 114 = .ok (.aload_n 0, 1) := by decide +kernel
theorem dX12_leafOf_115 : decode cX12_leafOf 115 = .ok (.ldc2_w 145, 3) := by decide +kernel
theorem dX12_leafOf_118 : decode cX12_leafOf 118 = .ok (.invokevirtual 219, 3) := by decide +kernel
theorem dX12_leafOf_121 : decode cX12_leafOf 121 = .ok (.ifCond .eq 8, 3) := by decide +kernel
theorem dX12_leafOf_124 : decode cX12_leafOf 124 = .ok (.bipush 8, 2) := by decide +kernel
theorem dX12_leafOf_126 : decode cX12_leafOf 126 = .ok (.goto 19, 3) := by decide +kernel
theorem dX12_leafOf_129 : decode cX12_leafOf 129 = .ok (.aload_n 0, 1) := by decide +kernel
theorem dX12_leafOf_130 : decode cX12_leafOf 130 = .ok (.ldc2_w 147, 3) := by decide +kernel
theorem dX12_leafOf_133 : decode cX12_leafOf 133 = .ok (.invokevirtual 219, 3) := by decide +kernel
theorem dX12_leafOf_136 : decode cX12_leafOf 136 = .ok (.ifCond .eq 8, 3) := by decide +kernel
theorem dX12_leafOf_139 : decode cX12_leafOf 139 = .ok (.bipush 9, 2) := by decide +kernel
theorem dX12_leafOf_141 : decode cX12_leafOf 141 = .ok (.goto 4, 3) := by decide +kernel
theorem dX12_leafOf_144 : decode cX12_leafOf 144 = .ok (.iconst (-1), 1) := by decide +kernel
theorem dX12_leafOf_145 : decode cX12_leafOf 145 = .ok (.ireturn, 1) := by decide +kernel
set_option maxRecDepth 20000 in
theorem ggX12_operand_X12_isWord : GoodIn wsX12_operand wsX12_isWord := goodIn_r _ [15, 9, 16, 81, 82, 83, 84, 85, 86, 87, 88, 89, 90, 91, 92, 93, 94, 95, 96, 97, 98, 99, 100, 101, 102, 103, 104, 105, 106, 107, 108, 109, 110, 111, 112, 113, 114, 115, 116, 117, 118, 119, 120, 121, 122, 123, 124, 125, 126, 127] (by decide +kernel) (by decide +kernel)
set_option maxRecDepth 20000 in
theorem gX12_operand_X12_isWord : GoodIn wsX12_operand (wsV RX12 219 RX12 yX12_isWord wsX12_isWord) := goodIn_app (goodIn_of _ (by decide +kernel)) ggX12_operand_X12_isWord
set_option maxRecDepth 20000 in
theorem ggX12_operand_X12_isSign : GoodIn wsX12_operand wsX12_isSign := goodIn_r _ [20, 9, 10, 81, 82, 83, 84, 85, 86, 87, 88, 89, 90, 91, 92, 93, 94, 95, 96, 97, 98, 99, 100, 101, 102, 103, 104, 105, 106, 107, 108, 109, 110, 111, 112, 113, 114, 115, 116, 117, 118, 119, 120, 121, 122, 123, 124, 125, 126, 127] (by decide +kernel) (by decide +kernel)
set_option maxRecDepth 20000 in
theorem gX12_operand_X12_isSign : GoodIn wsX12_operand (wsV RX12 182 RX12 yX12_isSign wsX12_isSign) := goodIn_app (goodIn_of _ (by decide +kernel)) ggX12_operand_X12_isSign
set_option maxRecDepth 20000 in
theorem ggX12_operand_X12_leafOf : GoodIn wsX12_operand wsX12_leafOf := goodIn_r _ [24, 25, 26, 27, 28, 29, 30, 31, 32, 33, 34, 11, 12, 13, 14, 15, 9, 16, 81, 82, 83, 84, 85, 86, 87, 88, 89, 90, 91, 92, 93, 94, 95, 96, 97, 98, 99, 100, 101, 102, 103, 104, 105, 106, 107, 108, 109, 110, 111, 112, 113, 114, 115, 116, 117, 118, 119, 120, 121, 122, 123, 124, 125, 126, 127] (by decide +kernel) (by decide +kernel)
set_option maxRecDepth 20000 in
theorem gX12_operand_X12_leafOf : GoodIn wsX12_operand (wsV RX12 443 RX12 yX12_leafOf wsX12_leafOf) := goodIn_app (goodIn_of _ (by decide +kernel)) ggX12_operand_X12_leafOf
set_option maxRecDepth 20000 in
theorem ggX12_operand_X12_bad : GoodIn wsX12_operand wsX12_bad := goodIn_r _ [38, 39, 40, 41, 81, 82, 83, 84, 85, 86, 87, 88, 89, 90, 91, 92, 93, 94, 95, 96, 97, 98, 99, 100, 101, 102, 103, 104, 105, 106, 107, 108, 109, 110, 111, 112, 113, 114, 115, 116, 117, 118, 119, 120, 121, 122, 123, 124, 125, 126, 127] (by decide +kernel) (by decide +kernel)
set_option maxRecDepth 20000 in
theorem gX12_operand_X12_bad : GoodIn wsX12_operand (wsV RX12 185 RX12 yX12_bad wsX12_bad) := goodIn_app (goodIn_of _ (by decide +kernel)) ggX12_operand_X12_bad
set_option maxRecDepth 20000 in
theorem ggX12_operand_X12_next : GoodIn wsX12_operand wsX12_next := goodIn_r _ [45, 46, 40, 47, 48, 49, 9, 10, 16, 50, 51, 52, 14, 53, 54, 55, 56, 57, 58, 59, 60, 81, 82, 83, 84, 85, 86, 87, 88, 89, 90, 91, 92, 93, 94, 95, 96, 97, 98, 99, 100, 101, 102, 103, 104, 105, 106, 107, 108, 109, 110, 111, 112, 113, 114, 115, 116, 117, 118, 119, 120, 121, 122, 123, 124, 125, 126, 127] (by decide +kernel) (by decide +kernel)
set_option maxRecDepth 20000 in
theorem gX12_operand_X12_next : GoodIn wsX12_operand (wsV RX12 188 RX12 yX12_next wsX12_next) := goodIn_app (goodIn_of _ (by decide +kernel)) ggX12_operand_X12_next
set_option maxRecDepth 20000 in
theorem ggX12_operand_X12_code : GoodIn wsX12_operand wsX12_code := goodIn_r _ [64, 65, 66, 81, 82, 83, 84, 85, 86, 87, 88, 89, 90, 91, 92, 93, 94, 95, 96, 97, 98, 99, 100, 101, 102, 103, 104, 105, 106, 107, 108, 109, 110, 111, 112, 113, 114, 115, 116, 117, 118, 119, 120, 121, 122, 123, 124, 125, 126, 127] (by decide +kernel) (by decide +kernel)
set_option maxRecDepth 20000 in
theorem gX12_operand_X12_code : GoodIn wsX12_operand (wsV RX12 437 RX12 yX12_code wsX12_code) := goodIn_app (goodIn_of _ (by decide +kernel)) ggX12_operand_X12_code
set_option maxRecDepth 20000 in
theorem ggX12_operand_X12_looksAt : GoodIn wsX12_operand wsX12_looksAt := goodIn_r _ [70, 8, 71, 72, 73, 14, 74, 9, 16, 75, 35, 36, 37, 38, 39, 40, 41, 76, 77, 78, 79, 80, 81, 82, 83, 84, 85, 86, 87, 88, 89, 90, 91, 92, 93, 94, 95, 96, 97, 98, 99, 100, 101, 102, 103, 104, 105, 106, 107, 108, 109, 110, 111, 112, 113, 114, 115, 116, 117, 118, 119, 120, 121, 122, 123, 124, 125, 126, 127] (by decide +kernel) (by decide +kernel)
set_option maxRecDepth 20000 in
theorem gX12_operand_X12_looksAt : GoodIn wsX12_operand (wsV RX12 210 RX12 yX12_looksAt wsX12_looksAt) := goodIn_app (goodIn_of _ (by decide +kernel)) ggX12_operand_X12_looksAt
theorem dX12_operand_0 : decode cX12_operand 0 = .ok (.aload_n 0, 1) := by decide +kernel
theorem dX12_operand_1 : decode cX12_operand 1 = .ok (.ldc2_w 131, 3) := by decide +kernel
theorem dX12_operand_4 : decode cX12_operand 4 = .ok (.invokevirtual 219, 3) := by decide +kernel
theorem dX12_operand_7 : decode cX12_operand 7 = .ok (.istore_n 1, 1) := by decide +kernel
theorem dX12_operand_8 : decode cX12_operand 8 = .ok (.aload_n 0, 1) := by decide +kernel
theorem dX12_operand_9 : decode cX12_operand 9 = .ok (.bipush 40, 2) := by decide +kernel
theorem dX12_operand_11 : decode cX12_operand 11 = .ok (.invokevirtual 182, 3) := by decide +kernel
theorem dX12_operand_14 : decode cX12_operand 14 = .ok (.istore_n 2, 1) := by decide +kernel
theorem dX12_operand_15 : decode cX12_operand 15 = .ok (.aload_n 0, 1) := by decide +kernel
theorem dX12_operand_16 : decode cX12_operand 16 = .ok (.invokevirtual 443, 3) := by decide +kernel
theorem dX12_operand_19 : decode cX12_operand 19 = .ok (.istore_n 3, 1) := by decide +kernel
theorem dX12_operand_20 : decode cX12_operand 20 = .ok (.iload_n 1, 1) := by decide +kernel
theorem dX12_operand_21 : decode cX12_operand 21 = .ok (.ifCond .ne 17, 3) := by decide +kernel
theorem dX12_operand_24 : decode cX12_operand 24 = .ok (.iload_n 2, 1) := by decide +kernel
theorem dX12_operand_25 : decode cX12_operand 25 = .ok (.ifCond .ne 13, 3) := by decide +kernel
theorem dX12_operand_28 : decode cX12_operand 28 = .ok (.iload_n 3, 1) := by decide +kernel
theorem dX12_operand_29 : decode cX12_operand 29 = .ok (.ifCond .ge 9, 3) := by decide +kernel
theorem dX12_operand_32 : decode cX12_operand 32 = .ok (.aload_n 0, 1) := by decide +kernel
theorem dX12_operand_33 : decode cX12_operand 33 = .ok (.iconst 1, 1) := by decide +kernel
theorem dX12_operand_34 : decode cX12_operand 34 = .ok (.invokevirtual 185, 3) := by decide +kernel
theorem dX12_operand_37 : decode cX12_operand 37 = .ok (.ireturn, 1) := by decide +kernel
theorem dX12_operand_38 : decode cX12_operand 38 = .ok (.aload_n 0, 1) := by decide +kernel
theorem dX12_operand_39 : decode cX12_operand 39 = .ok (.getfield 446, 3) := by decide +kernel
theorem dX12_operand_42 : decode cX12_operand 42 = .ok (.bipush 20, 2) := by decide +kernel
theorem dX12_operand_44 : decode cX12_operand 44 = .ok (.if_icmp .eq 12, 3) := by decide +kernel
theorem dX12_operand_47 : decode cX12_operand 47 = .ok (.aload_n 0, 1) := by decide +kernel
theorem dX12_operand_48 : decode cX12_operand 48 = .ok (.getfield 440, 3) := by decide +kernel
theorem dX12_operand_51 : decode cX12_operand 51 = .ok (.bipush 8, 2) := by decide +kernel
theorem dX12_operand_53 : decode cX12_operand 53 = .ok (.if_icmp .le 9, 3) := by decide +kernel
theorem dX12_operand_56 : decode cX12_operand 56 = .ok (.aload_n 0, 1) := by decide +kernel
theorem dX12_operand_57 : decode cX12_operand 57 = .ok (.iconst 4, 1) := by decide +kernel
theorem dX12_operand_58 : decode cX12_operand 58 = .ok (.invokevirtual 185, 3) := by decide +kernel
theorem dX12_operand_61 : decode cX12_operand 61 = .ok (.ireturn, 1) := by decide +kernel
theorem dX12_operand_62 : decode cX12_operand 62 = .ok (.aload_n 0, 1) := by decide +kernel
theorem dX12_operand_63 : decode cX12_operand 63 = .ok (.dup, 1) := by decide +kernel
theorem dX12_operand_64 : decode cX12_operand 64 = .ok (.getfield 446, 3) := by decide +kernel
theorem dX12_operand_67 : decode cX12_operand 67 = .ok (.iconst 1, 1) := by decide +kernel
theorem dX12_operand_68 : decode cX12_operand 68 = .ok (.iadd, 1) := by decide +kernel
theorem dX12_operand_69 : decode cX12_operand 69 = .ok (.putfield 446, 3) := by decide +kernel
theorem dX12_operand_72 : decode cX12_operand 72 = .ok (.aload_n 0, 1) := by decide +kernel
theorem dX12_operand_73 : decode cX12_operand 73 = .ok (.invokevirtual 188, 3) := by decide +kernel
theorem dX12_operand_76 : decode cX12_operand 76 = .ok (.iload_n 1, 1) := by decide +kernel
theorem dX12_operand_77 : decode cX12_operand 77 = .ok (.ifCond .ne 7, 3) := by decide +kernel
theorem dX12_operand_80 : decode cX12_operand 80 = .ok (.iload_n 2, 1) := by decide +kernel
theorem dX12_operand_81 : decode cX12_operand 81 = .ok (.ifCond .eq 45, 3) := by decide +kernel
theorem dX12_operand_84 : decode cX12_operand 84 = .ok (.aload_n 0, 1) := by decide +kernel
theorem dX12_operand_85 : decode cX12_operand 85 = .ok (.getfield 71, 3) := by decide +kernel
theorem dX12_operand_88 : decode cX12_operand 88 = .ok (.aload_n 0, 1) := by decide +kernel
theorem dX12_operand_89 : decode cX12_operand 89 = .ok (.getfield 434, 3) := by decide +kernel
theorem dX12_operand_92 : decode cX12_operand 92 = .ok (.iload_n 1, 1) := by decide +kernel
theorem dX12_operand_93 : decode cX12_operand 93 = .ok (.ifCond .eq 8, 3) := by decide +kernel
theorem dX12_operand_96 : decode cX12_operand 96 = .ok (.bipush 20, 2) := by decide +kernel
theorem dX12_operand_98 : decode cX12_operand 98 = .ok (.goto 5, 3) := by decide +kernel
theorem dX12_operand_101 : decode cX12_operand 101 = .ok (.bipush 23, 2) := by decide +kernel
theorem dX12_operand_103 : decode cX12_operand 103 = .ok (.iastore, 1) := by decide +kernel
theorem dX12_operand_104 : decode cX12_operand 104 = .ok (.aload_n 0, 1) := by decide +kernel
theorem dX12_operand_105 : decode cX12_operand 105 = .ok (.dup, 1) := by decide +kernel
theorem dX12_operand_106 : decode cX12_operand 106 = .ok (.getfield 434, 3) := by decide +kernel
theorem dX12_operand_109 : decode cX12_operand 109 = .ok (.iconst 1, 1) := by decide +kernel
theorem dX12_operand_110 : decode cX12_operand 110 = .ok (.iadd, 1) := by decide +kernel
theorem dX12_operand_111 : decode cX12_operand 111 = .ok (.putfield 434, 3) := by decide +kernel
theorem dX12_operand_114 : decode cX12_operand 114 = .ok (.aload_n 0, 1) := by decide +kernel
theorem dX12_operand_115 : decode cX12_operand 115 = .ok (.dup, 1) := by decide +kernel
theorem dX12_operand_116 : decode cX12_operand 116 = .ok (.getfield 440, 3) := by decide +kernel
theorem dX12_operand_119 : decode cX12_operand 119 = .ok (.iconst 1, 1) := by decide +kernel
theorem dX12_operand_120 : decode cX12_operand 120 = .ok (.iadd, 1) := by decide +kernel
theorem dX12_operand_121 : decode cX12_operand 121 = .ok (.putfield 440, 3) := by decide +kernel
theorem dX12_operand_124 : decode cX12_operand 124 = .ok (.iconst 1, 1) := by decide +kernel
theorem dX12_operand_125 : decode cX12_operand 125 = .ok (.ireturn, 1) := by decide +kernel
theorem dX12_operand_126 : decode cX12_operand 126 = .ok (.aload_n 0, 1) := by decide +kernel
theorem dX12_operand_127 : decode cX12_operand 127 = .ok (.iconst 1, 1) := by decide +kernel
theorem dX12_operand_128 : decode cX12_operand 128 = .ok (.putfield 449, 3) := by decide +kernel
theorem dX12_operand_131 : decode cX12_operand 131 = .ok (.iload_n 3, 1) := by decide +kernel
theorem dX12_operand_132 : decode cX12_operand 132 = .ok (.iconst 5, 1) := by decide +kernel
theorem dX12_operand_133 : decode cX12_operand 133 = .ok (.if_icmp .ge 12, 3) := by decide +kernel
theorem dX12_operand_136 : decode cX12_operand 136 = .ok (.aload_n 0, 1) := by decide +kernel
theorem dX12_operand_137 : decode cX12_operand 137 = .ok (.iload_n 3, 1) := by decide +kernel
theorem dX12_operand_138 : decode cX12_operand 138 = .ok (.iconst 0, 1) := by decide +kernel
theorem dX12_operand_139 : decode cX12_operand 139 = .ok (.iconst 0, 1) := by decide +kernel
theorem dX12_operand_140 : decode cX12_operand 140 = .ok (.invokevirtual 437, 3) := by decide +kernel
theorem dX12_operand_143 : decode cX12_operand 143 = .ok (.iconst 1, 1) := by decide +kernel
theorem dX12_operand_144 : decode cX12_operand 144 = .ok (.ireturn, 1) := by decide +kernel
theorem dX12_operand_145 : decode cX12_operand 145 = .ok (.iload_n 3, 1) := by decide +kernel
theorem dX12_operand_146 : decode cX12_operand 146 = .ok (.iconst 5, 1) := by decide +kernel
theorem dX12_operand_147 : decode cX12_operand 147 = .ok (.if_icmp .ne 35, 3) := by decide +kernel
theorem dX12_operand_150 : decode cX12_operand 150 = .ok (.aload_n 0, 1) := by decide +kernel
theorem dX12_operand_151 : decode cX12_operand 151 = .ok (.iconst 0, 1) := by decide +kernel
theorem dX12_operand_152 : decode cX12_operand 152 = .ok (.aload_n 0, 1) := by decide +kernel
theorem dX12_operand_153 : decode cX12_operand 153 = .ok (.getfield 33, 3) := by decide +kernel
theorem dX12_operand_156 : decode cX12_operand 156 = .ok (.iconst 0, 1) := by decide +kernel
theorem dX12_operand_157 : decode cX12_operand 157 = .ok (.iaload, 1) := by decide +kernel
theorem dX12_operand_158 : decode cX12_operand 158 = .ok (.invokevirtual 210, 3) := by decide +kernel
theorem dX12_operand_161 : decode cX12_operand 161 = .ok (.ifCond .ne 5, 3) := by decide +kernel
theorem dX12_operand_164 : decode cX12_operand 164 = .ok (.iconst 0, 1) := by decide +kernel
theorem dX12_operand_165 : decode cX12_operand 165 = .ok (.ireturn, 1) := by decide +kernel
theorem dX12_operand_166 : decode cX12_operand 166 = .ok (.aload_n 0, 1) := by decide +kernel
theorem dX12_operand_167 : decode cX12_operand 167 = .ok (.iload_n 3, 1) := by decide +kernel
theorem dX12_operand_168 : decode cX12_operand 168 = .ok (.iconst 0, 1) := by decide +kernel
theorem dX12_operand_169 : decode cX12_operand 169 = .ok (.aload_n 0, 1) := by decide +kernel
theorem dX12_operand_170 : decode cX12_operand 170 = .ok (.getfield 195, 3) := by decide +kernel
theorem dX12_operand_173 : decode cX12_operand 173 = .ok (.invokevirtual 437, 3) := by decide +kernel
theorem dX12_operand_176 : decode cX12_operand 176 = .ok (.aload_n 0, 1) := by decide +kernel
theorem dX12_operand_177 : decode cX12_operand 177 = .ok (.invokevirtual 188, 3) := by decide +kernel
theorem dX12_operand_180 : decode cX12_operand 180 = .ok (.iconst 1, 1) := by decide +kernel
theorem dX12_operand_181 : decode cX12_operand 181 = .ok (.ireturn, 1) := by decide +kernel
theorem dX12_operand_182 : decode cX12_operand 182 = .ok (.aload_n 0, 1) := by decide +kernel
theorem dX12_operand_183 : decode cX12_operand 183 = .ok (.getfield 159, 3) := by decide +kernel
theorem dX12_operand_186 : decode cX12_operand 186 = .ok (.iconst 3, 1) := by decide +kernel
theorem dX12_operand_187 : decode cX12_operand 187 = .ok (.if_icmp .ne 21, 3) := by decide +kernel
theorem dX12_operand_190 : decode cX12_operand 190 = .ok (.aload_n 0, 1) := by decide +kernel
theorem dX12_operand_191 : decode cX12_operand 191 = .ok (.getfield 169, 3) := by decide +kernel
theorem dX12_operand_194 : decode cX12_operand 194 = .ok (.bipush 60, 2) := by decide +kernel
theorem dX12_operand_196 : decode cX12_operand 196 = .ok (.if_icmp .lt 12, 3) := by decide +kernel
theorem dX12_operand_199 : decode cX12_operand 199 = .ok (.aload_n 0, 1) := by decide +kernel
theorem dX12_operand_200 : decode cX12_operand 200 = .ok (.getfield 169, 3) := by decide +kernel
theorem dX12_operand_203 : decode cX12_operand 203 = .ok (.bipush 62, 2) := by decide +kernel
theorem dX12_operand_205 : decode cX12_operand 205 = .ok (.if_icmp .le 9, 3) := by decide +kernel
theorem dX12_operand_208 : decode cX12_operand 208 = .ok (.aload_n 0, 1) := by decide +kernel
theorem dX12_operand_209 : decode cX12_operand 209 = .ok (.iconst 1, 1) := by decide +kernel
theorem dX12_operand_210 : decode cX12_operand 210 = .ok (.invokevirtual 185, 3) := by decide +kernel
theorem dX12_operand_213 : decode cX12_operand 213 = .ok (.ireturn, 1) := by decide +kernel
theorem dX12_operand_214 : decode cX12_operand 214 = .ok (.aload_n 0, 1) := by decide +kernel
theorem dX12_operand_215 : decode cX12_operand 215 = .ok (.getfield 169, 3) := by decide +kernel
theorem dX12_operand_218 : decode cX12_operand 218 = .ok (.istore 4, 2) := by decide +kernel
theorem dX12_operand_220 : decode cX12_operand 220 = .ok (.aload_n 0, 1) := by decide +kernel
theorem dX12_operand_221 : decode cX12_operand 221 = .ok (.invokevirtual 188, 3) := by decide +kernel
theorem dX12_operand_224 : decode cX12_operand 224 = .ok (.aload_n 0, 1) := by decide +kernel
theorem dX12_operand_225 : decode cX12_operand 225 = .ok (.getfield 159, 3) := by decide +kernel
theorem dX12_operand_228 : decode cX12_operand 228 = .ok (.iconst 2, 1) := by decide +kernel
theorem dX12_operand_229 : decode cX12_operand 229 = .ok (.if_icmp .eq 9, 3) := by decide +kernel
theorem dX12_operand_232 : decode cX12_operand 232 = .ok (.aload_n 0, 1) := by decide +kernel
theorem dX12_operand_233 : decode cX12_operand 233 = .ok (.iconst 1, 1) := by decide +kernel
theorem dX12_operand_234 : decode cX12_operand 234 = .ok (.invokevirtual 185, 3) := by decide +kernel
theorem dX12_operand_237 : decode cX12_operand 237 = .ok (.ireturn, 1) := by decide +kernel
theorem dX12_operand_238 : decode cX12_operand 238 = .ok (.aload_n 0, 1) := by decide +kernel
theorem dX12_operand_239 : decode cX12_operand 239 = .ok (.iload_n 3, 1) := by decide +kernel
theorem dX12_operand_240 : decode cX12_operand 240 = .ok (.iload 4, 2) := by decide +kernel
theorem dX12_operand_242 : decode cX12_operand 242 = .ok (.aload_n 0, 1) := by decide +kernel
theorem dX12_operand_243 : decode cX12_operand 243 = .ok (.getfield 169, 3) := by decide +kernel
theorem dX12_operand_246 : decode cX12_operand 246 = .ok (.invokevirtual 437, 3) := by decide +kernel
theorem dX12_operand_249 : decode cX12_operand 249 = .ok (.aload_n 0, 1) := by decide +kernel
theorem dX12_operand_250 : decode cX12_operand 250 = .ok (.invokevirtual 188, 3) := by decide +kernel
theorem dX12_operand_253 : decode cX12_operand 253 = .ok (.iconst 1, 1) := by decide +kernel
theorem dX12_operand_254 : decode cX12_operand 254 = .ok (.ireturn, 1) := by decide +kernel
set_option maxRecDepth 20000 in
theorem ggX12_behind_X12_nots : GoodIn wsX12_behind wsX12_nots := goodIn_r _ [11, 4, 3, 6, 12, 13, 14, 10, 15, 16, 17, 59, 60, 61, 62, 63, 64, 65, 66, 67, 68, 69, 70, 71, 72, 73, 74, 75, 76, 77, 78, 79, 80, 81, 82, 83, 84, 85, 86, 87, 88, 89, 90, 91, 92, 93, 94, 95, 96, 97, 98, 99, 100, 101, 102, 103, 104, 105] (by decide +kernel) (by decide +kernel)
set_option maxRecDepth 20000 in
theorem gX12_behind_X12_nots : GoodIn wsX12_behind (wsV RX12 452 RX12 yX12_nots wsX12_nots) := goodIn_app (goodIn_of _ (by decide +kernel)) ggX12_behind_X12_nots
set_option maxRecDepth 20000 in
theorem ggX12_behind_X12_isWord : GoodIn wsX12_behind wsX12_isWord := goodIn_r _ [21, 22, 23, 59, 60, 61, 62, 63, 64, 65, 66, 67, 68, 69, 70, 71, 72, 73, 74, 75, 76, 77, 78, 79, 80, 81, 82, 83, 84, 85, 86, 87, 88, 89, 90, 91, 92, 93, 94, 95, 96, 97, 98, 99, 100, 101, 102, 103, 104, 105] (by decide +kernel) (by decide +kernel)
set_option maxRecDepth 20000 in
theorem gX12_behind_X12_isWord : GoodIn wsX12_behind (wsV RX12 219 RX12 yX12_isWord wsX12_isWord) := goodIn_app (goodIn_of _ (by decide +kernel)) ggX12_behind_X12_isWord
set_option maxRecDepth 20000 in
theorem ggX12_behind_X12_joins : GoodIn wsX12_behind wsX12_joins := goodIn_r _ [27, 4, 3, 12, 13, 14, 10, 15, 16, 17, 59, 60, 61, 62, 63, 64, 65, 66, 67, 68, 69, 70, 71, 72, 73, 74, 75, 76, 77, 78, 79, 80, 81, 82, 83, 84, 85, 86, 87, 88, 89, 90, 91, 92, 93, 94, 95, 96, 97, 98, 99, 100, 101, 102, 103, 104, 105] (by decide +kernel) (by decide +kernel)
set_option maxRecDepth 20000 in
theorem gX12_behind_X12_joins : GoodIn wsX12_behind (wsV RX12 455 RX12 yX12_joins wsX12_joins) := goodIn_app (goodIn_of _ (by decide +kernel)) ggX12_behind_X12_joins
set_option maxRecDepth 20000 in
theorem ggX12_behind_X12_next : GoodIn wsX12_behind wsX12_next := goodIn_r _ [31, 32, 33, 34, 35, 36, 22, 37, 23, 38, 39, 40, 10, 41, 42, 43, 44, 45, 46, 47, 48, 59, 60, 61, 62, 63, 64, 65, 66, 67, 68, 69, 70, 71, 72, 73, 74, 75, 76, 77, 78, 79, 80, 81, 82, 83, 84, 85, 86, 87, 88, 89, 90, 91, 92, 93, 94, 95, 96, 97, 98, 99, 100, 101, 102, 103, 104, 105] (by decide +kernel) (by decide +kernel)
set_option maxRecDepth 20000 in
theorem gX12_behind_X12_next : GoodIn wsX12_behind (wsV RX12 188 RX12 yX12_next wsX12_next) := goodIn_app (goodIn_of _ (by decide +kernel)) ggX12_behind_X12_next
set_option maxRecDepth 20000 in
theorem ggX12_behind_X12_isSign : GoodIn wsX12_behind wsX12_isSign := goodIn_r _ [52, 22, 37, 59, 60, 61, 62, 63, 64, 65, 66, 67, 68, 69, 70, 71, 72, 73, 74, 75, 76, 77, 78, 79, 80, 81, 82, 83, 84, 85, 86, 87, 88, 89, 90, 91, 92, 93, 94, 95, 96, 97, 98, 99, 100, 101, 102, 103, 104, 105] (by decide +kernel) (by decide +kernel)
set_option maxRecDepth 20000 in
theorem gX12_behind_X12_isSign : GoodIn wsX12_behind (wsV RX12 182 RX12 yX12_isSign wsX12_isSign) := goodIn_app (goodIn_of _ (by decide +kernel)) ggX12_behind_X12_isSign
set_option maxRecDepth 20000 in
theorem ggX12_behind_X12_bad : GoodIn wsX12_behind wsX12_bad := goodIn_r _ [56, 57, 33, 58, 59, 60, 61, 62, 63, 64, 65, 66, 67, 68, 69, 70, 71, 72, 73, 74, 75, 76, 77, 78, 79, 80, 81, 82, 83, 84, 85, 86, 87, 88, 89, 90, 91, 92, 93, 94, 95, 96, 97, 98, 99, 100, 101, 102, 103, 104, 105] (by decide +kernel) (by decide +kernel)
set_option maxRecDepth 20000 in
theorem gX12_behind_X12_bad : GoodIn wsX12_behind (wsV RX12 185 RX12 yX12_bad wsX12_bad) := goodIn_app (goodIn_of _ (by decide +kernel)) ggX12_behind_X12_bad
theorem dX12_behind_0 : decode cX12_behind 0 = .ok (.aload_n 0, 1) := by decide +kernel
theorem dX12_behind_1 : decode cX12_behind 1 = .ok (.invokevirtual 452, 3) := by decide +kernel
theorem dX12_behind_4 : decode cX12_behind 4 = .ok (.aload_n 0, 1) := by decide +kernel
theorem dX12_behind_5 : decode cX12_behind 5 = .ok (.ldc2_w 129, 3) := by decide +kernel
theorem dX12_behind_8 : decode cX12_behind 8 = .ok (.invokevirtual 219, 3) := by decide +kernel
theorem dX12_behind_11 : decode cX12_behind 11 = .ok (.ifCond .ne 13, 3) := by decide +kernel
theorem dX12_behind_14 : decode cX12_behind 14 = .ok (.aload_n 0, 1) := by decide +kernel
theorem dX12_behind_15 : decode cX12_behind 15 = .ok (.ldc2_w 127, 3) := by decide +kernel
theorem dX12_behind_18 : decode cX12_behind 18 = .ok (.invokevirtual 219, 3) := by decide +kernel
theorem dX12_behind_21 : decode cX12_behind 21 = .ok (.ifCond .eq 71, 3) := by decide +kernel
theorem dX12_behind_24 : decode cX12_behind 24 = .ok (.aload_n 0, 1) := by decide +kernel
theorem dX12_behind_25 : decode cX12_behind 25 = .ok (.aload_n 0, 1) := by decide +kernel
theorem dX12_behind_26 : decode cX12_behind 26 = .ok (.ldc2_w 129, 3) := by decide +kernel
theorem dX12_behind_29 : decode cX12_behind 29 = .ok (.invokevirtual 219, 3) := by decide +kernel
theorem dX12_behind_32 : decode cX12_behind 32 = .ok (.ifCond .eq 8, 3) := by decide +kernel
theorem dX12_behind_35 : decode cX12_behind 35 = .ok (.bipush 21, 2) := by decide +kernel
theorem dX12_behind_37 : decode cX12_behind 37 = .ok (.goto 5, 3) := by decide +kernel
theorem dX12_behind_40 : decode cX12_behind 40 = .ok (.bipush 22, 2) := by decide +kernel
theorem dX12_behind_42 : decode cX12_behind 42 = .ok (.invokevirtual 455, 3) := by decide +kernel
theorem dX12_behind_45 : decode cX12_behind 45 = .ok (.aload_n 0, 1) := by decide +kernel
theorem dX12_behind_46 : decode cX12_behind 46 = .ok (.getfield 71, 3) := by decide +kernel
theorem dX12_behind_49 : decode cX12_behind 49 = .ok (.aload_n 0, 1) := by decide +kernel
theorem dX12_behind_50 : decode cX12_behind 50 = .ok (.getfield 434, 3) := by decide +kernel
theorem dX12_behind_53 : decode cX12_behind 53 = .ok (.aload_n 0, 1) := by decide +kernel
theorem dX12_behind_54 : decode cX12_behind 54 = .ok (.ldc2_w 129, 3) := by decide +kernel
theorem dX12_behind_57 : decode cX12_behind 57 = .ok (.invokevirtual 219, 3) := by decide +kernel
theorem dX12_behind_60 : decode cX12_behind 60 = .ok (.ifCond .eq 8, 3) := by decide +kernel
theorem dX12_behind_63 : decode cX12_behind 63 = .ok (.bipush 21, 2) := by decide +kernel
theorem dX12_behind_65 : decode cX12_behind 65 = .ok (.goto 5, 3) := by decide +kernel
theorem dX12_behind_68 : decode cX12_behind 68 = .ok (.bipush 22, 2) := by decide +kernel
theorem dX12_behind_70 : decode cX12_behind 70 = .ok (.iastore, 1) := by decide +kernel
theorem dX12_behind_71 : decode cX12_behind 71 = .ok (.aload_n 0, 1) := by decide +kernel
theorem dX12_behind_72 : decode cX12_behind 72 = .ok (.dup, 1) := by decide +kernel
theorem dX12_behind_73 : decode cX12_behind 73 = .ok (.getfield 434, 3) := by decide +kernel
theorem dX12_behind_76 : decode cX12_behind 76 = .ok (.iconst 1, 1) := by decide +kernel
theorem dX12_behind_77 : decode cX12_behind 77 = .ok (.iadd, 1) := by decide +kernel
theorem dX12_behind_78 : decode cX12_behind 78 = .ok (.putfield 434, 3) := by decide +kernel
theorem dX12_behind_81 : decode cX12_behind 81 = .ok (.aload_n 0, 1) := by decide +kernel
theorem dX12_behind_82 : decode cX12_behind 82 = .ok (.iconst 0, 1) := by decide +kernel
theorem dX12_behind_83 : decode cX12_behind 83 = .ok (.putfield 449, 3) := by decide +kernel
theorem dX12_behind_86 : decode cX12_behind 86 = .ok (.aload_n 0, 1) := by decide +kernel
theorem dX12_behind_87 : decode cX12_behind 87 = .ok (.invokevirtual 188, 3) := by decide +kernel
theorem dX12_behind_90 : decode cX12_behind 90 = .ok (.iconst 1, 1) := by decide +kernel
theorem dX12_behind_91 : decode cX12_behind 91 = .ok (.ireturn, 1) := by decide +kernel
theorem dX12_behind_92 : decode cX12_behind 92 = .ok (.aload_n 0, 1) := by decide +kernel
theorem dX12_behind_93 : decode cX12_behind 93 = .ok (.bipush 22, 2) := by decide +kernel
theorem dX12_behind_95 : decode cX12_behind 95 = .ok (.invokevirtual 455, 3) := by decide +kernel
theorem dX12_behind_98 : decode cX12_behind 98 = .ok (.aload_n 0, 1) := by decide +kernel
theorem dX12_behind_99 : decode cX12_behind 99 = .ok (.bipush 41, 2) := by decide +kernel
theorem dX12_behind_101 : decode cX12_behind 101 = .ok (.invokevirtual 182, 3) := by decide +kernel
theorem dX12_behind_104 : decode cX12_behind 104 = .ok (.ifCond .eq 10, 3) := by decide +kernel
theorem dX12_behind_107 : decode cX12_behind 107 = .ok (.aload_n 0, 1) := by decide +kernel
theorem dX12_behind_108 : decode cX12_behind 108 = .ok (.getfield 434, 3) := by decide +kernel
theorem dX12_behind_111 : decode cX12_behind 111 = .ok (.ifCond .ne 9, 3) := by decide +kernel
theorem dX12_behind_114 : decode cX12_behind 114 = .ok (.aload_n 0, 1) := by decide +kernel
theorem dX12_behind_115 : decode cX12_behind 115 = .ok (.iconst 1, 1) := by decide +kernel
theorem dX12_behind_116 : decode cX12_behind 116 = .ok (.invokevirtual 185, 3) := by decide +kernel
theorem dX12_behind_119 : decode cX12_behind 119 = .ok (.ireturn, 1) := by decide +kernel
theorem dX12_behind_120 : decode cX12_behind 120 = .ok (.aload_n 0, 1) := by decide +kernel
theorem dX12_behind_121 : decode cX12_behind 121 = .ok (.dup, 1) := by decide +kernel
theorem dX12_behind_122 : decode cX12_behind 122 = .ok (.getfield 434, 3) := by decide +kernel
theorem dX12_behind_125 : decode cX12_behind 125 = .ok (.iconst 1, 1) := by decide +kernel
theorem dX12_behind_126 : decode cX12_behind 126 = .ok (.isub, 1) := by decide +kernel
theorem dX12_behind_127 : decode cX12_behind 127 = .ok (.putfield 434, 3) := by decide +kernel
theorem dX12_behind_130 : decode cX12_behind 130 = .ok (.aload_n 0, 1) := by decide +kernel
theorem dX12_behind_131 : decode cX12_behind 131 = .ok (.dup, 1) := by decide +kernel
theorem dX12_behind_132 : decode cX12_behind 132 = .ok (.getfield 440, 3) := by decide +kernel
theorem dX12_behind_135 : decode cX12_behind 135 = .ok (.iconst 1, 1) := by decide +kernel
theorem dX12_behind_136 : decode cX12_behind 136 = .ok (.isub, 1) := by decide +kernel
theorem dX12_behind_137 : decode cX12_behind 137 = .ok (.putfield 440, 3) := by decide +kernel
theorem dX12_behind_140 : decode cX12_behind 140 = .ok (.aload_n 0, 1) := by decide +kernel
theorem dX12_behind_141 : decode cX12_behind 141 = .ok (.invokevirtual 188, 3) := by decide +kernel
theorem dX12_behind_144 : decode cX12_behind 144 = .ok (.iconst 1, 1) := by decide +kernel
theorem dX12_behind_145 : decode cX12_behind 145 = .ok (.ireturn, 1) := by decide +kernel
set_option maxRecDepth 20000 in
theorem ggX12_sentence_X12_taken : GoodIn wsX12_sentence wsX12_taken := goodIn_r _ [16, 17, 18, 19, 20, 105, 106, 107, 108, 109, 110, 111, 112, 113, 114, 115, 116, 117, 118, 119, 120, 121, 122, 123, 124, 125, 126, 127, 128, 129, 130, 131, 132, 133, 134, 135, 136, 137, 138, 139, 140, 141, 142, 143, 144, 145, 146, 147, 148, 149, 150, 151] (by decide +kernel) (by decide +kernel)
set_option maxRecDepth 20000 in
theorem gX12_sentence_X12_taken : GoodIn wsX12_sentence (wsV RX12 244 RX12 yX12_taken wsX12_taken) := goodIn_app (goodIn_of _ (by decide +kernel)) ggX12_sentence_X12_taken
set_option maxRecDepth 20000 in
theorem ggX12_sentence_X12_next : GoodIn wsX12_sentence wsX12_next := goodIn_r _ [24, 19, 25, 26, 18, 20, 8, 27, 28, 29, 30, 31, 15, 32, 33, 34, 35, 36, 37, 38, 39, 105, 106, 107, 108, 109, 110, 111, 112, 113, 114, 115, 116, 117, 118, 119, 120, 121, 122, 123, 124, 125, 126, 127, 128, 129, 130, 131, 132, 133, 134, 135, 136, 137, 138, 139, 140, 141, 142, 143, 144, 145, 146, 147, 148, 149, 150, 151] (by decide +kernel) (by decide +kernel)
set_option maxRecDepth 20000 in
theorem gX12_sentence_X12_next : GoodIn wsX12_sentence (wsV RX12 188 RX12 yX12_next wsX12_next) := goodIn_app (goodIn_of _ (by decide +kernel)) ggX12_sentence_X12_next
set_option maxRecDepth 20000 in
theorem ggX12_sentence_X12_nots : GoodIn wsX12_sentence wsX12_nots := goodIn_r _ [43, 5, 44, 6, 45, 46, 47, 15, 48, 11, 3, 105, 106, 107, 108, 109, 110, 111, 112, 113, 114, 115, 116, 117, 118, 119, 120, 121, 122, 123, 124, 125, 126, 127, 128, 129, 130, 131, 132, 133, 134, 135, 136, 137, 138, 139, 140, 141, 142, 143, 144, 145, 146, 147, 148, 149, 150, 151] (by decide +kernel) (by decide +kernel)
set_option maxRecDepth 20000 in
theorem gX12_sentence_X12_nots : GoodIn wsX12_sentence (wsV RX12 452 RX12 yX12_nots wsX12_nots) := goodIn_app (goodIn_of _ (by decide +kernel)) ggX12_sentence_X12_nots
set_option maxRecDepth 20000 in
theorem ggX12_sentence_X12_joins : GoodIn wsX12_sentence wsX12_joins := goodIn_r _ [52, 5, 44, 45, 46, 47, 15, 48, 11, 3, 105, 106, 107, 108, 109, 110, 111, 112, 113, 114, 115, 116, 117, 118, 119, 120, 121, 122, 123, 124, 125, 126, 127, 128, 129, 130, 131, 132, 133, 134, 135, 136, 137, 138, 139, 140, 141, 142, 143, 144, 145, 146, 147, 148, 149, 150, 151] (by decide +kernel) (by decide +kernel)
set_option maxRecDepth 20000 in
theorem gX12_sentence_X12_joins : GoodIn wsX12_sentence (wsV RX12 455 RX12 yX12_joins wsX12_joins) := goodIn_app (goodIn_of _ (by decide +kernel)) ggX12_sentence_X12_joins
set_option maxRecDepth 20000 in
theorem ggX12_sentence_X12_bad : GoodIn wsX12_sentence wsX12_bad := goodIn_r _ [56, 2, 25, 9, 105, 106, 107, 108, 109, 110, 111, 112, 113, 114, 115, 116, 117, 118, 119, 120, 121, 122, 123, 124, 125, 126, 127, 128, 129, 130, 131, 132, 133, 134, 135, 136, 137, 138, 139, 140, 141, 142, 143, 144, 145, 146, 147, 148, 149, 150, 151] (by decide +kernel) (by decide +kernel)
set_option maxRecDepth 20000 in
theorem gX12_sentence_X12_bad : GoodIn wsX12_sentence (wsV RX12 185 RX12 yX12_bad wsX12_bad) := goodIn_app (goodIn_of _ (by decide +kernel)) ggX12_sentence_X12_bad
set_option maxRecDepth 20000 in
theorem ggX12_sentence_X12_behind : GoodIn wsX12_sentence wsX12_behind := goodIn_r _ [60, 61, 62, 44, 5, 7, 6, 40, 41, 42, 15, 43, 45, 46, 47, 48, 11, 3, 63, 64, 65, 66, 8, 28, 49, 50, 51, 52, 21, 22, 23, 24, 19, 25, 26, 18, 20, 27, 29, 30, 31, 32, 33, 34, 35, 36, 37, 38, 39, 67, 68, 69, 70, 53, 54, 55, 56, 2, 9, 105, 106, 107, 108, 109, 110, 111, 112, 113, 114, 115, 116, 117, 118, 119, 120, 121, 122, 123, 124, 125, 126, 127, 128, 129, 130, 131, 132, 133, 134, 135, 136, 137, 138, 139, 140, 141, 142, 143, 144, 145, 146, 147, 148, 149, 150, 151] (by decide +kernel) (by decide +kernel)
set_option maxRecDepth 20000 in
theorem gX12_sentence_X12_behind : GoodIn wsX12_sentence (wsV RX12 458 RX12 yX12_behind wsX12_behind) := goodIn_app (goodIn_of _ (by decide +kernel)) ggX12_sentence_X12_behind
set_option maxRecDepth 20000 in
theorem ggX12_sentence_X12_operand : GoodIn wsX12_sentence wsX12_operand := goodIn_r _ [74, 75, 4, 6, 44, 5, 7, 10, 76, 8, 27, 63, 64, 65, 15, 66, 28, 67, 68, 69, 70, 77, 78, 79, 80, 81, 82, 83, 84, 85, 86, 87, 88, 89, 90, 53, 54, 55, 56, 2, 25, 9, 21, 22, 23, 24, 19, 26, 18, 20, 29, 30, 31, 32, 33, 34, 35, 36, 37, 38, 39, 45, 46, 47, 48, 11, 3, 91, 92, 93, 94, 95, 96, 97, 98, 99, 100, 101, 102, 103, 104, 105, 106, 107, 108, 109, 110, 111, 112, 113, 114, 115, 116, 117, 118, 119, 120, 121, 122, 123, 124, 125, 126, 127, 128, 129, 130, 131, 132, 133, 134, 135, 136, 137, 138, 139, 140, 141, 142, 143, 144, 145, 146, 147, 148, 149, 150, 151] (by decide +kernel) (by decide +kernel)
set_option maxRecDepth 20000 in
theorem gX12_sentence_X12_operand : GoodIn wsX12_sentence (wsV RX12 461 RX12 yX12_operand wsX12_operand) := goodIn_app (goodIn_of _ (by decide +kernel)) ggX12_sentence_X12_operand
theorem dX12_sentence_0 : decode cX12_sentence 0 = .ok (.aload_n 0, 1) := by decide +kernel
theorem dX12_sentence_1 : decode cX12_sentence 1 = .ok (.iconst 0, 1) := by decide +kernel
theorem dX12_sentence_2 : decode cX12_sentence 2 = .ok (.putfield 1, 3) := by decide +kernel
theorem dX12_sentence_5 : decode cX12_sentence 5 = .ok (.aload_n 0, 1) := by decide +kernel
theorem dX12_sentence_6 : decode cX12_sentence 6 = .ok (.sipush 200, 3) := by decide +kernel
theorem dX12_sentence_9 : decode cX12_sentence 9 = .ok (.invokevirtual 244, 3) := by decide +kernel
theorem dX12_sentence_12 : decode cX12_sentence 12 = .ok (.aload_n 0, 1) := by decide +kernel
theorem dX12_sentence_13 : decode cX12_sentence 13 = .ok (.iconst 0, 1) := by decide +kernel
theorem dX12_sentence_14 : decode cX12_sentence 14 = .ok (.putfield 176, 3) := by decide +kernel
theorem dX12_sentence_17 : decode cX12_sentence 17 = .ok (.aload_n 0, 1) := by decide +kernel
theorem dX12_sentence_18 : decode cX12_sentence 18 = .ok (.iconst 0, 1) := by decide +kernel
theorem dX12_sentence_19 : decode cX12_sentence 19 = .ok (.putfield 431, 3) := by decide +kernel
theorem dX12_sentence_22 : decode cX12_sentence 22 = .ok (.aload_n 0, 1) := by decide +kernel
theorem dX12_sentence_23 : decode cX12_sentence 23 = .ok (.iconst 0, 1) := by decide +kernel
theorem dX12_sentence_24 : decode cX12_sentence 24 = .ok (.putfield 446, 3) := by decide +kernel
theorem dX12_sentence_27 : decode cX12_sentence 27 = .ok (.aload_n 0, 1) := by decide +kernel
theorem dX12_sentence_28 : decode cX12_sentence 28 = .ok (.iconst 0, 1) := by decide +kernel
theorem dX12_sentence_29 : decode cX12_sentence 29 = .ok (.putfield 434, 3) := by decide +kernel
theorem dX12_sentence_32 : decode cX12_sentence 32 = .ok (.aload_n 0, 1) := by decide +kernel
theorem dX12_sentence_33 : decode cX12_sentence 33 = .ok (.iconst 1, 1) := by decide +kernel
theorem dX12_sentence_34 : decode cX12_sentence 34 = .ok (.putfield 440, 3) := by decide +kernel
theorem dX12_sentence_37 : decode cX12_sentence 37 = .ok (.aload_n 0, 1) := by decide +kernel
theorem dX12_sentence_38 : decode cX12_sentence 38 = .ok (.iconst 0, 1) := by decide +kernel
theorem dX12_sentence_39 : decode cX12_sentence 39 = .ok (.putfield 449, 3) := by decide +kernel
theorem dX12_sentence_42 : decode cX12_sentence 42 = .ok (.aload_n 0, 1) := by decide +kernel
theorem dX12_sentence_43 : decode cX12_sentence 43 = .ok (.invokevirtual 188, 3) := by decide +kernel
theorem dX12_sentence_46 : decode cX12_sentence 46 = .ok (.iconst 1, 1) := by decide +kernel
theorem dX12_sentence_47 : decode cX12_sentence 47 = .ok (.istore_n 1, 1) := by decide +kernel
theorem dX12_sentence_48 : decode cX12_sentence 48 = .ok (.iload_n 1, 1) := by decide +kernel
theorem dX12_sentence_49 : decode cX12_sentence 49 = .ok (.ifCond .eq 83, 3) := by decide +kernel
theorem dX12_sentence_52 : decode cX12_sentence 52 = .ok (.aload_n 0, 1) := by decide +kernel
theorem dX12_sentence_53 : decode cX12_sentence 53 = .ok (.getfield 449, 3) := by decide +kernel
theorem dX12_sentence_56 : decode cX12_sentence 56 = .ok (.ifCond .eq 45, 3) := by decide +kernel
theorem dX12_sentence_59 : decode cX12_sentence 59 = .ok (.aload_n 0, 1) := by decide +kernel
theorem dX12_sentence_60 : decode cX12_sentence 60 = .ok (.getfield 159, 3) := by decide +kernel
theorem dX12_sentence_63 : decode cX12_sentence 63 = .ok (.ifCond .ne 38, 3) := by decide +kernel
theorem dX12_sentence_66 : decode cX12_sentence 66 = .ok (.aload_n 0, 1) := by decide +kernel
theorem dX12_sentence_67 : decode cX12_sentence 67 = .ok (.invokevirtual 452, 3) := by decide +kernel
theorem dX12_sentence_70 : decode cX12_sentence 70 = .ok (.aload_n 0, 1) := by decide +kernel
theorem dX12_sentence_71 : decode cX12_sentence 71 = .ok (.bipush 22, 2) := by decide +kernel
theorem dX12_sentence_73 : decode cX12_sentence 73 = .ok (.invokevirtual 455, 3) := by decide +kernel
theorem dX12_sentence_76 : decode cX12_sentence 76 = .ok (.aload_n 0, 1) := by decide +kernel
theorem dX12_sentence_77 : decode cX12_sentence 77 = .ok (.getfield 434, 3) := by decide +kernel
theorem dX12_sentence_80 : decode cX12_sentence 80 = .ok (.ifCond .le 16, 3) := by decide +kernel
theorem dX12_sentence_83 : decode cX12_sentence 83 = .ok (.aload_n 0, 1) := by decide +kernel
theorem dX12_sentence_84 : decode cX12_sentence 84 = .ok (.iconst 1, 1) := by decide +kernel
theorem dX12_sentence_85 : decode cX12_sentence 85 = .ok (.invokevirtual 185, 3) := by decide +kernel
theorem dX12_sentence_88 : decode cX12_sentence 88 = .ok (.pop, 1) := by decide +kernel
theorem dX12_sentence_89 : decode cX12_sentence 89 = .ok (.iconst (-1), 1) := by decide +kernel
theorem dX12_sentence_90 : decode cX12_sentence 90 = .ok (.aload_n 0, 1) := by decide +kernel
theorem dX12_sentence_91 : decode cX12_sentence 91 = .ok (.getfield 179, 3) := by decide +kernel
theorem dX12_sentence_94 : decode cX12_sentence 94 = .ok (.isub, 1) := by decide +kernel
theorem dX12_sentence_95 : decode cX12_sentence 95 = .ok (.ireturn, 1) := by decide +kernel
theorem dX12_sentence_96 : decode cX12_sentence 96 = .ok (.iconst 0, 1) := by decide +kernel
theorem dX12_sentence_97 : decode cX12_sentence 97 = .ok (.istore_n 1, 1) := by decide +kernel
theorem dX12_sentence_98 : decode cX12_sentence 98 = .ok (.goto (-50), 3) := by decide +kernel
theorem dX12_sentence_101 : decode cX12_sentence 101 = .ok (.aload_n 0, 1) := by decide +kernel
theorem dX12_sentence_102 : decode cX12_sentence 102 = .ok (.getfield 449, 3) := by decide +kernel
theorem dX12_sentence_105 : decode cX12_sentence 105 = .ok (.ifCond .eq 13, 3) := by decide +kernel
theorem dX12_sentence_108 : decode cX12_sentence 108 = .ok (.aload_n 0, 1) := by decide +kernel
theorem dX12_sentence_109 : decode cX12_sentence 109 = .ok (.invokevirtual 458, 3) := by decide +kernel
theorem dX12_sentence_112 : decode cX12_sentence 112 = .ok (.ifCond .ne (-64), 3) := by decide +kernel
theorem dX12_sentence_115 : decode cX12_sentence 115 = .ok (.goto 10, 3) := by decide +kernel
theorem dX12_sentence_118 : decode cX12_sentence 118 = .ok (.aload_n 0, 1) := by decide +kernel
theorem dX12_sentence_119 : decode cX12_sentence 119 = .ok (.invokevirtual 461, 3) := by decide +kernel
theorem dX12_sentence_122 : decode cX12_sentence 122 = .ok (.ifCond .ne (-74), 3) := by decide +kernel
theorem dX12_sentence_125 : decode cX12_sentence 125 = .ok (.iconst (-1), 1) := by decide +kernel
theorem dX12_sentence_126 : decode cX12_sentence 126 = .ok (.aload_n 0, 1) := by decide +kernel
theorem dX12_sentence_127 : decode cX12_sentence 127 = .ok (.getfield 179, 3) := by decide +kernel
theorem dX12_sentence_130 : decode cX12_sentence 130 = .ok (.isub, 1) := by decide +kernel
theorem dX12_sentence_131 : decode cX12_sentence 131 = .ok (.ireturn, 1) := by decide +kernel
theorem dX12_sentence_132 : decode cX12_sentence 132 = .ok (.aload_n 0, 1) := by decide +kernel
theorem dX12_sentence_133 : decode cX12_sentence 133 = .ok (.getfield 33, 3) := by decide +kernel
theorem dX12_sentence_136 : decode cX12_sentence 136 = .ok (.sipush 246, 3) := by decide +kernel
theorem dX12_sentence_139 : decode cX12_sentence 139 = .ok (.aload_n 0, 1) := by decide +kernel
theorem dX12_sentence_140 : decode cX12_sentence 140 = .ok (.getfield 431, 3) := by decide +kernel
theorem dX12_sentence_143 : decode cX12_sentence 143 = .ok (.iastore, 1) := by decide +kernel
theorem dX12_sentence_144 : decode cX12_sentence 144 = .ok (.iconst 0, 1) := by decide +kernel
theorem dX12_sentence_145 : decode cX12_sentence 145 = .ok (.istore_n 2, 1) := by decide +kernel
theorem dX12_sentence_146 : decode cX12_sentence 146 = .ok (.iload_n 2, 1) := by decide +kernel
theorem dX12_sentence_147 : decode cX12_sentence 147 = .ok (.iconst 3, 1) := by decide +kernel
theorem dX12_sentence_148 : decode cX12_sentence 148 = .ok (.aload_n 0, 1) := by decide +kernel
theorem dX12_sentence_149 : decode cX12_sentence 149 = .ok (.getfield 431, 3) := by decide +kernel
theorem dX12_sentence_152 : decode cX12_sentence 152 = .ok (.imul, 1) := by decide +kernel
theorem dX12_sentence_153 : decode cX12_sentence 153 = .ok (.if_icmp .ge 25, 3) := by decide +kernel
theorem dX12_sentence_156 : decode cX12_sentence 156 = .ok (.aload_n 0, 1) := by decide +kernel
theorem dX12_sentence_157 : decode cX12_sentence 157 = .ok (.getfield 33, 3) := by decide +kernel
theorem dX12_sentence_160 : decode cX12_sentence 160 = .ok (.sipush 247, 3) := by decide +kernel
theorem dX12_sentence_163 : decode cX12_sentence 163 = .ok (.iload_n 2, 1) := by decide +kernel
theorem dX12_sentence_164 : decode cX12_sentence 164 = .ok (.iadd, 1) := by decide +kernel
theorem dX12_sentence_165 : decode cX12_sentence 165 = .ok (.aload_n 0, 1) := by decide +kernel
theorem dX12_sentence_166 : decode cX12_sentence 166 = .ok (.getfield 40, 3) := by decide +kernel
theorem dX12_sentence_169 : decode cX12_sentence 169 = .ok (.iload_n 2, 1) := by decide +kernel
theorem dX12_sentence_170 : decode cX12_sentence 170 = .ok (.iaload, 1) := by decide +kernel
theorem dX12_sentence_171 : decode cX12_sentence 171 = .ok (.iastore, 1) := by decide +kernel
theorem dX12_sentence_172 : decode cX12_sentence 172 = .ok (.iinc 2 1, 3) := by decide +kernel
theorem dX12_sentence_175 : decode cX12_sentence 175 = .ok (.goto (-29), 3) := by decide +kernel
theorem dX12_sentence_178 : decode cX12_sentence 178 = .ok (.aload_n 0, 1) := by decide +kernel
theorem dX12_sentence_179 : decode cX12_sentence 179 = .ok (.getfield 446, 3) := by decide +kernel
theorem dX12_sentence_182 : decode cX12_sentence 182 = .ok (.ireturn, 1) := by decide +kernel
set_option maxRecDepth 20000 in
theorem ggX12_hasHeard_X12_asNow : GoodIn wsX12_hasHeard wsX12_asNow := goodIn_r _ [6, 1, 7, 8, 9, 5, 10, 11, 12, 13, 41, 42, 43, 44, 45, 46, 47, 48, 49, 50, 51, 52, 53, 54, 55, 56, 57, 58, 59, 60, 61, 62, 63, 64, 65, 66, 67, 68, 69, 70, 71, 72, 73, 74, 75, 76, 77, 78, 79, 80, 81, 82, 83, 84, 85, 86, 87] (by decide +kernel) (by decide +kernel)
set_option maxRecDepth 20000 in
theorem gX12_hasHeard_X12_asNow : GoodIn wsX12_hasHeard (wsV RX12 318 RX12 yX12_asNow wsX12_asNow) := goodIn_app (goodIn_of _ (by decide +kernel)) ggX12_hasHeard_X12_asNow
set_option maxRecDepth 20000 in
theorem ggX12_hasHeard_X12_pastOf : GoodIn wsX12_hasHeard wsX12_pastOf := goodIn_r _ [17, 18, 19, 20, 5, 21, 1, 41, 42, 43, 44, 45, 46, 47, 48, 49, 50, 51, 52, 53, 54, 55, 56, 57, 58, 59, 60, 61, 62, 63, 64, 65, 66, 67, 68, 69, 70, 71, 72, 73, 74, 75, 76, 77, 78, 79, 80, 81, 82, 83, 84, 85, 86, 87] (by decide +kernel) (by decide +kernel)
set_option maxRecDepth 20000 in
theorem gX12_hasHeard_X12_pastOf : GoodIn wsX12_hasHeard (wsV RX12 324 RX12 yX12_pastOf wsX12_pastOf) := goodIn_app (goodIn_of _ (by decide +kernel)) ggX12_hasHeard_X12_pastOf
set_option maxRecDepth 20000 in
theorem ggX12_hasHeard_X12_canHear : GoodIn wsX12_hasHeard wsX12_canHear := goodIn_r _ [25, 1, 13, 11, 26, 27, 28, 5, 29, 12, 30, 31, 32, 33, 34, 35, 36, 37, 38, 39, 40, 41, 42, 43, 44, 45, 46, 47, 48, 49, 50, 51, 52, 53, 54, 55, 56, 57, 58, 59, 60, 61, 62, 63, 64, 65, 66, 67, 68, 69, 70, 71, 72, 73, 74, 75, 76, 77, 78, 79, 80, 81, 82, 83, 84, 85, 86, 87] (by decide +kernel) (by decide +kernel)
set_option maxRecDepth 20000 in
theorem gX12_hasHeard_X12_canHear : GoodIn wsX12_hasHeard (wsV RX12 293 RX12 yX12_canHear wsX12_canHear) := goodIn_app (goodIn_of _ (by decide +kernel)) ggX12_hasHeard_X12_canHear
theorem dX12_hasHeard_0 : decode cX12_hasHeard 0 = .ok (.aload_n 0, 1) := by decide +kernel
theorem dX12_hasHeard_1 : decode cX12_hasHeard 1 = .ok (.invokevirtual 318, 3) := by decide +kernel
theorem dX12_hasHeard_4 : decode cX12_hasHeard 4 = .ok (.aload_n 0, 1) := by decide +kernel
theorem dX12_hasHeard_5 : decode cX12_hasHeard 5 = .ok (.invokevirtual 324, 3) := by decide +kernel
theorem dX12_hasHeard_8 : decode cX12_hasHeard 8 = .ok (.istore_n 2, 1) := by decide +kernel
theorem dX12_hasHeard_9 : decode cX12_hasHeard 9 = .ok (.iconst 0, 1) := by decide +kernel
theorem dX12_hasHeard_10 : decode cX12_hasHeard 10 = .ok (.istore_n 3, 1) := by decide +kernel
theorem dX12_hasHeard_11 : decode cX12_hasHeard 11 = .ok (.iload_n 3, 1) := by decide +kernel
theorem dX12_hasHeard_12 : decode cX12_hasHeard 12 = .ok (.iload_n 2, 1) := by decide +kernel
theorem dX12_hasHeard_13 : decode cX12_hasHeard 13 = .ok (.if_icmp .ge 30, 3) := by decide +kernel
theorem dX12_hasHeard_16 : decode cX12_hasHeard 16 = .ok (.aload_n 0, 1) := by decide +kernel
theorem dX12_hasHeard_17 : decode cX12_hasHeard 17 = .ok (.iload_n 1, 1) := by decide +kernel
theorem dX12_hasHeard_18 : decode cX12_hasHeard 18 = .ok (.aload_n 0, 1) := by decide +kernel
theorem dX12_hasHeard_19 : decode cX12_hasHeard 19 = .ok (.getfield 33, 3) := by decide +kernel
theorem dX12_hasHeard_22 : decode cX12_hasHeard 22 = .ok (.sipush 212, 3) := by decide +kernel
theorem dX12_hasHeard_25 : decode cX12_hasHeard 25 = .ok (.iaload, 1) := by decide +kernel
theorem dX12_hasHeard_26 : decode cX12_hasHeard 26 = .ok (.iconst 1, 1) := by decide +kernel
theorem dX12_hasHeard_27 : decode cX12_hasHeard 27 = .ok (.isub, 1) := by decide +kernel
theorem dX12_hasHeard_28 : decode cX12_hasHeard 28 = .ok (.iload_n 3, 1) := by decide +kernel
theorem dX12_hasHeard_29 : decode cX12_hasHeard 29 = .ok (.invokevirtual 293, 3) := by decide +kernel
theorem dX12_hasHeard_32 : decode cX12_hasHeard 32 = .ok (.ifCond .eq 5, 3) := by decide +kernel
theorem dX12_hasHeard_35 : decode cX12_hasHeard 35 = .ok (.iconst 1, 1) := by decide +kernel
theorem dX12_hasHeard_36 : decode cX12_hasHeard 36 = .ok (.ireturn, 1) := by decide +kernel
theorem dX12_hasHeard_37 : decode cX12_hasHeard 37 = .ok (.iinc 3 1, 3) := by decide +kernel
theorem dX12_hasHeard_40 : decode cX12_hasHeard 40 = .ok (.goto (-29), 3) := by decide +kernel
theorem dX12_hasHeard_43 : decode cX12_hasHeard 43 = .ok (.iconst 0, 1) := by decide +kernel
theorem dX12_hasHeard_44 : decode cX12_hasHeard 44 = .ok (.ireturn, 1) := by decide +kernel
set_option maxRecDepth 20000 in
theorem ggX12_isLeaf_X12_isTrue : GoodIn wsX12_isLeaf wsX12_isTrue := goodIn_r _ [6, 1, 7, 8, 9, 5, 10, 11, 12, 13, 14, 15, 16, 17, 18, 19, 20, 21, 22, 23, 24, 25, 26, 27, 28, 29, 30, 31, 32, 33, 34, 35, 36, 49, 50, 51, 52, 53, 54, 55, 56, 57, 58, 59, 60, 61, 62, 63, 64, 65, 66, 67, 68, 69, 70, 71, 72, 73, 74, 75, 76, 77, 78, 79, 80, 81, 82, 83, 84, 85, 86, 87, 88, 89, 90, 91, 92, 93, 94, 95] (by decide +kernel) (by decide +kernel)
set_option maxRecDepth 20000 in
theorem gX12_isLeaf_X12_isTrue : GoodIn wsX12_isLeaf (wsV RX12 333 RX12 yX12_isTrue wsX12_isTrue) := goodIn_app (goodIn_of _ (by decide +kernel)) ggX12_isLeaf_X12_isTrue
set_option maxRecDepth 20000 in
theorem ggX12_isLeaf_X12_hasHeard : GoodIn wsX12_isLeaf wsX12_hasHeard := goodIn_r _ [40, 1, 7, 8, 9, 5, 10, 11, 12, 13, 14, 15, 16, 17, 41, 42, 43, 44, 45, 46, 47, 48, 18, 19, 20, 21, 22, 23, 24, 25, 26, 27, 28, 29, 30, 31, 32, 33, 34, 35, 36, 49, 50, 51, 52, 53, 54, 55, 56, 57, 58, 59, 60, 61, 62, 63, 64, 65, 66, 67, 68, 69, 70, 71, 72, 73, 74, 75, 76, 77, 78, 79, 80, 81, 82, 83, 84, 85, 86, 87, 88, 89, 90, 91, 92, 93, 94, 95] (by decide +kernel) (by decide +kernel)
set_option maxRecDepth 20000 in
theorem gX12_isLeaf_X12_hasHeard : GoodIn wsX12_isLeaf (wsV RX12 464 RX12 yX12_hasHeard wsX12_hasHeard) := goodIn_app (goodIn_of _ (by decide +kernel)) ggX12_isLeaf_X12_hasHeard
theorem dX12_isLeaf_0 : decode cX12_isLeaf 0 = .ok (.iload_n 2, 1) := by decide +kernel
theorem dX12_isLeaf_1 : decode cX12_isLeaf 1 = .ok (.tableswitch 149 0 5 #[39, 58, 76, 95, 122, 128], 39) := by decide +kernel
theorem dX12_isLeaf_40 : decode cX12_isLeaf 40 = .ok (.aload_n 0, 1) := by decide +kernel
theorem dX12_isLeaf_41 : decode cX12_isLeaf 41 = .ok (.getfield 33, 3) := by decide +kernel
theorem dX12_isLeaf_44 : decode cX12_isLeaf 44 = .ok (.bipush 55, 2) := by decide +kernel
theorem dX12_isLeaf_46 : decode cX12_isLeaf 46 = .ok (.iload_n 1, 1) := by decide +kernel
theorem dX12_isLeaf_47 : decode cX12_isLeaf 47 = .ok (.iadd, 1) := by decide +kernel
theorem dX12_isLeaf_48 : decode cX12_isLeaf 48 = .ok (.iaload, 1) := by decide +kernel
theorem dX12_isLeaf_49 : decode cX12_isLeaf 49 = .ok (.iconst 1, 1) := by decide +kernel
theorem dX12_isLeaf_50 : decode cX12_isLeaf 50 = .ok (.if_icmp .ne 7, 3) := by decide +kernel
theorem dX12_isLeaf_53 : decode cX12_isLeaf 53 = .ok (.iconst 1, 1) := by decide +kernel
theorem dX12_isLeaf_54 : decode cX12_isLeaf 54 = .ok (.goto 4, 3) := by decide +kernel
theorem dX12_isLeaf_57 : decode cX12_isLeaf 57 = .ok (.iconst 0, 1) := by decide +kernel
theorem dX12_isLeaf_58 : decode cX12_isLeaf 58 = .ok (.ireturn, 1) := by decide +kernel
theorem dX12_isLeaf_59 : decode cX12_isLeaf 59 = .ok (.aload_n 0, 1) := by decide +kernel
theorem dX12_isLeaf_60 : decode cX12_isLeaf 60 = .ok (.getfield 33, 3) := by decide +kernel
theorem dX12_isLeaf_63 : decode cX12_isLeaf 63 = .ok (.bipush 63, 2) := by decide +kernel
theorem dX12_isLeaf_65 : decode cX12_isLeaf 65 = .ok (.iload_n 1, 1) := by decide +kernel
theorem dX12_isLeaf_66 : decode cX12_isLeaf 66 = .ok (.iadd, 1) := by decide +kernel
theorem dX12_isLeaf_67 : decode cX12_isLeaf 67 = .ok (.iaload, 1) := by decide +kernel
theorem dX12_isLeaf_68 : decode cX12_isLeaf 68 = .ok (.ifCond .le 7, 3) := by decide +kernel
theorem dX12_isLeaf_71 : decode cX12_isLeaf 71 = .ok (.iconst 1, 1) := by decide +kernel
theorem dX12_isLeaf_72 : decode cX12_isLeaf 72 = .ok (.goto 4, 3) := by decide +kernel
theorem dX12_isLeaf_75 : decode cX12_isLeaf 75 = .ok (.iconst 0, 1) := by decide +kernel
theorem dX12_isLeaf_76 : decode cX12_isLeaf 76 = .ok (.ireturn, 1) := by decide +kernel
theorem dX12_isLeaf_77 : decode cX12_isLeaf 77 = .ok (.aload_n 0, 1) := by decide +kernel
theorem dX12_isLeaf_78 : decode cX12_isLeaf 78 = .ok (.getfield 33, 3) := by decide +kernel
theorem dX12_isLeaf_81 : decode cX12_isLeaf 81 = .ok (.sipush 230, 3) := by decide +kernel
theorem dX12_isLeaf_84 : decode cX12_isLeaf 84 = .ok (.iload_n 1, 1) := by decide +kernel
theorem dX12_isLeaf_85 : decode cX12_isLeaf 85 = .ok (.iadd, 1) := by decide +kernel
theorem dX12_isLeaf_86 : decode cX12_isLeaf 86 = .ok (.iaload, 1) := by decide +kernel
theorem dX12_isLeaf_87 : decode cX12_isLeaf 87 = .ok (.ifCond .le 7, 3) := by decide +kernel
theorem dX12_isLeaf_90 : decode cX12_isLeaf 90 = .ok (.iconst 1, 1) := by decide +kernel
theorem dX12_isLeaf_91 : decode cX12_isLeaf 91 = .ok (.goto 4, 3) := by decide +kernel
theorem dX12_isLeaf_94 : decode cX12_isLeaf 94 = .ok (.iconst 0, 1) := by decide +kernel
theorem dX12_isLeaf_95 : decode cX12_isLeaf 95 = .ok (.ireturn, 1) := by decide +kernel
theorem dX12_isLeaf_96 : decode cX12_isLeaf 96 = .ok (.aload_n 0, 1) := by decide +kernel
theorem dX12_isLeaf_97 : decode cX12_isLeaf 97 = .ok (.getfield 33, 3) := by decide +kernel
theorem dX12_isLeaf_100 : decode cX12_isLeaf 100 = .ok (.sipush 230, 3) := by decide +kernel
theorem dX12_isLeaf_103 : decode cX12_isLeaf 103 = .ok (.iload_n 1, 1) := by decide +kernel
theorem dX12_isLeaf_104 : decode cX12_isLeaf 104 = .ok (.iadd, 1) := by decide +kernel
theorem dX12_isLeaf_105 : decode cX12_isLeaf 105 = .ok (.iaload, 1) := by decide +kernel
theorem dX12_isLeaf_106 : decode cX12_isLeaf 106 = .ok (.ifCond .le 15, 3) := by decide +kernel
theorem dX12_isLeaf_109 : decode cX12_isLeaf 109 = .ok (.aload_n 0, 1) := by decide +kernel
theorem dX12_isLeaf_110 : decode cX12_isLeaf 110 = .ok (.iload_n 1, 1) := by decide +kernel
theorem dX12_isLeaf_111 : decode cX12_isLeaf 111 = .ok (.invokevirtual 333, 3) := by decide +kernel
theorem dX12_isLeaf_114 : decode cX12_isLeaf 114 = .ok (.ifCond .ne 7, 3) := by decide +kernel
theorem dX12_isLeaf_117 : decode cX12_isLeaf 117 = .ok (.iconst 1, 1) := by decide +kernel
theorem dX12_isLeaf_118 : decode cX12_isLeaf 118 = .ok (.goto 4, 3) := by decide +kernel
theorem dX12_isLeaf_121 : decode cX12_isLeaf 121 = .ok (.iconst 0, 1) := by decide +kernel
theorem dX12_isLeaf_122 : decode cX12_isLeaf 122 = .ok (.ireturn, 1) := by decide +kernel
theorem dX12_isLeaf_123 : decode cX12_isLeaf 123 = .ok (.aload_n 0, 1) := by decide +kernel
theorem dX12_isLeaf_124 : decode cX12_isLeaf 124 = .ok (.iload_n 1, 1) := by decide +kernel
theorem dX12_isLeaf_125 : decode cX12_isLeaf 125 = .ok (.invokevirtual 464, 3) := by decide +kernel
theorem dX12_isLeaf_128 : decode cX12_isLeaf 128 = .ok (.ireturn, 1) := by decide +kernel
theorem dX12_isLeaf_129 : decode cX12_isLeaf 129 = .ok (.aload_n 0, 1) := by decide +kernel
theorem dX12_isLeaf_130 : decode cX12_isLeaf 130 = .ok (.getfield 33, 3) := by decide +kernel
theorem dX12_isLeaf_133 : decode cX12_isLeaf 133 = .ok (.sipush 214, 3) := by decide +kernel
theorem dX12_isLeaf_136 : decode cX12_isLeaf 136 = .ok (.iload_n 1, 1) := by decide +kernel
theorem dX12_isLeaf_137 : decode cX12_isLeaf 137 = .ok (.iadd, 1) := by decide +kernel
theorem dX12_isLeaf_138 : decode cX12_isLeaf 138 = .ok (.iaload, 1) := by decide +kernel
theorem dX12_isLeaf_139 : decode cX12_isLeaf 139 = .ok (.iload 4, 2) := by decide +kernel
theorem dX12_isLeaf_141 : decode cX12_isLeaf 141 = .ok (.if_icmp .ne 7, 3) := by decide +kernel
theorem dX12_isLeaf_144 : decode cX12_isLeaf 144 = .ok (.iconst 1, 1) := by decide +kernel
theorem dX12_isLeaf_145 : decode cX12_isLeaf 145 = .ok (.goto 4, 3) := by decide +kernel
theorem dX12_isLeaf_148 : decode cX12_isLeaf 148 = .ok (.iconst 0, 1) := by decide +kernel
theorem dX12_isLeaf_149 : decode cX12_isLeaf 149 = .ok (.ireturn, 1) := by decide +kernel
theorem dX12_isLeaf_150 : decode cX12_isLeaf 150 = .ok (.iload_n 2, 1) := by decide +kernel
theorem dX12_isLeaf_151 : decode cX12_isLeaf 151 = .ok (.bipush 6, 2) := by decide +kernel
theorem dX12_isLeaf_153 : decode cX12_isLeaf 153 = .ok (.if_icmp .ne 16, 3) := by decide +kernel
theorem dX12_isLeaf_156 : decode cX12_isLeaf 156 = .ok (.aload_n 0, 1) := by decide +kernel
theorem dX12_isLeaf_157 : decode cX12_isLeaf 157 = .ok (.getfield 33, 3) := by decide +kernel
theorem dX12_isLeaf_160 : decode cX12_isLeaf 160 = .ok (.sipush 222, 3) := by decide +kernel
theorem dX12_isLeaf_163 : decode cX12_isLeaf 163 = .ok (.iload_n 1, 1) := by decide +kernel
theorem dX12_isLeaf_164 : decode cX12_isLeaf 164 = .ok (.iadd, 1) := by decide +kernel
theorem dX12_isLeaf_165 : decode cX12_isLeaf 165 = .ok (.iaload, 1) := by decide +kernel
theorem dX12_isLeaf_166 : decode cX12_isLeaf 166 = .ok (.goto 41, 3) := by decide +kernel
theorem dX12_isLeaf_169 : decode cX12_isLeaf 169 = .ok (.iload_n 2, 1) := by decide +kernel
theorem dX12_isLeaf_170 : decode cX12_isLeaf 170 = .ok (.bipush 7, 2) := by decide +kernel
theorem dX12_isLeaf_172 : decode cX12_isLeaf 172 = .ok (.if_icmp .ne 16, 3) := by decide +kernel
theorem dX12_isLeaf_175 : decode cX12_isLeaf 175 = .ok (.aload_n 0, 1) := by decide +kernel
theorem dX12_isLeaf_176 : decode cX12_isLeaf 176 = .ok (.getfield 33, 3) := by decide +kernel
theorem dX12_isLeaf_179 : decode cX12_isLeaf 179 = .ok (.sipush 238, 3) := by decide +kernel
theorem dX12_isLeaf_182 : decode cX12_isLeaf 182 = .ok (.iload_n 1, 1) := by decide +kernel
theorem dX12_isLeaf_183 : decode cX12_isLeaf 183 = .ok (.iadd, 1) := by decide +kernel
theorem dX12_isLeaf_184 : decode cX12_isLeaf 184 = .ok (.iaload, 1) := by decide +kernel
theorem dX12_isLeaf_185 : decode cX12_isLeaf 185 = .ok (.goto 22, 3) := by decide +kernel
theorem dX12_isLeaf_188 : decode cX12_isLeaf 188 = .ok (.iload_n 2, 1) := by decide +kernel
theorem dX12_isLeaf_189 : decode cX12_isLeaf 189 = .ok (.bipush 8, 2) := by decide +kernel
theorem dX12_isLeaf_191 : decode cX12_isLeaf 191 = .ok (.if_icmp .ne 15, 3) := by decide +kernel
theorem dX12_isLeaf_194 : decode cX12_isLeaf 194 = .ok (.aload_n 0, 1) := by decide +kernel
theorem dX12_isLeaf_195 : decode cX12_isLeaf 195 = .ok (.getfield 33, 3) := by decide +kernel
theorem dX12_isLeaf_198 : decode cX12_isLeaf 198 = .ok (.bipush 39, 2) := by decide +kernel
theorem dX12_isLeaf_200 : decode cX12_isLeaf 200 = .ok (.iload_n 1, 1) := by decide +kernel
theorem dX12_isLeaf_201 : decode cX12_isLeaf 201 = .ok (.iadd, 1) := by decide +kernel
theorem dX12_isLeaf_202 : decode cX12_isLeaf 202 = .ok (.iaload, 1) := by decide +kernel
theorem dX12_isLeaf_203 : decode cX12_isLeaf 203 = .ok (.goto 4, 3) := by decide +kernel
theorem dX12_isLeaf_206 : decode cX12_isLeaf 206 = .ok (.iload_n 1, 1) := by decide +kernel
theorem dX12_isLeaf_207 : decode cX12_isLeaf 207 = .ok (.istore 5, 2) := by decide +kernel
theorem dX12_isLeaf_209 : decode cX12_isLeaf 209 = .ok (.iload_n 3, 1) := by decide +kernel
theorem dX12_isLeaf_210 : decode cX12_isLeaf 210 = .ok (.bipush 60, 2) := by decide +kernel
theorem dX12_isLeaf_212 : decode cX12_isLeaf 212 = .ok (.if_icmp .ne 18, 3) := by decide +kernel
theorem dX12_isLeaf_215 : decode cX12_isLeaf 215 = .ok (.iload 5, 2) := by decide +kernel
theorem dX12_isLeaf_217 : decode cX12_isLeaf 217 = .ok (.iload 4, 2) := by decide +kernel
theorem dX12_isLeaf_219 : decode cX12_isLeaf 219 = .ok (.if_icmp .ge 7, 3) := by decide +kernel
theorem dX12_isLeaf_222 : decode cX12_isLeaf 222 = .ok (.iconst 1, 1) := by decide +kernel
theorem dX12_isLeaf_223 : decode cX12_isLeaf 223 = .ok (.goto 40, 3) := by decide +kernel
theorem dX12_isLeaf_226 : decode cX12_isLeaf 226 = .ok (.iconst 0, 1) := by decide +kernel
theorem dX12_isLeaf_227 : decode cX12_isLeaf 227 = .ok (.goto 36, 3) := by decide +kernel
theorem dX12_isLeaf_230 : decode cX12_isLeaf 230 = .ok (.iload_n 3, 1) := by decide +kernel
theorem dX12_isLeaf_231 : decode cX12_isLeaf 231 = .ok (.bipush 61, 2) := by decide +kernel
theorem dX12_isLeaf_233 : decode cX12_isLeaf 233 = .ok (.if_icmp .ne 18, 3) := by decide +kernel
theorem dX12_isLeaf_236 : decode cX12_isLeaf 236 = .ok (.iload 5, 2) := by decide +kernel
theorem dX12_isLeaf_238 : decode cX12_isLeaf 238 = .ok (.iload 4, 2) := by decide +kernel
theorem dX12_isLeaf_240 : decode cX12_isLeaf 240 = .ok (.if_icmp .ne 7, 3) := by decide +kernel
theorem dX12_isLeaf_243 : decode cX12_isLeaf 243 = .ok (.iconst 1, 1) := by decide +kernel
theorem dX12_isLeaf_244 : decode cX12_isLeaf 244 = .ok (.goto 19, 3) := by decide +kernel
theorem dX12_isLeaf_247 : decode cX12_isLeaf 247 = .ok (.iconst 0, 1) := by decide +kernel
theorem dX12_isLeaf_248 : decode cX12_isLeaf 248 = .ok (.goto 15, 3) := by decide +kernel
theorem dX12_isLeaf_251 : decode cX12_isLeaf 251 = .ok (.iload 5, 2) := by decide +kernel
theorem dX12_isLeaf_253 : decode cX12_isLeaf 253 = .ok (.iload 4, 2) := by decide +kernel
theorem dX12_isLeaf_255 : decode cX12_isLeaf 255 = .ok (.if_icmp .le 7, 3) := by decide +kernel
theorem dX12_isLeaf_258 : decode cX12_isLeaf 258 = .ok (.iconst 1, 1) := by decide +kernel
theorem dX12_isLeaf_259 : decode cX12_isLeaf 259 = .ok (.goto 4, 3) := by decide +kernel
theorem dX12_isLeaf_262 : decode cX12_isLeaf 262 = .ok (.iconst 0, 1) := by decide +kernel
theorem dX12_isLeaf_263 : decode cX12_isLeaf 263 = .ok (.ireturn, 1) := by decide +kernel
set_option maxRecDepth 20000 in
theorem ggX12_isSaid_X12_isLeaf : GoodIn wsX12_isSaid wsX12_isLeaf := goodIn_r _ [7, 1, 8, 9, 10, 6, 11, 12, 13, 14, 15, 16, 17, 18, 19, 20, 21, 22, 23, 24, 25, 26, 27, 28, 29, 30, 31, 32, 33, 34, 35, 36, 37, 38, 39, 40, 41, 42, 43, 44, 45, 46, 47, 48, 49, 50, 51, 52, 53, 54, 55, 56, 57, 58, 59, 60, 61, 62, 63, 64, 65, 66, 67, 68, 69, 70, 71, 72, 73, 74, 75, 76, 77, 78, 79, 80, 81, 82, 83, 84, 85, 86, 87, 88, 89, 90, 91, 92, 93, 94, 95, 96, 97, 98, 99, 100] (by decide +kernel) (by decide +kernel)
set_option maxRecDepth 20000 in
theorem gX12_isSaid_X12_isLeaf : GoodIn wsX12_isSaid (wsV RX12 467 RX12 yX12_isLeaf wsX12_isLeaf) := goodIn_app (goodIn_of _ (by decide +kernel)) ggX12_isSaid_X12_isLeaf
theorem dX12_isSaid_0 : decode cX12_isSaid 0 = .ok (.iconst 0, 1) := by decide +kernel
theorem dX12_isSaid_1 : decode cX12_isSaid 1 = .ok (.istore_n 2, 1) := by decide +kernel
theorem dX12_isSaid_2 : decode cX12_isSaid 2 = .ok (.iconst 0, 1) := by decide +kernel
theorem dX12_isSaid_3 : decode cX12_isSaid 3 = .ok (.istore_n 3, 1) := by decide +kernel
theorem dX12_isSaid_4 : decode cX12_isSaid 4 = .ok (.iload_n 3, 1) := by decide +kernel
theorem dX12_isSaid_5 : decode cX12_isSaid 5 = .ok (.aload_n 0, 1) := by decide +kernel
theorem dX12_isSaid_6 : decode cX12_isSaid 6 = .ok (.getfield 33, 3) := by decide +kernel
theorem dX12_isSaid_9 : decode cX12_isSaid 9 = .ok (.sipush 246, 3) := by decide +kernel
theorem dX12_isSaid_12 : decode cX12_isSaid 12 = .ok (.iaload, 1) := by decide +kernel
theorem dX12_isSaid_13 : decode cX12_isSaid 13 = .ok (.if_icmp .ge 199, 3) := by decide +kernel
theorem dX12_isSaid_16 : decode cX12_isSaid 16 = .ok (.sipush 247, 3) := by decide +kernel
theorem dX12_isSaid_19 : decode cX12_isSaid 19 = .ok (.iconst 3, 1) := by decide +kernel
theorem dX12_isSaid_20 : decode cX12_isSaid 20 = .ok (.iload_n 3, 1) := by decide +kernel
theorem dX12_isSaid_21 : decode cX12_isSaid 21 = .ok (.imul, 1) := by decide +kernel
theorem dX12_isSaid_22 : decode cX12_isSaid 22 = .ok (.iadd, 1) := by decide +kernel
theorem dX12_isSaid_23 : decode cX12_isSaid 23 = .ok (.istore 4, 2) := by decide +kernel
theorem dX12_isSaid_25 : decode cX12_isSaid 25 = .ok (.aload_n 0, 1) := by decide +kernel
theorem dX12_isSaid_26 : decode cX12_isSaid 26 = .ok (.getfield 33, 3) := by decide +kernel
theorem dX12_isSaid_29 : decode cX12_isSaid 29 = .ok (.iload 4, 2) := by decide +kernel
theorem dX12_isSaid_31 : decode cX12_isSaid 31 = .ok (.iaload, 1) := by decide +kernel
theorem dX12_isSaid_32 : decode cX12_isSaid 32 = .ok (.bipush 20, 2) := by decide +kernel
theorem dX12_isSaid_34 : decode cX12_isSaid 34 = .ok (.if_icmp .ne 30, 3) := by decide +kernel
theorem dX12_isSaid_37 : decode cX12_isSaid 37 = .ok (.aload_n 0, 1) := by decide +kernel
theorem dX12_isSaid_38 : decode cX12_isSaid 38 = .ok (.getfield 74, 3) := by decide +kernel
theorem dX12_isSaid_41 : decode cX12_isSaid 41 = .ok (.iload_n 2, 1) := by decide +kernel
theorem dX12_isSaid_42 : decode cX12_isSaid 42 = .ok (.iconst 1, 1) := by decide +kernel
theorem dX12_isSaid_43 : decode cX12_isSaid 43 = .ok (.isub, 1) := by decide +kernel
theorem dX12_isSaid_44 : decode cX12_isSaid 44 = .ok (.aload_n 0, 1) := by decide +kernel
theorem dX12_isSaid_45 : decode cX12_isSaid 45 = .ok (.getfield 74, 3) := by decide +kernel
theorem dX12_isSaid_48 : decode cX12_isSaid 48 = .ok (.iload_n 2, 1) := by decide +kernel
theorem dX12_isSaid_49 : decode cX12_isSaid 49 = .ok (.iconst 1, 1) := by decide +kernel
theorem dX12_isSaid_50 : decode cX12_isSaid 50 = .ok (.isub, 1) := by decide +kernel
theorem dX12_isSaid_51 : decode cX12_isSaid 51 = .ok (.baload, 1) := by decide +kernel
theorem dX12_isSaid_52 : decode cX12_isSaid 52 = .ok (.ifCond .ne 7, 3) := by decide +kernel
theorem dX12_isSaid_55 : decode cX12_isSaid 55 = .ok (.iconst 1, 1) := by decide +kernel
theorem dX12_isSaid_56 : decode cX12_isSaid 56 = .ok (.goto 4, 3) := by decide +kernel
theorem dX12_isSaid_59 : decode cX12_isSaid 59 = .ok (.iconst 0, 1) := by decide +kernel
theorem dX12_isSaid_60 : decode cX12_isSaid 60 = .ok (.bastore, 1) := by decide +kernel
theorem dX12_isSaid_61 : decode cX12_isSaid 61 = .ok (.goto 145, 3) := by decide +kernel
theorem dX12_isSaid_64 : decode cX12_isSaid 64 = .ok (.aload_n 0, 1) := by decide +kernel
theorem dX12_isSaid_65 : decode cX12_isSaid 65 = .ok (.getfield 33, 3) := by decide +kernel
theorem dX12_isSaid_68 : decode cX12_isSaid 68 = .ok (.iload 4, 2) := by decide +kernel
theorem dX12_isSaid_70 : decode cX12_isSaid 70 = .ok (.iaload, 1) := by decide +kernel
theorem dX12_isSaid_71 : decode cX12_isSaid 71 = .ok (.bipush 21, 2) := by decide +kernel
theorem dX12_isSaid_73 : decode cX12_isSaid 73 = .ok (.if_icmp .eq 15, 3) := by decide +kernel
theorem dX12_isSaid_76 : decode cX12_isSaid 76 = .ok (.aload_n 0, 1) := by decide +kernel
theorem dX12_isSaid_77 : decode cX12_isSaid 77 = .ok (.getfield 33, 3) := by decide +kernel
theorem dX12_isSaid_80 : decode cX12_isSaid 80 = .ok (.iload 4, 2) := by decide +kernel
theorem dX12_isSaid_82 : decode cX12_isSaid 82 = .ok (.iaload, 1) := by decide +kernel
theorem dX12_isSaid_83 : decode cX12_isSaid 83 = .ok (.bipush 22, 2) := by decide +kernel
theorem dX12_isSaid_85 : decode cX12_isSaid 85 = .ok (.if_icmp .ne 82, 3) := by decide +kernel
theorem dX12_isSaid_88 : decode cX12_isSaid 88 = .ok (.iinc 2 (-1), 3) := by decide +kernel
theorem dX12_isSaid_91 : decode cX12_isSaid 91 = .ok (.aload_n 0, 1) := by decide +kernel
theorem dX12_isSaid_92 : decode cX12_isSaid 92 = .ok (.getfield 74, 3) := by decide +kernel
theorem dX12_isSaid_95 : decode cX12_isSaid 95 = .ok (.iload_n 2, 1) := by decide +kernel
theorem dX12_isSaid_96 : decode cX12_isSaid 96 = .ok (.iconst 1, 1) := by decide +kernel
theorem dX12_isSaid_97 : decode cX12_isSaid 97 = .ok (.isub, 1) := by decide +kernel
theorem dX12_isSaid_98 : decode cX12_isSaid 98 = .ok (.aload_n 0, 1) := by decide +kernel
theorem dX12_isSaid_99 : decode cX12_isSaid 99 = .ok (.getfield 33, 3) := by decide +kernel
theorem dX12_isSaid_102 : decode cX12_isSaid 102 = .ok (.iload 4, 2) := by decide +kernel
theorem dX12_isSaid_104 : decode cX12_isSaid 104 = .ok (.iaload, 1) := by decide +kernel
theorem dX12_isSaid_105 : decode cX12_isSaid 105 = .ok (.bipush 21, 2) := by decide +kernel
theorem dX12_isSaid_107 : decode cX12_isSaid 107 = .ok (.if_icmp .ne 31, 3) := by decide +kernel
theorem dX12_isSaid_110 : decode cX12_isSaid 110 = .ok (.aload_n 0, 1) := by decide +kernel
theorem dX12_isSaid_111 : decode cX12_isSaid 111 = .ok (.getfield 74, 3) := by decide +kernel
theorem dX12_isSaid_114 : decode cX12_isSaid 114 = .ok (.iload_n 2, 1) := by decide +kernel
theorem dX12_isSaid_115 : decode cX12_isSaid 115 = .ok (.iconst 1, 1) := by decide +kernel
theorem dX12_isSaid_116 : decode cX12_isSaid 116 = .ok (.isub, 1) := by decide +kernel
theorem dX12_isSaid_117 : decode cX12_isSaid 117 = .ok (.baload, 1) := by decide +kernel
theorem dX12_isSaid_118 : decode cX12_isSaid 118 = .ok (.ifCond .eq 16, 3) := by decide +kernel
theorem dX12_isSaid_121 : decode cX12_isSaid 121 = .ok (.aload_n 0, 1) := by decide +kernel
theorem dX12_isSaid_122 : decode cX12_isSaid 122 = .ok (.getfield 74, 3) := by decide +kernel
theorem dX12_isSaid_125 : decode cX12_isSaid 125 = .ok (.iload_n 2, 1) := by decide +kernel
theorem dX12_isSaid_126 : decode cX12_isSaid 126 = .ok (.baload, 1) := by decide +kernel
theorem dX12_isSaid_127 : decode cX12_isSaid 127 = .ok (.ifCond .eq 7, 3) := by decide +kernel
theorem dX12_isSaid_130 : decode cX12_isSaid 130 = .ok (.iconst 1, 1) := by decide +kernel
theorem dX12_isSaid_131 : decode cX12_isSaid 131 = .ok (.goto 32, 3) := by decide +kernel
theorem dX12_isSaid_134 : decode cX12_isSaid 134 = .ok (.iconst 0, 1) := by decide +kernel
theorem dX12_isSaid_135 : decode cX12_isSaid 135 = .ok (.goto 28, 3) := by decide +kernel
theorem dX12_isSaid_138 : decode cX12_isSaid 138 = .ok (.aload_n 0, 1) := by decide +kernel
theorem dX12_isSaid_139 : decode cX12_isSaid 139 = .ok (.getfield 74, 3) := by decide +kernel
theorem dX12_isSaid_142 : decode cX12_isSaid 142 = .ok (.iload_n 2, 1) := by decide +kernel
theorem dX12_isSaid_143 : decode cX12_isSaid 143 = .ok (.iconst 1, 1) := by decide +kernel
theorem dX12_isSaid_144 : decode cX12_isSaid 144 = .ok (.isub, 1) := by decide +kernel
theorem dX12_isSaid_145 : decode cX12_isSaid 145 = .ok (.baload, 1) := by decide +kernel
theorem dX12_isSaid_146 : decode cX12_isSaid 146 = .ok (.ifCond .ne 12, 3) := by decide +kernel
theorem dX12_isSaid_149 : decode cX12_isSaid 149 = .ok (.aload_n 0, 1) := by decide +kernel
theorem dX12_isSaid_150 : decode cX12_isSaid 150 = .ok (.getfield 74, 3) := by decide +kernel
theorem dX12_isSaid_153 : decode cX12_isSaid 153 = .ok (.iload_n 2, 1) := by decide +kernel
theorem dX12_isSaid_154 : decode cX12_isSaid 154 = .ok (.baload, 1) := by decide +kernel
theorem dX12_isSaid_155 : decode cX12_isSaid 155 = .ok (.ifCond .eq 7, 3) := by decide +kernel
theorem dX12_isSaid_158 : decode cX12_isSaid 158 = .ok (.iconst 1, 1) := by decide +kernel
theorem dX12_isSaid_159 : decode cX12_isSaid 159 = .ok (.goto 4, 3) := by decide +kernel
theorem dX12_isSaid_162 : decode cX12_isSaid 162 = .ok (.iconst 0, 1) := by decide +kernel
theorem dX12_isSaid_163 : decode cX12_isSaid 163 = .ok (.bastore, 1) := by decide +kernel
theorem dX12_isSaid_164 : decode cX12_isSaid 164 = .ok (.goto 42, 3) := by decide +kernel
theorem dX12_isSaid_167 : decode cX12_isSaid 167 = .ok (.aload_n 0, 1) := by decide +kernel
theorem dX12_isSaid_168 : decode cX12_isSaid 168 = .ok (.getfield 74, 3) := by decide +kernel
theorem dX12_isSaid_171 : decode cX12_isSaid 171 = .ok (.iload_n 2, 1) := by decide +kernel
theorem dX12_isSaid_172 : decode cX12_isSaid 172 = .ok (.aload_n 0, 1) := by decide +kernel
theorem dX12_isSaid_173 : decode cX12_isSaid 173 = .ok (.iload_n 1, 1) := by decide +kernel
theorem dX12_isSaid_174 : decode cX12_isSaid 174 = .ok (.aload_n 0, 1) := by decide +kernel
theorem dX12_isSaid_175 : decode cX12_isSaid 175 = .ok (.getfield 33, 3) := by decide +kernel
theorem dX12_isSaid_178 : decode cX12_isSaid 178 = .ok (.iload 4, 2) := by decide +kernel
theorem dX12_isSaid_180 : decode cX12_isSaid 180 = .ok (.iaload, 1) := by decide +kernel
theorem dX12_isSaid_181 : decode cX12_isSaid 181 = .ok (.aload_n 0, 1) := by decide +kernel
theorem dX12_isSaid_182 : decode cX12_isSaid 182 = .ok (.getfield 33, 3) := by decide +kernel
theorem dX12_isSaid_185 : decode cX12_isSaid 185 = .ok (.iload 4, 2) := by decide +kernel
theorem dX12_isSaid_187 : decode cX12_isSaid 187 = .ok (.iconst 1, 1) := by decide +kernel
theorem dX12_isSaid_188 : decode cX12_isSaid 188 = .ok (.iadd, 1) := by decide +kernel
theorem dX12_isSaid_189 : decode cX12_isSaid 189 = .ok (.iaload, 1) := by decide +kernel
theorem dX12_isSaid_190 : decode cX12_isSaid 190 = .ok (.aload_n 0, 1) := by decide +kernel
theorem dX12_isSaid_191 : decode cX12_isSaid 191 = .ok (.getfield 33, 3) := by decide +kernel
theorem dX12_isSaid_194 : decode cX12_isSaid 194 = .ok (.iload 4, 2) := by decide +kernel
theorem dX12_isSaid_196 : decode cX12_isSaid 196 = .ok (.iconst 2, 1) := by decide +kernel
theorem dX12_isSaid_197 : decode cX12_isSaid 197 = .ok (.iadd, 1) := by decide +kernel
theorem dX12_isSaid_198 : decode cX12_isSaid 198 = .ok (.iaload, 1) := by decide +kernel
theorem dX12_isSaid_199 : decode cX12_isSaid 199 = .ok (.invokevirtual 467, 3) := by decide +kernel
theorem dX12_isSaid_202 : decode cX12_isSaid 202 = .ok (.bastore, 1) := by decide +kernel
theorem dX12_isSaid_203 : decode cX12_isSaid 203 = .ok (.iinc 2 1, 3) := by decide +kernel
theorem dX12_isSaid_206 : decode cX12_isSaid 206 = .ok (.iinc 3 1, 3) := by decide +kernel
theorem dX12_isSaid_209 : decode cX12_isSaid 209 = .ok (.goto (-205), 3) := by decide +kernel
theorem dX12_isSaid_212 : decode cX12_isSaid 212 = .ok (.aload_n 0, 1) := by decide +kernel
theorem dX12_isSaid_213 : decode cX12_isSaid 213 = .ok (.getfield 74, 3) := by decide +kernel
theorem dX12_isSaid_216 : decode cX12_isSaid 216 = .ok (.iconst 0, 1) := by decide +kernel
theorem dX12_isSaid_217 : decode cX12_isSaid 217 = .ok (.baload, 1) := by decide +kernel
theorem dX12_isSaid_218 : decode cX12_isSaid 218 = .ok (.ireturn, 1) := by decide +kernel
set_option maxRecDepth 20000 in
theorem ggX12_said_X12_isSaid : GoodIn wsX12_said wsX12_isSaid := goodIn_r _ [7, 2, 8, 9, 10, 11, 6, 12, 13, 14, 15, 16, 17, 18, 19, 20, 21, 22, 23, 24, 25, 26, 27, 28, 29, 30, 31, 32, 33, 34, 35, 36, 37, 38, 39, 40, 41, 42, 43, 44, 45, 46, 47, 48, 49, 50, 51, 52, 53, 54, 55, 56, 57, 58, 59, 60, 61, 62, 63, 64, 65, 66, 67, 68, 69, 70, 71, 72, 73, 74, 75, 76, 77, 78, 79, 80, 81, 82, 83, 84, 85, 86, 87, 88, 89, 90, 91, 92, 93, 94, 95, 96, 97, 98, 99, 100, 101, 102, 103, 104, 105] (by decide +kernel) (by decide +kernel)
set_option maxRecDepth 20000 in
theorem gX12_said_X12_isSaid : GoodIn wsX12_said (wsV RX12 471 RX12 yX12_isSaid wsX12_isSaid) := goodIn_app (goodIn_of _ (by decide +kernel)) ggX12_said_X12_isSaid
theorem dX12_said_0 : decode cX12_said 0 = .ok (.aload_n 0, 1) := by decide +kernel
theorem dX12_said_1 : decode cX12_said 1 = .ok (.iconst 0, 1) := by decide +kernel
theorem dX12_said_2 : decode cX12_said 2 = .ok (.putfield 1, 3) := by decide +kernel
theorem dX12_said_5 : decode cX12_said 5 = .ok (.aload_n 0, 1) := by decide +kernel
theorem dX12_said_6 : decode cX12_said 6 = .ok (.getfield 33, 3) := by decide +kernel
theorem dX12_said_9 : decode cX12_said 9 = .ok (.sipush 246, 3) := by decide +kernel
theorem dX12_said_12 : decode cX12_said 12 = .ok (.iaload, 1) := by decide +kernel
theorem dX12_said_13 : decode cX12_said 13 = .ok (.ifCond .eq 8, 3) := by decide +kernel
theorem dX12_said_16 : decode cX12_said 16 = .ok (.iload_n 1, 1) := by decide +kernel
theorem dX12_said_17 : decode cX12_said 17 = .ok (.iconst (-1), 1) := by decide +kernel
theorem dX12_said_18 : decode cX12_said 18 = .ok (.if_icmp .ge 5, 3) := by decide +kernel
theorem dX12_said_21 : decode cX12_said 21 = .ok (.iconst (-1), 1) := by decide +kernel
theorem dX12_said_22 : decode cX12_said 22 = .ok (.ireturn, 1) := by decide +kernel
theorem dX12_said_23 : decode cX12_said 23 = .ok (.iconst 0, 1) := by decide +kernel
theorem dX12_said_24 : decode cX12_said 24 = .ok (.istore_n 2, 1) := by decide +kernel
theorem dX12_said_25 : decode cX12_said 25 = .ok (.iconst 0, 1) := by decide +kernel
theorem dX12_said_26 : decode cX12_said 26 = .ok (.istore_n 3, 1) := by decide +kernel
theorem dX12_said_27 : decode cX12_said 27 = .ok (.iload_n 3, 1) := by decide +kernel
theorem dX12_said_28 : decode cX12_said 28 = .ok (.aload_n 0, 1) := by decide +kernel
theorem dX12_said_29 : decode cX12_said 29 = .ok (.getfield 33, 3) := by decide +kernel
theorem dX12_said_32 : decode cX12_said 32 = .ok (.iconst 1, 1) := by decide +kernel
theorem dX12_said_33 : decode cX12_said 33 = .ok (.iaload, 1) := by decide +kernel
theorem dX12_said_34 : decode cX12_said 34 = .ok (.if_icmp .ge 30, 3) := by decide +kernel
theorem dX12_said_37 : decode cX12_said 37 = .ok (.aload_n 0, 1) := by decide +kernel
theorem dX12_said_38 : decode cX12_said 38 = .ok (.iload_n 3, 1) := by decide +kernel
theorem dX12_said_39 : decode cX12_said 39 = .ok (.invokevirtual 471, 3) := by decide +kernel
theorem dX12_said_42 : decode cX12_said 42 = .ok (.ifCond .ne 6, 3) := by decide +kernel
theorem dX12_said_45 : decode cX12_said 45 = .ok (.goto 13, 3) := by decide +kernel
theorem dX12_said_48 : decode cX12_said 48 = .ok (.iload_n 2, 1) := by decide +kernel
theorem dX12_said_49 : decode cX12_said 49 = .ok (.iload_n 1, 1) := by decide +kernel
theorem dX12_said_50 : decode cX12_said 50 = .ok (.if_icmp .ne 5, 3) := by decide +kernel
theorem dX12_said_53 : decode cX12_said 53 = .ok (.iload_n 3, 1) := by decide +kernel
theorem dX12_said_54 : decode cX12_said 54 = .ok (.ireturn, 1) := by decide +kernel
theorem dX12_said_55 : decode cX12_said 55 = .ok (.iinc 2 1, 3) := by decide +kernel
theorem dX12_said_58 : decode cX12_said 58 = .ok (.iinc 3 1, 3) := by decide +kernel
theorem dX12_said_61 : decode cX12_said 61 = .ok (.goto (-34), 3) := by decide +kernel
theorem dX12_said_64 : decode cX12_said 64 = .ok (.iload_n 1, 1) := by decide +kernel
theorem dX12_said_65 : decode cX12_said 65 = .ok (.iconst (-1), 1) := by decide +kernel
theorem dX12_said_66 : decode cX12_said 66 = .ok (.if_icmp .ne 7, 3) := by decide +kernel
theorem dX12_said_69 : decode cX12_said 69 = .ok (.iload_n 2, 1) := by decide +kernel
theorem dX12_said_70 : decode cX12_said 70 = .ok (.goto 4, 3) := by decide +kernel
theorem dX12_said_73 : decode cX12_said 73 = .ok (.iconst (-1), 1) := by decide +kernel
theorem dX12_said_74 : decode cX12_said 74 = .ok (.ireturn, 1) := by decide +kernel
set_option maxRecDepth 20000 in
theorem ggX12_image_X12_isIn : GoodIn wsX12_image wsX12_isIn := goodIn_r _ [10] (by decide +kernel) (by decide +kernel)
set_option maxRecDepth 20000 in
theorem gX12_image_X12_isIn : GoodIn wsX12_image (va_wsS RX12 191 yX12_isIn wsX12_isIn) := goodIn_app (goodIn_of _ (by decide +kernel)) ggX12_image_X12_isIn
theorem dX12_image_0 : decode cX12_image 0 = .ok (.aload_n 0, 1) := by decide +kernel
theorem dX12_image_1 : decode cX12_image 1 = .ok (.iconst 0, 1) := by decide +kernel
theorem dX12_image_2 : decode cX12_image 2 = .ok (.putfield 1, 3) := by decide +kernel
theorem dX12_image_5 : decode cX12_image 5 = .ok (.iload_n 1, 1) := by decide +kernel
theorem dX12_image_6 : decode cX12_image 6 = .ok (.iconst 0, 1) := by decide +kernel
theorem dX12_image_7 : decode cX12_image 7 = .ok (.iconst 1, 1) := by decide +kernel
theorem dX12_image_8 : decode cX12_image 8 = .ok (.invokestatic 191, 3) := by decide +kernel
theorem dX12_image_11 : decode cX12_image 11 = .ok (.ifCond .ne 5, 3) := by decide +kernel
theorem dX12_image_14 : decode cX12_image 14 = .ok (.iconst 0, 1) := by decide +kernel
theorem dX12_image_15 : decode cX12_image 15 = .ok (.ireturn, 1) := by decide +kernel
theorem dX12_image_16 : decode cX12_image 16 = .ok (.iconst 0, 1) := by decide +kernel
theorem dX12_image_17 : decode cX12_image 17 = .ok (.istore_n 2, 1) := by decide +kernel
theorem dX12_image_18 : decode cX12_image 18 = .ok (.iload_n 2, 1) := by decide +kernel
theorem dX12_image_19 : decode cX12_image 19 = .ok (.sipush 427, 3) := by decide +kernel
theorem dX12_image_22 : decode cX12_image 22 = .ok (.if_icmp .ge 27, 3) := by decide +kernel
theorem dX12_image_25 : decode cX12_image 25 = .ok (.aload_n 0, 1) := by decide +kernel
theorem dX12_image_26 : decode cX12_image 26 = .ok (.getfield 78, 3) := by decide +kernel
theorem dX12_image_29 : decode cX12_image 29 = .ok (.sipush 427, 3) := by decide +kernel
theorem dX12_image_32 : decode cX12_image 32 = .ok (.iload_n 1, 1) := by decide +kernel
theorem dX12_image_33 : decode cX12_image 33 = .ok (.imul, 1) := by decide +kernel
theorem dX12_image_34 : decode cX12_image 34 = .ok (.iload_n 2, 1) := by decide +kernel
theorem dX12_image_35 : decode cX12_image 35 = .ok (.iadd, 1) := by decide +kernel
theorem dX12_image_36 : decode cX12_image 36 = .ok (.aload_n 0, 1) := by decide +kernel
theorem dX12_image_37 : decode cX12_image 37 = .ok (.getfield 33, 3) := by decide +kernel
theorem dX12_image_40 : decode cX12_image 40 = .ok (.iload_n 2, 1) := by decide +kernel
theorem dX12_image_41 : decode cX12_image 41 = .ok (.iaload, 1) := by decide +kernel
theorem dX12_image_42 : decode cX12_image 42 = .ok (.iastore, 1) := by decide +kernel
theorem dX12_image_43 : decode cX12_image 43 = .ok (.iinc 2 1, 3) := by decide +kernel
theorem dX12_image_46 : decode cX12_image 46 = .ok (.goto (-28), 3) := by decide +kernel
theorem dX12_image_49 : decode cX12_image 49 = .ok (.iconst 0, 1) := by decide +kernel
theorem dX12_image_50 : decode cX12_image 50 = .ok (.istore_n 2, 1) := by decide +kernel
theorem dX12_image_51 : decode cX12_image 51 = .ok (.iload_n 2, 1) := by decide +kernel
theorem dX12_image_52 : decode cX12_image 52 = .ok (.bipush 16, 2) := by decide +kernel
theorem dX12_image_54 : decode cX12_image 54 = .ok (.if_icmp .ge 26, 3) := by decide +kernel
theorem dX12_image_57 : decode cX12_image 57 = .ok (.aload_n 0, 1) := by decide +kernel
theorem dX12_image_58 : decode cX12_image 58 = .ok (.getfield 81, 3) := by decide +kernel
theorem dX12_image_61 : decode cX12_image 61 = .ok (.bipush 16, 2) := by decide +kernel
theorem dX12_image_63 : decode cX12_image 63 = .ok (.iload_n 1, 1) := by decide +kernel
theorem dX12_image_64 : decode cX12_image 64 = .ok (.imul, 1) := by decide +kernel
theorem dX12_image_65 : decode cX12_image 65 = .ok (.iload_n 2, 1) := by decide +kernel
theorem dX12_image_66 : decode cX12_image 66 = .ok (.iadd, 1) := by decide +kernel
theorem dX12_image_67 : decode cX12_image 67 = .ok (.aload_n 0, 1) := by decide +kernel
theorem dX12_image_68 : decode cX12_image 68 = .ok (.getfield 43, 3) := by decide +kernel
theorem dX12_image_71 : decode cX12_image 71 = .ok (.iload_n 2, 1) := by decide +kernel
theorem dX12_image_72 : decode cX12_image 72 = .ok (.laload, 1) := by decide +kernel
theorem dX12_image_73 : decode cX12_image 73 = .ok (.lastore, 1) := by decide +kernel
theorem dX12_image_74 : decode cX12_image 74 = .ok (.iinc 2 1, 3) := by decide +kernel
theorem dX12_image_77 : decode cX12_image 77 = .ok (.goto (-26), 3) := by decide +kernel
theorem dX12_image_80 : decode cX12_image 80 = .ok (.aload_n 0, 1) := by decide +kernel
theorem dX12_image_81 : decode cX12_image 81 = .ok (.getfield 84, 3) := by decide +kernel
theorem dX12_image_84 : decode cX12_image 84 = .ok (.iload_n 1, 1) := by decide +kernel
theorem dX12_image_85 : decode cX12_image 85 = .ok (.iconst 1, 1) := by decide +kernel
theorem dX12_image_86 : decode cX12_image 86 = .ok (.bastore, 1) := by decide +kernel
theorem dX12_image_87 : decode cX12_image 87 = .ok (.iconst 1, 1) := by decide +kernel
theorem dX12_image_88 : decode cX12_image 88 = .ok (.ireturn, 1) := by decide +kernel
set_option maxRecDepth 20000 in
theorem ggX12_restore_X12_isIn : GoodIn wsX12_restore wsX12_isIn := goodIn_r _ [11] (by decide +kernel) (by decide +kernel)
set_option maxRecDepth 20000 in
theorem gX12_restore_X12_isIn : GoodIn wsX12_restore (va_wsS RX12 191 yX12_isIn wsX12_isIn) := goodIn_app (goodIn_of _ (by decide +kernel)) ggX12_restore_X12_isIn
theorem dX12_restore_0 : decode cX12_restore 0 = .ok (.aload_n 0, 1) := by decide +kernel
theorem dX12_restore_1 : decode cX12_restore 1 = .ok (.iconst 0, 1) := by decide +kernel
theorem dX12_restore_2 : decode cX12_restore 2 = .ok (.putfield 1, 3) := by decide +kernel
theorem dX12_restore_5 : decode cX12_restore 5 = .ok (.iload_n 1, 1) := by decide +kernel
theorem dX12_restore_6 : decode cX12_restore 6 = .ok (.iconst 0, 1) := by decide +kernel
theorem dX12_restore_7 : decode cX12_restore 7 = .ok (.iconst 1, 1) := by decide +kernel
theorem dX12_restore_8 : decode cX12_restore 8 = .ok (.invokestatic 191, 3) := by decide +kernel
theorem dX12_restore_11 : decode cX12_restore 11 = .ok (.ifCond .eq 12, 3) := by decide +kernel
theorem dX12_restore_14 : decode cX12_restore 14 = .ok (.aload_n 0, 1) := by decide +kernel
theorem dX12_restore_15 : decode cX12_restore 15 = .ok (.getfield 84, 3) := by decide +kernel
theorem dX12_restore_18 : decode cX12_restore 18 = .ok (.iload_n 1, 1) := by decide +kernel
theorem dX12_restore_19 : decode cX12_restore 19 = .ok (.baload, 1) := by decide +kernel
theorem dX12_restore_20 : decode cX12_restore 20 = .ok (.ifCond .ne 5, 3) := by decide +kernel
theorem dX12_restore_23 : decode cX12_restore 23 = .ok (.iconst 0, 1) := by decide +kernel
theorem dX12_restore_24 : decode cX12_restore 24 = .ok (.ireturn, 1) := by decide +kernel
theorem dX12_restore_25 : decode cX12_restore 25 = .ok (.iconst 0, 1) := by decide +kernel
theorem dX12_restore_26 : decode cX12_restore 26 = .ok (.istore_n 2, 1) := by decide +kernel
theorem dX12_restore_27 : decode cX12_restore 27 = .ok (.iload_n 2, 1) := by decide +kernel
theorem dX12_restore_28 : decode cX12_restore 28 = .ok (.sipush 427, 3) := by decide +kernel
theorem dX12_restore_31 : decode cX12_restore 31 = .ok (.if_icmp .ge 27, 3) := by decide +kernel
theorem dX12_restore_34 : decode cX12_restore 34 = .ok (.aload_n 0, 1) := by decide +kernel
theorem dX12_restore_35 : decode cX12_restore 35 = .ok (.getfield 33, 3) := by decide +kernel
theorem dX12_restore_38 : decode cX12_restore 38 = .ok (.iload_n 2, 1) := by decide +kernel
theorem dX12_restore_39 : decode cX12_restore 39 = .ok (.aload_n 0, 1) := by decide +kernel
theorem dX12_restore_40 : decode cX12_restore 40 = .ok (.getfield 78, 3) := by decide +kernel
theorem dX12_restore_43 : decode cX12_restore 43 = .ok (.sipush 427, 3) := by decide +kernel
theorem dX12_restore_46 : decode cX12_restore 46 = .ok (.iload_n 1, 1) := by decide +kernel
theorem dX12_restore_47 : decode cX12_restore 47 = .ok (.imul, 1) := by decide +kernel
theorem dX12_restore_48 : decode cX12_restore 48 = .ok (.iload_n 2, 1) := by decide +kernel
theorem dX12_restore_49 : decode cX12_restore 49 = .ok (.iadd, 1) := by decide +kernel
theorem dX12_restore_50 : decode cX12_restore 50 = .ok (.iaload, 1) := by decide +kernel
theorem dX12_restore_51 : decode cX12_restore 51 = .ok (.iastore, 1) := by decide +kernel
theorem dX12_restore_52 : decode cX12_restore 52 = .ok (.iinc 2 1, 3) := by decide +kernel
theorem dX12_restore_55 : decode cX12_restore 55 = .ok (.goto (-28), 3) := by decide +kernel
theorem dX12_restore_58 : decode cX12_restore 58 = .ok (.iconst 0, 1) := by decide +kernel
theorem dX12_restore_59 : decode cX12_restore 59 = .ok (.istore_n 2, 1) := by decide +kernel
theorem dX12_restore_60 : decode cX12_restore 60 = .ok (.iload_n 2, 1) := by decide +kernel
theorem dX12_restore_61 : decode cX12_restore 61 = .ok (.bipush 16, 2) := by decide +kernel
theorem dX12_restore_63 : decode cX12_restore 63 = .ok (.if_icmp .ge 26, 3) := by decide +kernel
theorem dX12_restore_66 : decode cX12_restore 66 = .ok (.aload_n 0, 1) := by decide +kernel
theorem dX12_restore_67 : decode cX12_restore 67 = .ok (.getfield 43, 3) := by decide +kernel
theorem dX12_restore_70 : decode cX12_restore 70 = .ok (.iload_n 2, 1) := by decide +kernel
theorem dX12_restore_71 : decode cX12_restore 71 = .ok (.aload_n 0, 1) := by decide +kernel
theorem dX12_restore_72 : decode cX12_restore 72 = .ok (.getfield 81, 3) := by decide +kernel
theorem dX12_restore_75 : decode cX12_restore 75 = .ok (.bipush 16, 2) := by decide +kernel
theorem dX12_restore_77 : decode cX12_restore 77 = .ok (.iload_n 1, 1) := by decide +kernel
theorem dX12_restore_78 : decode cX12_restore 78 = .ok (.imul, 1) := by decide +kernel
theorem dX12_restore_79 : decode cX12_restore 79 = .ok (.iload_n 2, 1) := by decide +kernel
theorem dX12_restore_80 : decode cX12_restore 80 = .ok (.iadd, 1) := by decide +kernel
theorem dX12_restore_81 : decode cX12_restore 81 = .ok (.laload, 1) := by decide +kernel
theorem dX12_restore_82 : decode cX12_restore 82 = .ok (.lastore, 1) := by decide +kernel
theorem dX12_restore_83 : decode cX12_restore 83 = .ok (.iinc 2 1, 3) := by decide +kernel
theorem dX12_restore_86 : decode cX12_restore 86 = .ok (.goto (-26), 3) := by decide +kernel
theorem dX12_restore_89 : decode cX12_restore 89 = .ok (.aload_n 0, 1) := by decide +kernel
theorem dX12_restore_90 : decode cX12_restore 90 = .ok (.iconst 0, 1) := by decide +kernel
theorem dX12_restore_91 : decode cX12_restore 91 = .ok (.putfield 256, 3) := by decide +kernel
theorem dX12_restore_94 : decode cX12_restore 94 = .ok (.iconst 1, 1) := by decide +kernel
theorem dX12_restore_95 : decode cX12_restore 95 = .ok (.ireturn, 1) := by decide +kernel
set_option maxRecDepth 20000 in
theorem ggX12_count_X12_chances : GoodIn wsX12_count wsX12_chances := goodIn_r _ [8, 2, 12, 13, 14, 15, 16, 17, 18, 19, 20, 21, 22, 23, 24, 25, 26, 27, 28, 29, 30, 31, 32, 33, 34, 35, 36, 37, 38, 39, 40, 41, 42, 43, 44, 45, 46, 47, 48, 49, 50, 51, 52, 53, 54, 55, 56, 57, 58] (by decide +kernel) (by decide +kernel)
set_option maxRecDepth 20000 in
theorem gX12_count_X12_chances : GoodIn wsX12_count (wsV RX12 372 RX12 yX12_chances wsX12_chances) := goodIn_app (goodIn_of _ (by decide +kernel)) ggX12_count_X12_chances
set_option maxRecDepth 20000 in
theorem ggX12_count_X12_isIn : GoodIn wsX12_count wsX12_isIn := goodIn_r _ [11] (by decide +kernel) (by decide +kernel)
set_option maxRecDepth 20000 in
theorem gX12_count_X12_isIn : GoodIn wsX12_count (va_wsS RX12 191 yX12_isIn wsX12_isIn) := goodIn_app (goodIn_of _ (by decide +kernel)) ggX12_count_X12_isIn
theorem dX12_count_0 : decode cX12_count 0 = .ok (.aload_n 0, 1) := by decide +kernel
theorem dX12_count_1 : decode cX12_count 1 = .ok (.iconst 0, 1) := by decide +kernel
theorem dX12_count_2 : decode cX12_count 2 = .ok (.putfield 1, 3) := by decide +kernel
theorem dX12_count_5 : decode cX12_count 5 = .ok (.iload_n 1, 1) := by decide +kernel
theorem dX12_count_6 : decode cX12_count 6 = .ok (.tableswitch 43 3 5 #[26, 31, 38], 26) := by decide +kernel
theorem dX12_count_32 : decode cX12_count 32 = .ok (.aload_n 0, 1) := by decide +kernel
theorem dX12_count_33 : decode cX12_count 33 = .ok (.invokevirtual 372, 3) := by decide +kernel
theorem dX12_count_36 : decode cX12_count 36 = .ok (.ireturn, 1) := by decide +kernel
theorem dX12_count_37 : decode cX12_count 37 = .ok (.aload_n 0, 1) := by decide +kernel
theorem dX12_count_38 : decode cX12_count 38 = .ok (.getfield 33, 3) := by decide +kernel
theorem dX12_count_41 : decode cX12_count 41 = .ok (.iconst 4, 1) := by decide +kernel
theorem dX12_count_42 : decode cX12_count 42 = .ok (.iaload, 1) := by decide +kernel
theorem dX12_count_43 : decode cX12_count 43 = .ok (.ireturn, 1) := by decide +kernel
theorem dX12_count_44 : decode cX12_count 44 = .ok (.aload_n 0, 1) := by decide +kernel
theorem dX12_count_45 : decode cX12_count 45 = .ok (.getfield 7, 3) := by decide +kernel
theorem dX12_count_48 : decode cX12_count 48 = .ok (.ireturn, 1) := by decide +kernel
theorem dX12_count_49 : decode cX12_count 49 = .ok (.iload_n 1, 1) := by decide +kernel
theorem dX12_count_50 : decode cX12_count 50 = .ok (.iconst 0, 1) := by decide +kernel
theorem dX12_count_51 : decode cX12_count 51 = .ok (.iconst 2, 1) := by decide +kernel
theorem dX12_count_52 : decode cX12_count 52 = .ok (.invokestatic 191, 3) := by decide +kernel
theorem dX12_count_55 : decode cX12_count 55 = .ok (.ifCond .eq 12, 3) := by decide +kernel
theorem dX12_count_58 : decode cX12_count 58 = .ok (.aload_n 0, 1) := by decide +kernel
theorem dX12_count_59 : decode cX12_count 59 = .ok (.getfield 33, 3) := by decide +kernel
theorem dX12_count_62 : decode cX12_count 62 = .ok (.iload_n 1, 1) := by decide +kernel
theorem dX12_count_63 : decode cX12_count 63 = .ok (.iaload, 1) := by decide +kernel
theorem dX12_count_64 : decode cX12_count 64 = .ok (.goto 4, 3) := by decide +kernel
theorem dX12_count_67 : decode cX12_count 67 = .ok (.iconst (-1), 1) := by decide +kernel
theorem dX12_count_68 : decode cX12_count 68 = .ok (.ireturn, 1) := by decide +kernel
