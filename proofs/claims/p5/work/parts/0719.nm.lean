theorem dX12_poor_39 : decode cX12_poor 39 = .ok (.bipush 87, 2) := by decide +kernel
theorem dX12_poor_41 : decode cX12_poor 41 = .ok (.iload_n 2, 1) := by decide +kernel
theorem dX12_poor_42 : decode cX12_poor 42 = .ok (.iadd, 1) := by decide +kernel
theorem dX12_poor_43 : decode cX12_poor 43 = .ok (.iaload, 1) := by decide +kernel
theorem dX12_poor_44 : decode cX12_poor 44 = .ok (.if_icmp .ge 20, 3) := by decide +kernel
theorem dX12_poor_47 : decode cX12_poor 47 = .ok (.iload_n 1, 1) := by decide +kernel
theorem dX12_poor_48 : decode cX12_poor 48 = .ok (.aload_n 0, 1) := by decide +kernel
theorem dX12_poor_49 : decode cX12_poor 49 = .ok (.iload_n 2, 1) := by decide +kernel
theorem dX12_poor_50 : decode cX12_poor 50 = .ok (.iload_n 3, 1) := by decide +kernel
theorem dX12_poor_51 : decode cX12_poor 51 = .ok (.invokevirtual 296, 3) := by decide +kernel
theorem dX12_poor_54 : decode cX12_poor 54 = .ok (.iconst (-1), 1) := by decide +kernel
theorem dX12_poor_55 : decode cX12_poor 55 = .ok (.ixor, 1) := by decide +kernel
theorem dX12_poor_56 : decode cX12_poor 56 = .ok (.iand, 1) := by decide +kernel
theorem dX12_poor_57 : decode cX12_poor 57 = .ok (.istore_n 1, 1) := by decide +kernel
theorem dX12_poor_58 : decode cX12_poor 58 = .ok (.iinc 3 1, 3) := by decide +kernel
theorem dX12_poor_61 : decode cX12_poor 61 = .ok (.goto (-27), 3) := by decide +kernel
theorem dX12_poor_64 : decode cX12_poor 64 = .ok (.iinc 2 1, 3) := by decide +kernel
theorem dX12_poor_67 : decode cX12_poor 67 = .ok (.goto (-45), 3) := by decide +kernel
theorem dX12_poor_70 : decode cX12_poor 70 = .ok (.iload_n 1, 1) := by decide +kernel
theorem dX12_poor_71 : decode cX12_poor 71 = .ok (.ireturn, 1) := by decide +kernel
set_option maxRecDepth 20000 in
theorem ggX12_crowded_X12_asNow : GoodIn wsX12_crowded wsX12_asNow := goodIn_r _ [8, 2, 9, 10, 11, 7, 12, 13, 14, 15, 70, 71, 72, 73, 74, 75, 76, 77, 78, 79, 80, 81, 82, 83, 84, 85, 86, 87, 88, 89, 90, 91, 92, 93, 94, 95, 96, 97, 98, 99, 100, 101, 102, 103, 104, 105, 106, 107, 108, 109, 110, 111, 112, 113, 114, 115, 116] rfl (by decide +kernel)
set_option maxRecDepth 20000 in
theorem gX12_crowded_X12_asNow : GoodIn wsX12_crowded (wsV RX12 318 RX12 yX12_asNow wsX12_asNow) := goodIn_app (goodIn_of _ (by decide +kernel)) ggX12_crowded_X12_asNow
set_option maxRecDepth 20000 in
theorem ggX12_crowded_X12_sharesBy : GoodIn wsX12_crowded wsX12_sharesBy := goodIn_r _ [19, 20, 21, 22, 7, 23, 3, 24, 25, 26, 27, 28, 2, 29, 30, 31, 32, 33, 34, 35, 36, 15, 13, 37, 38, 39, 40, 14, 41, 42, 43, 44, 45, 46, 47, 48, 49, 50, 51, 52, 53, 54, 55, 56, 57, 58, 59, 60, 61, 62, 63, 64, 65, 66, 70, 71, 72, 73, 74, 75, 76, 77, 78, 79, 80, 81, 82, 83, 84, 85, 86, 87, 88, 89, 90, 91, 92, 93, 94, 95, 96, 97, 98, 99, 100, 101, 102, 103, 104, 105, 106, 107, 108, 109, 110, 111, 112, 113, 114, 115, 116] rfl (by decide +kernel)
set_option maxRecDepth 20000 in
theorem gX12_crowded_X12_sharesBy : GoodIn wsX12_crowded (wsV RX12 366 RX12 yX12_sharesBy wsX12_sharesBy) := goodIn_app (goodIn_of _ (by decide +kernel)) ggX12_crowded_X12_sharesBy
set_option maxRecDepth 20000 in
theorem ggX12_crowded_X12_bits : GoodIn wsX12_crowded wsX12_bits := goodIn_r _ [69] rfl (by decide +kernel)
set_option maxRecDepth 20000 in
theorem gX12_crowded_X12_bits : GoodIn wsX12_crowded (va_wsS RX12 394 yX12_bits wsX12_bits) := goodIn_app (goodIn_of _ (by decide +kernel)) ggX12_crowded_X12_bits
theorem dX12_crowded_0 : decode cX12_crowded 0 = .ok (.aload_n 0, 1) := by decide +kernel
theorem dX12_crowded_1 : decode cX12_crowded 1 = .ok (.iconst 0, 1) := by decide +kernel
theorem dX12_crowded_2 : decode cX12_crowded 2 = .ok (.putfield 1, 3) := by decide +kernel
theorem dX12_crowded_5 : decode cX12_crowded 5 = .ok (.aload_n 0, 1) := by decide +kernel
theorem dX12_crowded_6 : decode cX12_crowded 6 = .ok (.invokevirtual 318, 3) := by decide +kernel
theorem dX12_crowded_9 : decode cX12_crowded 9 = .ok (.iconst (-1), 1) := by decide +kernel
theorem dX12_crowded_10 : decode cX12_crowded 10 = .ok (.istore_n 1, 1) := by decide +kernel
theorem dX12_crowded_11 : decode cX12_crowded 11 = .ok (.iconst 0, 1) := by decide +kernel
theorem dX12_crowded_12 : decode cX12_crowded 12 = .ok (.istore_n 2, 1) := by decide +kernel
theorem dX12_crowded_13 : decode cX12_crowded 13 = .ok (.iconst 0, 1) := by decide +kernel
theorem dX12_crowded_14 : decode cX12_crowded 14 = .ok (.istore_n 3, 1) := by decide +kernel
theorem dX12_crowded_15 : decode cX12_crowded 15 = .ok (.iload_n 3, 1) := by decide +kernel
theorem dX12_crowded_16 : decode cX12_crowded 16 = .ok (.aload_n 0, 1) := by decide +kernel
theorem dX12_crowded_17 : decode cX12_crowded 17 = .ok (.getfield 33, 3) := by decide +kernel
theorem dX12_crowded_20 : decode cX12_crowded 20 = .ok (.iconst 2, 1) := by decide +kernel
theorem dX12_crowded_21 : decode cX12_crowded 21 = .ok (.iaload, 1) := by decide +kernel
theorem dX12_crowded_22 : decode cX12_crowded 22 = .ok (.if_icmp .ge 48, 3) := by decide +kernel
theorem dX12_crowded_25 : decode cX12_crowded 25 = .ok (.aload_n 0, 1) := by decide +kernel
theorem dX12_crowded_26 : decode cX12_crowded 26 = .ok (.iload_n 3, 1) := by decide +kernel
theorem dX12_crowded_27 : decode cX12_crowded 27 = .ok (.aload_n 0, 1) := by decide +kernel
theorem dX12_crowded_28 : decode cX12_crowded 28 = .ok (.getfield 33, 3) := by decide +kernel
theorem dX12_crowded_31 : decode cX12_crowded 31 = .ok (.iconst 4, 1) := by decide +kernel
theorem dX12_crowded_32 : decode cX12_crowded 32 = .ok (.iaload, 1) := by decide +kernel
theorem dX12_crowded_33 : decode cX12_crowded 33 = .ok (.invokevirtual 366, 3) := by decide +kernel
theorem dX12_crowded_36 : decode cX12_crowded 36 = .ok (.iload_n 1, 1) := by decide +kernel
theorem dX12_crowded_37 : decode cX12_crowded 37 = .ok (.ifCond .lt 17, 3) := by decide +kernel
theorem dX12_crowded_40 : decode cX12_crowded 40 = .ok (.aload_n 0, 1) := by decide +kernel
theorem dX12_crowded_41 : decode cX12_crowded 41 = .ok (.getfield 305, 3) := by decide +kernel
theorem dX12_crowded_44 : decode cX12_crowded 44 = .ok (.invokestatic 394, 3) := by decide +kernel
theorem dX12_crowded_47 : decode cX12_crowded 47 = .ok (.iload_n 2, 1) := by decide +kernel
theorem dX12_crowded_48 : decode cX12_crowded 48 = .ok (.if_icmp .gt 6, 3) := by decide +kernel
theorem dX12_crowded_51 : decode cX12_crowded 51 = .ok (.goto 13, 3) := by decide +kernel
theorem dX12_crowded_54 : decode cX12_crowded 54 = .ok (.iload_n 3, 1) := by decide +kernel
theorem dX12_crowded_55 : decode cX12_crowded 55 = .ok (.istore_n 1, 1) := by decide +kernel
theorem dX12_crowded_56 : decode cX12_crowded 56 = .ok (.aload_n 0, 1) := by decide +kernel
theorem dX12_crowded_57 : decode cX12_crowded 57 = .ok (.getfield 305, 3) := by decide +kernel
theorem dX12_crowded_60 : decode cX12_crowded 60 = .ok (.invokestatic 394, 3) := by decide +kernel
theorem dX12_crowded_63 : decode cX12_crowded 63 = .ok (.istore_n 2, 1) := by decide +kernel
theorem dX12_crowded_64 : decode cX12_crowded 64 = .ok (.iinc 3 1, 3) := by decide +kernel
theorem dX12_crowded_67 : decode cX12_crowded 67 = .ok (.goto (-52), 3) := by decide +kernel
theorem dX12_crowded_70 : decode cX12_crowded 70 = .ok (.iload_n 1, 1) := by decide +kernel
theorem dX12_crowded_71 : decode cX12_crowded 71 = .ok (.ireturn, 1) := by decide +kernel
set_option maxRecDepth 20000 in
theorem ggX12_isBetter_X12_asNow : GoodIn wsX12_isBetter wsX12_asNow := goodIn_r _ [6, 1, 7, 8, 9, 5, 10, 11, 12, 13, 70, 71, 72, 73, 74, 75, 76, 77, 78, 79, 80, 81, 82, 83, 84, 85, 86, 87, 88, 89, 90, 91, 92, 93, 94, 95, 96, 97, 98, 99, 100, 101, 102, 103, 104, 105, 106, 107, 108, 109, 110, 111, 112, 113, 114, 115, 116] rfl (by decide +kernel)
set_option maxRecDepth 20000 in
theorem gX12_isBetter_X12_asNow : GoodIn wsX12_isBetter (wsV RX12 318 RX12 yX12_asNow wsX12_asNow) := goodIn_app (goodIn_of _ (by decide +kernel)) ggX12_isBetter_X12_asNow
set_option maxRecDepth 20000 in
theorem ggX12_isBetter_X12_meanOf : GoodIn wsX12_isBetter wsX12_meanOf := goodIn_r _ [17, 1, 18, 19, 20, 21, 5, 22, 23, 24, 25, 26, 27, 28, 29, 30, 31, 32, 33, 34, 35, 36, 37, 38, 39, 13, 11, 40, 41, 42, 43, 12, 44, 45, 46, 47, 48, 49, 50, 51, 52, 53, 54, 55, 56, 57, 58, 59, 60, 61, 62, 63, 64, 65, 66, 67, 68, 69, 70, 71, 72, 73, 74, 75, 76, 77, 78, 79, 80, 81, 82, 83, 84, 85, 86, 87, 88, 89, 90, 91, 92, 93, 94, 95, 96, 97, 98, 99, 100, 101, 102, 103, 104, 105, 106, 107, 108, 109, 110, 111, 112, 113, 114, 115, 116] rfl (by decide +kernel)
set_option maxRecDepth 20000 in
theorem gX12_isBetter_X12_meanOf : GoodIn wsX12_isBetter (wsV RX12 369 RX12 yX12_meanOf wsX12_meanOf) := goodIn_app (goodIn_of _ (by decide +kernel)) ggX12_isBetter_X12_meanOf
set_option maxRecDepth 20000 in
theorem ggX12_isBetter_X12_stands : GoodIn wsX12_isBetter wsX12_stands := goodIn_r _ [10, 11, 1, 12, 13, 70, 71, 72, 73, 74, 75, 76, 77, 78, 79, 80, 81, 82, 83, 84, 85, 86, 87, 88, 89, 90, 91, 92, 93, 94, 95, 96, 97, 98, 99, 100, 101, 102, 103, 104, 105, 106, 107, 108, 109, 110, 111, 112, 113, 114, 115, 116] rfl (by decide +kernel)
set_option maxRecDepth 20000 in
theorem gX12_isBetter_X12_stands : GoodIn wsX12_isBetter (wsV RX12 279 RX12 yX12_stands wsX12_stands) := goodIn_app (goodIn_of _ (by decide +kernel)) ggX12_isBetter_X12_stands
theorem dX12_isBetter_0 : decode cX12_isBetter 0 = .ok (.aload_n 0, 1) := by decide +kernel
theorem dX12_isBetter_1 : decode cX12_isBetter 1 = .ok (.invokevirtual 318, 3) := by decide +kernel
theorem dX12_isBetter_4 : decode cX12_isBetter 4 = .ok (.aload_n 0, 1) := by decide +kernel
theorem dX12_isBetter_5 : decode cX12_isBetter 5 = .ok (.iload_n 1, 1) := by decide +kernel
theorem dX12_isBetter_6 : decode cX12_isBetter 6 = .ok (.invokevirtual 369, 3) := by decide +kernel
theorem dX12_isBetter_9 : decode cX12_isBetter 9 = .ok (.istore_n 3, 1) := by decide +kernel
theorem dX12_isBetter_10 : decode cX12_isBetter 10 = .ok (.aload_n 0, 1) := by decide +kernel
theorem dX12_isBetter_11 : decode cX12_isBetter 11 = .ok (.iload_n 2, 1) := by decide +kernel
theorem dX12_isBetter_12 : decode cX12_isBetter 12 = .ok (.invokevirtual 369, 3) := by decide +kernel
theorem dX12_isBetter_15 : decode cX12_isBetter 15 = .ok (.istore 4, 2) := by decide +kernel
theorem dX12_isBetter_17 : decode cX12_isBetter 17 = .ok (.aload_n 0, 1) := by decide +kernel
theorem dX12_isBetter_18 : decode cX12_isBetter 18 = .ok (.iload_n 1, 1) := by decide +kernel
theorem dX12_isBetter_19 : decode cX12_isBetter 19 = .ok (.aload_n 0, 1) := by decide +kernel
theorem dX12_isBetter_20 : decode cX12_isBetter 20 = .ok (.getfield 33, 3) := by decide +kernel
theorem dX12_isBetter_23 : decode cX12_isBetter 23 = .ok (.sipush 214, 3) := by decide +kernel
theorem dX12_isBetter_26 : decode cX12_isBetter 26 = .ok (.iload_n 2, 1) := by decide +kernel
theorem dX12_isBetter_27 : decode cX12_isBetter 27 = .ok (.iadd, 1) := by decide +kernel
theorem dX12_isBetter_28 : decode cX12_isBetter 28 = .ok (.iaload, 1) := by decide +kernel
theorem dX12_isBetter_29 : decode cX12_isBetter 29 = .ok (.invokevirtual 279, 3) := by decide +kernel
theorem dX12_isBetter_32 : decode cX12_isBetter 32 = .ok (.aload_n 0, 1) := by decide +kernel
theorem dX12_isBetter_33 : decode cX12_isBetter 33 = .ok (.iload_n 2, 1) := by decide +kernel
theorem dX12_isBetter_34 : decode cX12_isBetter 34 = .ok (.aload_n 0, 1) := by decide +kernel
theorem dX12_isBetter_35 : decode cX12_isBetter 35 = .ok (.getfield 33, 3) := by decide +kernel
theorem dX12_isBetter_38 : decode cX12_isBetter 38 = .ok (.sipush 214, 3) := by decide +kernel
theorem dX12_isBetter_41 : decode cX12_isBetter 41 = .ok (.iload_n 1, 1) := by decide +kernel
theorem dX12_isBetter_42 : decode cX12_isBetter 42 = .ok (.iadd, 1) := by decide +kernel
theorem dX12_isBetter_43 : decode cX12_isBetter 43 = .ok (.iaload, 1) := by decide +kernel
theorem dX12_isBetter_44 : decode cX12_isBetter 44 = .ok (.invokevirtual 279, 3) := by decide +kernel
theorem dX12_isBetter_47 : decode cX12_isBetter 47 = .ok (.aload_n 0, 1) := by decide +kernel
theorem dX12_isBetter_48 : decode cX12_isBetter 48 = .ok (.iload_n 1, 1) := by decide +kernel
theorem dX12_isBetter_49 : decode cX12_isBetter 49 = .ok (.invokevirtual 369, 3) := by decide +kernel
theorem dX12_isBetter_52 : decode cX12_isBetter 52 = .ok (.iload_n 3, 1) := by decide +kernel
theorem dX12_isBetter_53 : decode cX12_isBetter 53 = .ok (.if_icmp .le 17, 3) := by decide +kernel
theorem dX12_isBetter_56 : decode cX12_isBetter 56 = .ok (.aload_n 0, 1) := by decide +kernel
theorem dX12_isBetter_57 : decode cX12_isBetter 57 = .ok (.iload_n 2, 1) := by decide +kernel
theorem dX12_isBetter_58 : decode cX12_isBetter 58 = .ok (.invokevirtual 369, 3) := by decide +kernel
theorem dX12_isBetter_61 : decode cX12_isBetter 61 = .ok (.iload 4, 2) := by decide +kernel
theorem dX12_isBetter_63 : decode cX12_isBetter 63 = .ok (.if_icmp .le 7, 3) := by decide +kernel
theorem dX12_isBetter_66 : decode cX12_isBetter 66 = .ok (.iconst 1, 1) := by decide +kernel
theorem dX12_isBetter_67 : decode cX12_isBetter 67 = .ok (.goto 4, 3) := by decide +kernel
theorem dX12_isBetter_70 : decode cX12_isBetter 70 = .ok (.iconst 0, 1) := by decide +kernel
theorem dX12_isBetter_71 : decode cX12_isBetter 71 = .ok (.ireturn, 1) := by decide +kernel
set_option maxRecDepth 20000 in
theorem ggX12_swaps_X12_isBetter : GoodIn wsX12_swaps wsX12_isBetter := goodIn_r _ [7, 2, 8, 9, 10, 6, 11, 12, 13, 14, 15, 16, 17, 18, 19, 20, 21, 22, 23, 24, 25, 26, 27, 28, 29, 30, 31, 32, 33, 34, 35, 36, 37, 38, 39, 40, 41, 42, 43, 44, 45, 46, 47, 48, 49, 50, 51, 52, 53, 54, 55, 56, 57, 58, 59, 60, 61, 62, 63, 64, 65, 66, 67, 68, 69, 70, 71, 72, 73, 74, 75, 76, 77, 78, 79, 80, 81, 82, 83, 84, 85, 86, 87, 88, 89, 90, 91, 92, 93, 94, 95, 96, 97, 98, 99, 100, 101, 102, 103, 104, 105, 106, 107, 108, 109, 110, 111, 112, 113, 114, 115, 116, 117, 118, 119, 120, 121] rfl (by decide +kernel)
set_option maxRecDepth 20000 in
theorem gX12_swaps_X12_isBetter : GoodIn wsX12_swaps (wsV RX12 397 RX12 yX12_isBetter wsX12_isBetter) := goodIn_app (goodIn_of _ (by decide +kernel)) ggX12_swaps_X12_isBetter
theorem dX12_swaps_0 : decode cX12_swaps 0 = .ok (.aload_n 0, 1) := by decide +kernel
theorem dX12_swaps_1 : decode cX12_swaps 1 = .ok (.iconst 0, 1) := by decide +kernel
theorem dX12_swaps_2 : decode cX12_swaps 2 = .ok (.putfield 1, 3) := by decide +kernel
theorem dX12_swaps_5 : decode cX12_swaps 5 = .ok (.aload_n 0, 1) := by decide +kernel
theorem dX12_swaps_6 : decode cX12_swaps 6 = .ok (.getfield 33, 3) := by decide +kernel
theorem dX12_swaps_9 : decode cX12_swaps 9 = .ok (.iconst 2, 1) := by decide +kernel
theorem dX12_swaps_10 : decode cX12_swaps 10 = .ok (.iaload, 1) := by decide +kernel
theorem dX12_swaps_11 : decode cX12_swaps 11 = .ok (.ifCond .eq 8, 3) := by decide +kernel
theorem dX12_swaps_14 : decode cX12_swaps 14 = .ok (.iload_n 1, 1) := by decide +kernel
theorem dX12_swaps_15 : decode cX12_swaps 15 = .ok (.iconst (-1), 1) := by decide +kernel
theorem dX12_swaps_16 : decode cX12_swaps 16 = .ok (.if_icmp .ge 5, 3) := by decide +kernel
theorem dX12_swaps_19 : decode cX12_swaps 19 = .ok (.iconst (-1), 1) := by decide +kernel
theorem dX12_swaps_20 : decode cX12_swaps 20 = .ok (.ireturn, 1) := by decide +kernel
theorem dX12_swaps_21 : decode cX12_swaps 21 = .ok (.iconst 0, 1) := by decide +kernel
theorem dX12_swaps_22 : decode cX12_swaps 22 = .ok (.istore_n 2, 1) := by decide +kernel
theorem dX12_swaps_23 : decode cX12_swaps 23 = .ok (.iconst 0, 1) := by decide +kernel
theorem dX12_swaps_24 : decode cX12_swaps 24 = .ok (.istore_n 3, 1) := by decide +kernel
theorem dX12_swaps_25 : decode cX12_swaps 25 = .ok (.iload_n 3, 1) := by decide +kernel
theorem dX12_swaps_26 : decode cX12_swaps 26 = .ok (.aload_n 0, 1) := by decide +kernel
theorem dX12_swaps_27 : decode cX12_swaps 27 = .ok (.getfield 33, 3) := by decide +kernel
theorem dX12_swaps_30 : decode cX12_swaps 30 = .ok (.iconst 1, 1) := by decide +kernel
theorem dX12_swaps_31 : decode cX12_swaps 31 = .ok (.iaload, 1) := by decide +kernel
theorem dX12_swaps_32 : decode cX12_swaps 32 = .ok (.if_icmp .ge 60, 3) := by decide +kernel
theorem dX12_swaps_35 : decode cX12_swaps 35 = .ok (.iload_n 3, 1) := by decide +kernel
theorem dX12_swaps_36 : decode cX12_swaps 36 = .ok (.iconst 1, 1) := by decide +kernel
theorem dX12_swaps_37 : decode cX12_swaps 37 = .ok (.iadd, 1) := by decide +kernel
theorem dX12_swaps_38 : decode cX12_swaps 38 = .ok (.istore 4, 2) := by decide +kernel
theorem dX12_swaps_40 : decode cX12_swaps 40 = .ok (.iload 4, 2) := by decide +kernel
theorem dX12_swaps_42 : decode cX12_swaps 42 = .ok (.aload_n 0, 1) := by decide +kernel
theorem dX12_swaps_43 : decode cX12_swaps 43 = .ok (.getfield 33, 3) := by decide +kernel
theorem dX12_swaps_46 : decode cX12_swaps 46 = .ok (.iconst 1, 1) := by decide +kernel
theorem dX12_swaps_47 : decode cX12_swaps 47 = .ok (.iaload, 1) := by decide +kernel
theorem dX12_swaps_48 : decode cX12_swaps 48 = .ok (.if_icmp .ge 38, 3) := by decide +kernel
theorem dX12_swaps_51 : decode cX12_swaps 51 = .ok (.aload_n 0, 1) := by decide +kernel
theorem dX12_swaps_52 : decode cX12_swaps 52 = .ok (.iload_n 3, 1) := by decide +kernel
theorem dX12_swaps_53 : decode cX12_swaps 53 = .ok (.iload 4, 2) := by decide +kernel
theorem dX12_swaps_55 : decode cX12_swaps 55 = .ok (.invokevirtual 397, 3) := by decide +kernel
theorem dX12_swaps_58 : decode cX12_swaps 58 = .ok (.ifCond .ne 6, 3) := by decide +kernel
theorem dX12_swaps_61 : decode cX12_swaps 61 = .ok (.goto 19, 3) := by decide +kernel
theorem dX12_swaps_64 : decode cX12_swaps 64 = .ok (.iload_n 2, 1) := by decide +kernel
theorem dX12_swaps_65 : decode cX12_swaps 65 = .ok (.iload_n 1, 1) := by decide +kernel
theorem dX12_swaps_66 : decode cX12_swaps 66 = .ok (.if_icmp .ne 11, 3) := by decide +kernel
theorem dX12_swaps_69 : decode cX12_swaps 69 = .ok (.bipush 10, 2) := by decide +kernel
theorem dX12_swaps_71 : decode cX12_swaps 71 = .ok (.iload_n 3, 1) := by decide +kernel
theorem dX12_swaps_72 : decode cX12_swaps 72 = .ok (.imul, 1) := by decide +kernel
theorem dX12_swaps_73 : decode cX12_swaps 73 = .ok (.iload 4, 2) := by decide +kernel
theorem dX12_swaps_75 : decode cX12_swaps 75 = .ok (.iadd, 1) := by decide +kernel
theorem dX12_swaps_76 : decode cX12_swaps 76 = .ok (.ireturn, 1) := by decide +kernel
theorem dX12_swaps_77 : decode cX12_swaps 77 = .ok (.iinc 2 1, 3) := by decide +kernel
theorem dX12_swaps_80 : decode cX12_swaps 80 = .ok (.iinc 4 1, 3) := by decide +kernel
theorem dX12_swaps_83 : decode cX12_swaps 83 = .ok (.goto (-43), 3) := by decide +kernel
theorem dX12_swaps_86 : decode cX12_swaps 86 = .ok (.iinc 3 1, 3) := by decide +kernel
theorem dX12_swaps_89 : decode cX12_swaps 89 = .ok (.goto (-64), 3) := by decide +kernel
theorem dX12_swaps_92 : decode cX12_swaps 92 = .ok (.iload_n 1, 1) := by decide +kernel
theorem dX12_swaps_93 : decode cX12_swaps 93 = .ok (.iconst (-1), 1) := by decide +kernel
theorem dX12_swaps_94 : decode cX12_swaps 94 = .ok (.if_icmp .ne 7, 3) := by decide +kernel
theorem dX12_swaps_97 : decode cX12_swaps 97 = .ok (.iload_n 2, 1) := by decide +kernel
theorem dX12_swaps_98 : decode cX12_swaps 98 = .ok (.goto 4, 3) := by decide +kernel
theorem dX12_swaps_101 : decode cX12_swaps 101 = .ok (.iconst (-1), 1) := by decide +kernel
theorem dX12_swaps_102 : decode cX12_swaps 102 = .ok (.ireturn, 1) := by decide +kernel
theorem dX12_draw_0 : decode cX12_draw 0 = .ok (.aload_n 0, 1) := by decide +kernel
theorem dX12_draw_1 : decode cX12_draw 1 = .ok (.aload_n 0, 1) := by decide +kernel
theorem dX12_draw_2 : decode cX12_draw 2 = .ok (.getfield 400, 3) := by decide +kernel
theorem dX12_draw_5 : decode cX12_draw 5 = .ok (.ldc_w 403, 3) := by decide +kernel
theorem dX12_draw_8 : decode cX12_draw 8 = .ok (.imul, 1) := by decide +kernel
theorem dX12_draw_9 : decode cX12_draw 9 = .ok (.sipush 12345, 3) := by decide +kernel
theorem dX12_draw_12 : decode cX12_draw 12 = .ok (.iadd, 1) := by decide +kernel
theorem dX12_draw_13 : decode cX12_draw 13 = .ok (.putfield 400, 3) := by decide +kernel
theorem dX12_draw_16 : decode cX12_draw 16 = .ok (.aload_n 0, 1) := by decide +kernel
theorem dX12_draw_17 : decode cX12_draw 17 = .ok (.getfield 400, 3) := by decide +kernel
theorem dX12_draw_20 : decode cX12_draw 20 = .ok (.bipush 8, 2) := by decide +kernel
theorem dX12_draw_22 : decode cX12_draw 22 = .ok (.iushr, 1) := by decide +kernel
theorem dX12_draw_23 : decode cX12_draw 23 = .ok (.iload_n 1, 1) := by decide +kernel
theorem dX12_draw_24 : decode cX12_draw 24 = .ok (.irem, 1) := by decide +kernel
theorem dX12_draw_25 : decode cX12_draw 25 = .ok (.ireturn, 1) := by decide +kernel
set_option maxRecDepth 20000 in
theorem ggX12_draws_X12_draw : GoodIn wsX12_draws wsX12_draw := goodIn_r _ [7, 1, 8, 92, 93, 94, 95, 96, 97, 98, 99, 100, 101, 102, 103, 104, 105, 106, 107, 108, 109, 110, 111, 112, 113, 114, 115, 116, 117, 118, 119, 120, 121, 122, 123, 124, 125, 126, 127, 128, 129, 130, 131, 132, 133, 134, 135, 136, 137, 138] rfl (by decide +kernel)
set_option maxRecDepth 20000 in
theorem gX12_draws_X12_draw : GoodIn wsX12_draws (wsV RX12 404 RX12 yX12_draw wsX12_draw) := goodIn_app (goodIn_of _ (by decide +kernel)) ggX12_draws_X12_draw
set_option maxRecDepth 20000 in
theorem ggX12_draws_X12_whyMove : GoodIn wsX12_draws wsX12_whyMove := goodIn_r _ [12, 2, 13, 14, 15, 6, 16, 17, 18, 19, 20, 92, 93, 94, 95, 96, 97, 98, 99, 100, 101, 102, 103, 104, 105, 106, 107, 108, 109, 110, 111, 112, 113, 114, 115, 116, 117, 118, 119, 120, 121, 122, 123, 124, 125, 126, 127, 128, 129, 130, 131, 132, 133, 134, 135, 136, 137, 138] rfl (by decide +kernel)
set_option maxRecDepth 20000 in
theorem gX12_draws_X12_whyMove : GoodIn wsX12_draws (wsV RX12 342 RX12 yX12_whyMove wsX12_whyMove) := goodIn_app (goodIn_of _ (by decide +kernel)) ggX12_draws_X12_whyMove
set_option maxRecDepth 20000 in
theorem ggX12_draws_X12_chances : GoodIn wsX12_draws wsX12_chances := goodIn_r _ [24, 2, 92, 93, 94, 95, 96, 97, 98, 99, 100, 101, 102, 103, 104, 105, 106, 107, 108, 109, 110, 111, 112, 113, 114, 115, 116, 117, 118, 119, 120, 121, 122, 123, 124, 125, 126, 127, 128, 129, 130, 131, 132, 133, 134, 135, 136, 137, 138] rfl (by decide +kernel)
set_option maxRecDepth 20000 in
theorem gX12_draws_X12_chances : GoodIn wsX12_draws (wsV RX12 372 RX12 yX12_chances wsX12_chances) := goodIn_app (goodIn_of _ (by decide +kernel)) ggX12_draws_X12_chances
set_option maxRecDepth 20000 in
theorem ggX12_draws_X12_asNow : GoodIn wsX12_draws wsX12_asNow := goodIn_r _ [28, 2, 29, 30, 31, 6, 32, 33, 34, 35, 92, 93, 94, 95, 96, 97, 98, 99, 100, 101, 102, 103, 104, 105, 106, 107, 108, 109, 110, 111, 112, 113, 114, 115, 116, 117, 118, 119, 120, 121, 122, 123, 124, 125, 126, 127, 128, 129, 130, 131, 132, 133, 134, 135, 136, 137, 138] rfl (by decide +kernel)
set_option maxRecDepth 20000 in
theorem gX12_draws_X12_asNow : GoodIn wsX12_draws (wsV RX12 318 RX12 yX12_asNow wsX12_asNow) := goodIn_app (goodIn_of _ (by decide +kernel)) ggX12_draws_X12_asNow
set_option maxRecDepth 20000 in
theorem ggX12_draws_X12_sharesBy : GoodIn wsX12_draws wsX12_sharesBy := goodIn_r _ [39, 40, 41, 42, 6, 43, 44, 45, 46, 47, 48, 49, 2, 50, 51, 52, 53, 54, 55, 56, 57, 35, 33, 58, 59, 60, 61, 34, 62, 63, 64, 65, 66, 67, 68, 69, 70, 71, 72, 73, 74, 75, 76, 77, 78, 79, 80, 81, 82, 83, 84, 85, 86, 87, 92, 93, 94, 95, 96, 97, 98, 99, 100, 101, 102, 103, 104, 105, 106, 107, 108, 109, 110, 111, 112, 113, 114, 115, 116, 117, 118, 119, 120, 121, 122, 123, 124, 125, 126, 127, 128, 129, 130, 131, 132, 133, 134, 135, 136, 137, 138] rfl (by decide +kernel)
set_option maxRecDepth 20000 in
theorem gX12_draws_X12_sharesBy : GoodIn wsX12_draws (wsV RX12 366 RX12 yX12_sharesBy wsX12_sharesBy) := goodIn_app (goodIn_of _ (by decide +kernel)) ggX12_draws_X12_sharesBy
set_option maxRecDepth 20000 in
theorem ggX12_draws_X12_ends : GoodIn wsX12_draws wsX12_ends := goodIn_r _ [91, 2, 45, 92, 93, 94, 95, 96, 97, 98, 99, 100, 101, 102, 103, 104, 105, 106, 107, 108, 109, 110, 111, 112, 113, 114, 115, 116, 117, 118, 119, 120, 121, 122, 123, 124, 125, 126, 127, 128, 129, 130, 131, 132, 133, 134, 135, 136, 137, 138] rfl (by decide +kernel)
set_option maxRecDepth 20000 in
theorem gX12_draws_X12_ends : GoodIn wsX12_draws (wsV RX12 363 RX12 yX12_ends wsX12_ends) := goodIn_app (goodIn_of _ (by decide +kernel)) ggX12_draws_X12_ends
theorem dX12_draws_0 : decode cX12_draws 0 = .ok (.aload_n 0, 1) := by decide +kernel
theorem dX12_draws_1 : decode cX12_draws 1 = .ok (.iload_n 2, 1) := by decide +kernel
theorem dX12_draws_2 : decode cX12_draws 2 = .ok (.putfield 400, 3) := by decide +kernel
theorem dX12_draws_5 : decode cX12_draws 5 = .ok (.iconst 0, 1) := by decide +kernel
theorem dX12_draws_6 : decode cX12_draws 6 = .ok (.istore_n 3, 1) := by decide +kernel
theorem dX12_draws_7 : decode cX12_draws 7 = .ok (.iload_n 3, 1) := by decide +kernel
theorem dX12_draws_8 : decode cX12_draws 8 = .ok (.iload_n 1, 1) := by decide +kernel
theorem dX12_draws_9 : decode cX12_draws 9 = .ok (.if_icmp .ge 158, 3) := by decide +kernel
theorem dX12_draws_12 : decode cX12_draws 12 = .ok (.aload_n 0, 1) := by decide +kernel
theorem dX12_draws_13 : decode cX12_draws 13 = .ok (.getfield 33, 3) := by decide +kernel
theorem dX12_draws_16 : decode cX12_draws 16 = .ok (.sipush 211, 3) := by decide +kernel
theorem dX12_draws_19 : decode cX12_draws 19 = .ok (.iaload, 1) := by decide +kernel
theorem dX12_draws_20 : decode cX12_draws 20 = .ok (.bipush 99, 2) := by decide +kernel
