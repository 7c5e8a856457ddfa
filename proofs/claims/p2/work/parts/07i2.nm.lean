theorem dX12_lied_0 : decode cX12_lied 0 = .ok (.aload_n 0, 1) := by decide +kernel
theorem dX12_lied_1 : decode cX12_lied 1 = .ok (.iconst 0, 1) := by decide +kernel
theorem dX12_lied_2 : decode cX12_lied 2 = .ok (.putfield 1, 3) := by decide +kernel
theorem dX12_lied_5 : decode cX12_lied 5 = .ok (.iconst 0, 1) := by decide +kernel
theorem dX12_lied_6 : decode cX12_lied 6 = .ok (.istore_n 1, 1) := by decide +kernel
theorem dX12_lied_7 : decode cX12_lied 7 = .ok (.iconst 0, 1) := by decide +kernel
theorem dX12_lied_8 : decode cX12_lied 8 = .ok (.istore_n 2, 1) := by decide +kernel
theorem dX12_lied_9 : decode cX12_lied 9 = .ok (.iload_n 2, 1) := by decide +kernel
theorem dX12_lied_10 : decode cX12_lied 10 = .ok (.aload_n 0, 1) := by decide +kernel
theorem dX12_lied_11 : decode cX12_lied 11 = .ok (.getfield 33, 3) := by decide +kernel
theorem dX12_lied_14 : decode cX12_lied 14 = .ok (.iconst 1, 1) := by decide +kernel
theorem dX12_lied_15 : decode cX12_lied 15 = .ok (.iaload, 1) := by decide +kernel
theorem dX12_lied_16 : decode cX12_lied 16 = .ok (.if_icmp .ge 40, 3) := by decide +kernel
theorem dX12_lied_19 : decode cX12_lied 19 = .ok (.iload_n 1, 1) := by decide +kernel
theorem dX12_lied_20 : decode cX12_lied 20 = .ok (.aload_n 0, 1) := by decide +kernel
theorem dX12_lied_21 : decode cX12_lied 21 = .ok (.getfield 33, 3) := by decide +kernel
theorem dX12_lied_24 : decode cX12_lied 24 = .ok (.sipush 230, 3) := by decide +kernel
theorem dX12_lied_27 : decode cX12_lied 27 = .ok (.iload_n 2, 1) := by decide +kernel
theorem dX12_lied_28 : decode cX12_lied 28 = .ok (.iadd, 1) := by decide +kernel
theorem dX12_lied_29 : decode cX12_lied 29 = .ok (.iaload, 1) := by decide +kernel
theorem dX12_lied_30 : decode cX12_lied 30 = .ok (.ifCond .le 17, 3) := by decide +kernel
theorem dX12_lied_33 : decode cX12_lied 33 = .ok (.aload_n 0, 1) := by decide +kernel
theorem dX12_lied_34 : decode cX12_lied 34 = .ok (.iload_n 2, 1) := by decide +kernel
theorem dX12_lied_35 : decode cX12_lied 35 = .ok (.invokevirtual 333, 3) := by decide +kernel
theorem dX12_lied_38 : decode cX12_lied 38 = .ok (.ifCond .ne 9, 3) := by decide +kernel
theorem dX12_lied_41 : decode cX12_lied 41 = .ok (.iconst 1, 1) := by decide +kernel
theorem dX12_lied_42 : decode cX12_lied 42 = .ok (.iload_n 2, 1) := by decide +kernel
theorem dX12_lied_43 : decode cX12_lied 43 = .ok (.ishl, 1) := by decide +kernel
theorem dX12_lied_44 : decode cX12_lied 44 = .ok (.goto 4, 3) := by decide +kernel
theorem dX12_lied_47 : decode cX12_lied 47 = .ok (.iconst 0, 1) := by decide +kernel
theorem dX12_lied_48 : decode cX12_lied 48 = .ok (.ior, 1) := by decide +kernel
theorem dX12_lied_49 : decode cX12_lied 49 = .ok (.istore_n 1, 1) := by decide +kernel
theorem dX12_lied_50 : decode cX12_lied 50 = .ok (.iinc 2 1, 3) := by decide +kernel
theorem dX12_lied_53 : decode cX12_lied 53 = .ok (.goto (-44), 3) := by decide +kernel
theorem dX12_lied_56 : decode cX12_lied 56 = .ok (.iload_n 1, 1) := by decide +kernel
theorem dX12_lied_57 : decode cX12_lied 57 = .ok (.ireturn, 1) := by decide +kernel
set_option maxRecDepth 20000 in
theorem ggX12_nearer_X12_isMan : GoodIn wsX12_nearer wsX12_isMan := goodIn_r _ [7, 2, 8, 9, 6, 10, 49, 50, 51, 52, 53, 54, 55, 56, 57, 58, 59, 60, 61, 62, 63, 64, 65, 66, 67, 68, 69, 70, 71, 72, 73, 74, 75, 76, 77, 78, 79, 80, 81, 82, 83, 84, 85, 86, 87, 88, 89, 90, 91, 92, 93, 94, 95] rfl (by decide +kernel)
set_option maxRecDepth 20000 in
theorem gX12_nearer_X12_isMan : GoodIn wsX12_nearer (wsV RX12 269 RX12 yX12_isMan wsX12_isMan) := goodIn_app (goodIn_of _ (by decide +kernel)) ggX12_nearer_X12_isMan
set_option maxRecDepth 20000 in
theorem ggX12_nearer_X12_whyAccuse : GoodIn wsX12_nearer wsX12_whyAccuse := goodIn_r _ [14, 2, 15, 16, 17, 6, 18, 19, 20, 21, 22, 23, 24, 25, 26, 27, 28, 29, 30, 31, 32, 49, 50, 51, 52, 53, 54, 55, 56, 57, 58, 59, 60, 61, 62, 63, 64, 65, 66, 67, 68, 69, 70, 71, 72, 73, 74, 75, 76, 77, 78, 79, 80, 81, 82, 83, 84, 85, 86, 87, 88, 89, 90, 91, 92, 93, 94, 95] rfl (by decide +kernel)
set_option maxRecDepth 20000 in
theorem gX12_nearer_X12_whyAccuse : GoodIn wsX12_nearer (wsV RX12 351 RX12 yX12_whyAccuse wsX12_whyAccuse) := goodIn_app (goodIn_of _ (by decide +kernel)) ggX12_nearer_X12_whyAccuse
set_option maxRecDepth 20000 in
theorem ggX12_nearer_X12_isTrue : GoodIn wsX12_nearer wsX12_isTrue := goodIn_r _ [36, 2, 15, 16, 17, 6, 18, 19, 20, 21, 22, 23, 24, 25, 37, 38, 39, 40, 41, 42, 43, 44, 45, 46, 47, 48, 26, 27, 28, 29, 30, 31, 32, 49, 50, 51, 52, 53, 54, 55, 56, 57, 58, 59, 60, 61, 62, 63, 64, 65, 66, 67, 68, 69, 70, 71, 72, 73, 74, 75, 76, 77, 78, 79, 80, 81, 82, 83, 84, 85, 86, 87, 88, 89, 90, 91, 92, 93, 94, 95] rfl (by decide +kernel)
set_option maxRecDepth 20000 in
theorem gX12_nearer_X12_isTrue : GoodIn wsX12_nearer (wsV RX12 333 RX12 yX12_isTrue wsX12_isTrue) := goodIn_app (goodIn_of _ (by decide +kernel)) ggX12_nearer_X12_isTrue
theorem dX12_nearer_0 : decode cX12_nearer 0 = .ok (.aload_n 0, 1) := by decide +kernel
theorem dX12_nearer_1 : decode cX12_nearer 1 = .ok (.iconst 0, 1) := by decide +kernel
theorem dX12_nearer_2 : decode cX12_nearer 2 = .ok (.putfield 1, 3) := by decide +kernel
theorem dX12_nearer_5 : decode cX12_nearer 5 = .ok (.aload_n 0, 1) := by decide +kernel
theorem dX12_nearer_6 : decode cX12_nearer 6 = .ok (.iload_n 1, 1) := by decide +kernel
theorem dX12_nearer_7 : decode cX12_nearer 7 = .ok (.invokevirtual 269, 3) := by decide +kernel
theorem dX12_nearer_10 : decode cX12_nearer 10 = .ok (.ifCond .ne 5, 3) := by decide +kernel
theorem dX12_nearer_13 : decode cX12_nearer 13 = .ok (.iconst (-1), 1) := by decide +kernel
theorem dX12_nearer_14 : decode cX12_nearer 14 = .ok (.ireturn, 1) := by decide +kernel
theorem dX12_nearer_15 : decode cX12_nearer 15 = .ok (.iconst 0, 1) := by decide +kernel
theorem dX12_nearer_16 : decode cX12_nearer 16 = .ok (.istore_n 2, 1) := by decide +kernel
theorem dX12_nearer_17 : decode cX12_nearer 17 = .ok (.iconst 0, 1) := by decide +kernel
theorem dX12_nearer_18 : decode cX12_nearer 18 = .ok (.istore_n 3, 1) := by decide +kernel
theorem dX12_nearer_19 : decode cX12_nearer 19 = .ok (.iload_n 3, 1) := by decide +kernel
theorem dX12_nearer_20 : decode cX12_nearer 20 = .ok (.aload_n 0, 1) := by decide +kernel
theorem dX12_nearer_21 : decode cX12_nearer 21 = .ok (.getfield 33, 3) := by decide +kernel
theorem dX12_nearer_24 : decode cX12_nearer 24 = .ok (.iconst 1, 1) := by decide +kernel
theorem dX12_nearer_25 : decode cX12_nearer 25 = .ok (.iaload, 1) := by decide +kernel
theorem dX12_nearer_26 : decode cX12_nearer 26 = .ok (.if_icmp .ge 41, 3) := by decide +kernel
theorem dX12_nearer_29 : decode cX12_nearer 29 = .ok (.iload_n 2, 1) := by decide +kernel
theorem dX12_nearer_30 : decode cX12_nearer 30 = .ok (.iload_n 3, 1) := by decide +kernel
theorem dX12_nearer_31 : decode cX12_nearer 31 = .ok (.iload_n 1, 1) := by decide +kernel
theorem dX12_nearer_32 : decode cX12_nearer 32 = .ok (.if_icmp .eq 26, 3) := by decide +kernel
theorem dX12_nearer_35 : decode cX12_nearer 35 = .ok (.aload_n 0, 1) := by decide +kernel
theorem dX12_nearer_36 : decode cX12_nearer 36 = .ok (.iload_n 3, 1) := by decide +kernel
theorem dX12_nearer_37 : decode cX12_nearer 37 = .ok (.iload_n 1, 1) := by decide +kernel
theorem dX12_nearer_38 : decode cX12_nearer 38 = .ok (.invokevirtual 351, 3) := by decide +kernel
theorem dX12_nearer_41 : decode cX12_nearer 41 = .ok (.ifCond .ne 17, 3) := by decide +kernel
theorem dX12_nearer_44 : decode cX12_nearer 44 = .ok (.aload_n 0, 1) := by decide +kernel
theorem dX12_nearer_45 : decode cX12_nearer 45 = .ok (.iload_n 1, 1) := by decide +kernel
theorem dX12_nearer_46 : decode cX12_nearer 46 = .ok (.invokevirtual 333, 3) := by decide +kernel
theorem dX12_nearer_49 : decode cX12_nearer 49 = .ok (.ifCond .ne 9, 3) := by decide +kernel
theorem dX12_nearer_52 : decode cX12_nearer 52 = .ok (.iconst 1, 1) := by decide +kernel
theorem dX12_nearer_53 : decode cX12_nearer 53 = .ok (.iload_n 3, 1) := by decide +kernel
theorem dX12_nearer_54 : decode cX12_nearer 54 = .ok (.ishl, 1) := by decide +kernel
theorem dX12_nearer_55 : decode cX12_nearer 55 = .ok (.goto 4, 3) := by decide +kernel
theorem dX12_nearer_58 : decode cX12_nearer 58 = .ok (.iconst 0, 1) := by decide +kernel
theorem dX12_nearer_59 : decode cX12_nearer 59 = .ok (.ior, 1) := by decide +kernel
theorem dX12_nearer_60 : decode cX12_nearer 60 = .ok (.istore_n 2, 1) := by decide +kernel
theorem dX12_nearer_61 : decode cX12_nearer 61 = .ok (.iinc 3 1, 3) := by decide +kernel
theorem dX12_nearer_64 : decode cX12_nearer 64 = .ok (.goto (-45), 3) := by decide +kernel
theorem dX12_nearer_67 : decode cX12_nearer 67 = .ok (.iload_n 2, 1) := by decide +kernel
theorem dX12_nearer_68 : decode cX12_nearer 68 = .ok (.ireturn, 1) := by decide +kernel
set_option maxRecDepth 20000 in
theorem ggX12_due_X12_isMan : GoodIn wsX12_due wsX12_isMan := goodIn_r _ [8, 2, 9, 10, 7, 11, 47, 48, 49, 50, 51, 52, 53, 54, 55, 56, 57, 58, 59, 60, 61, 62, 63, 64, 65, 66, 67, 68, 69, 70, 71, 72, 73, 74, 75, 76, 77, 78, 79, 80, 81, 82, 83, 84, 85, 86, 87, 88, 89, 90, 91, 92, 93] rfl (by decide +kernel)
set_option maxRecDepth 20000 in
theorem gX12_due_X12_isMan : GoodIn wsX12_due (wsV RX12 269 RX12 yX12_isMan wsX12_isMan) := goodIn_app (goodIn_of _ (by decide +kernel)) ggX12_due_X12_isMan
set_option maxRecDepth 20000 in
theorem ggX12_due_X12_sharesNow : GoodIn wsX12_due wsX12_sharesNow := goodIn_r _ [15, 2, 16, 17, 18, 19, 7, 20, 21, 3, 22, 23, 24, 25, 26, 27, 28, 29, 30, 31, 32, 33, 34, 35, 36, 37, 38, 39, 40, 41, 42, 43, 44, 45, 46, 47, 48, 49, 50, 51, 52, 53, 54, 55, 56, 57, 58, 59, 60, 61, 62, 63, 64, 65, 66, 67, 68, 69, 70, 71, 72, 73, 74, 75, 76, 77, 78, 79, 80, 81, 82, 83, 84, 85, 86, 87, 88, 89, 90, 91, 92, 93] rfl (by decide +kernel)
set_option maxRecDepth 20000 in
theorem gX12_due_X12_sharesNow : GoodIn wsX12_due (wsV RX12 360 RX12 yX12_sharesNow wsX12_sharesNow) := goodIn_app (goodIn_of _ (by decide +kernel)) ggX12_due_X12_sharesNow
theorem dX12_due_0 : decode cX12_due 0 = .ok (.aload_n 0, 1) := by decide +kernel
theorem dX12_due_1 : decode cX12_due 1 = .ok (.iconst 0, 1) := by decide +kernel
theorem dX12_due_2 : decode cX12_due 2 = .ok (.putfield 1, 3) := by decide +kernel
theorem dX12_due_5 : decode cX12_due 5 = .ok (.aload_n 0, 1) := by decide +kernel
theorem dX12_due_6 : decode cX12_due 6 = .ok (.getfield 33, 3) := by decide +kernel
theorem dX12_due_9 : decode cX12_due 9 = .ok (.sipush 212, 3) := by decide +kernel
theorem dX12_due_12 : decode cX12_due 12 = .ok (.iaload, 1) := by decide +kernel
theorem dX12_due_13 : decode cX12_due 13 = .ok (.ifCond .eq 11, 3) := by decide +kernel
theorem dX12_due_16 : decode cX12_due 16 = .ok (.aload_n 0, 1) := by decide +kernel
theorem dX12_due_17 : decode cX12_due 17 = .ok (.iload_n 1, 1) := by decide +kernel
theorem dX12_due_18 : decode cX12_due 18 = .ok (.invokevirtual 269, 3) := by decide +kernel
theorem dX12_due_21 : decode cX12_due 21 = .ok (.ifCond .ne 5, 3) := by decide +kernel
theorem dX12_due_24 : decode cX12_due 24 = .ok (.iconst (-1), 1) := by decide +kernel
theorem dX12_due_25 : decode cX12_due 25 = .ok (.ireturn, 1) := by decide +kernel
theorem dX12_due_26 : decode cX12_due 26 = .ok (.aload_n 0, 1) := by decide +kernel
theorem dX12_due_27 : decode cX12_due 27 = .ok (.invokevirtual 360, 3) := by decide +kernel
theorem dX12_due_30 : decode cX12_due 30 = .ok (.aload_n 0, 1) := by decide +kernel
theorem dX12_due_31 : decode cX12_due 31 = .ok (.getfield 59, 3) := by decide +kernel
theorem dX12_due_34 : decode cX12_due 34 = .ok (.iload_n 1, 1) := by decide +kernel
theorem dX12_due_35 : decode cX12_due 35 = .ok (.iaload, 1) := by decide +kernel
theorem dX12_due_36 : decode cX12_due 36 = .ok (.ireturn, 1) := by decide +kernel
set_option maxRecDepth 20000 in
theorem ggX12_honest_X12_isMan : GoodIn wsX12_honest wsX12_isMan := goodIn_r _ [8, 2, 9, 10, 7, 11, 78, 79, 80, 81, 82, 83, 84, 85, 86, 87, 88, 89, 90, 91, 92, 93, 94, 95, 96, 97, 98, 99, 100, 101, 102, 103, 104, 105, 106, 107, 108, 109, 110, 111, 112, 113, 114, 115, 116, 117, 118, 119, 120, 121, 122, 123, 124] rfl (by decide +kernel)
set_option maxRecDepth 20000 in
theorem gX12_honest_X12_isMan : GoodIn wsX12_honest (wsV RX12 269 RX12 yX12_isMan wsX12_isMan) := goodIn_app (goodIn_of _ (by decide +kernel)) ggX12_honest_X12_isMan
set_option maxRecDepth 20000 in
theorem ggX12_honest_X12_isFlight : GoodIn wsX12_honest wsX12_isFlight := goodIn_r _ [15, 2, 9, 10, 7, 11, 78, 79, 80, 81, 82, 83, 84, 85, 86, 87, 88, 89, 90, 91, 92, 93, 94, 95, 96, 97, 98, 99, 100, 101, 102, 103, 104, 105, 106, 107, 108, 109, 110, 111, 112, 113, 114, 115, 116, 117, 118, 119, 120, 121, 122, 123, 124] rfl (by decide +kernel)
set_option maxRecDepth 20000 in
theorem gX12_honest_X12_isFlight : GoodIn wsX12_honest (wsV RX12 259 RX12 yX12_isFlight wsX12_isFlight) := goodIn_app (goodIn_of _ (by decide +kernel)) ggX12_honest_X12_isFlight
set_option maxRecDepth 20000 in
theorem ggX12_honest_X12_asNow : GoodIn wsX12_honest wsX12_asNow := goodIn_r _ [19, 2, 20, 21, 22, 7, 23, 24, 25, 26, 78, 79, 80, 81, 82, 83, 84, 85, 86, 87, 88, 89, 90, 91, 92, 93, 94, 95, 96, 97, 98, 99, 100, 101, 102, 103, 104, 105, 106, 107, 108, 109, 110, 111, 112, 113, 114, 115, 116, 117, 118, 119, 120, 121, 122, 123, 124] rfl (by decide +kernel)
set_option maxRecDepth 20000 in
theorem gX12_honest_X12_asNow : GoodIn wsX12_honest (wsV RX12 318 RX12 yX12_asNow wsX12_asNow) := goodIn_app (goodIn_of _ (by decide +kernel)) ggX12_honest_X12_asNow
set_option maxRecDepth 20000 in
theorem ggX12_honest_X12_sharesBy : GoodIn wsX12_honest wsX12_sharesBy := goodIn_r _ [30, 31, 32, 33, 7, 34, 35, 3, 36, 37, 38, 39, 2, 40, 41, 42, 43, 44, 45, 46, 47, 26, 24, 48, 49, 50, 51, 25, 52, 53, 54, 55, 56, 57, 58, 59, 60, 61, 62, 63, 64, 65, 66, 67, 68, 69, 70, 71, 72, 73, 74, 75, 76, 77, 78, 79, 80, 81, 82, 83, 84, 85, 86, 87, 88, 89, 90, 91, 92, 93, 94, 95, 96, 97, 98, 99, 100, 101, 102, 103, 104, 105, 106, 107, 108, 109, 110, 111, 112, 113, 114, 115, 116, 117, 118, 119, 120, 121, 122, 123, 124] rfl (by decide +kernel)
set_option maxRecDepth 20000 in
theorem gX12_honest_X12_sharesBy : GoodIn wsX12_honest (wsV RX12 366 RX12 yX12_sharesBy wsX12_sharesBy) := goodIn_app (goodIn_of _ (by decide +kernel)) ggX12_honest_X12_sharesBy
theorem dX12_honest_0 : decode cX12_honest 0 = .ok (.aload_n 0, 1) := by decide +kernel
theorem dX12_honest_1 : decode cX12_honest 1 = .ok (.iconst 0, 1) := by decide +kernel
theorem dX12_honest_2 : decode cX12_honest 2 = .ok (.putfield 1, 3) := by decide +kernel
theorem dX12_honest_5 : decode cX12_honest 5 = .ok (.aload_n 0, 1) := by decide +kernel
theorem dX12_honest_6 : decode cX12_honest 6 = .ok (.iload_n 1, 1) := by decide +kernel
theorem dX12_honest_7 : decode cX12_honest 7 = .ok (.invokevirtual 269, 3) := by decide +kernel
theorem dX12_honest_10 : decode cX12_honest 10 = .ok (.ifCond .eq 11, 3) := by decide +kernel
theorem dX12_honest_13 : decode cX12_honest 13 = .ok (.aload_n 0, 1) := by decide +kernel
theorem dX12_honest_14 : decode cX12_honest 14 = .ok (.iload_n 2, 1) := by decide +kernel
theorem dX12_honest_15 : decode cX12_honest 15 = .ok (.invokevirtual 259, 3) := by decide +kernel
theorem dX12_honest_18 : decode cX12_honest 18 = .ok (.ifCond .ne 5, 3) := by decide +kernel
theorem dX12_honest_21 : decode cX12_honest 21 = .ok (.iconst (-1), 1) := by decide +kernel
theorem dX12_honest_22 : decode cX12_honest 22 = .ok (.ireturn, 1) := by decide +kernel
theorem dX12_honest_23 : decode cX12_honest 23 = .ok (.aload_n 0, 1) := by decide +kernel
theorem dX12_honest_24 : decode cX12_honest 24 = .ok (.invokevirtual 318, 3) := by decide +kernel
theorem dX12_honest_27 : decode cX12_honest 27 = .ok (.aload_n 0, 1) := by decide +kernel
theorem dX12_honest_28 : decode cX12_honest 28 = .ok (.iload_n 2, 1) := by decide +kernel
theorem dX12_honest_29 : decode cX12_honest 29 = .ok (.aload_n 0, 1) := by decide +kernel
theorem dX12_honest_30 : decode cX12_honest 30 = .ok (.getfield 33, 3) := by decide +kernel
theorem dX12_honest_33 : decode cX12_honest 33 = .ok (.iconst 4, 1) := by decide +kernel
theorem dX12_honest_34 : decode cX12_honest 34 = .ok (.iaload, 1) := by decide +kernel
theorem dX12_honest_35 : decode cX12_honest 35 = .ok (.invokevirtual 366, 3) := by decide +kernel
theorem dX12_honest_38 : decode cX12_honest 38 = .ok (.aload_n 0, 1) := by decide +kernel
theorem dX12_honest_39 : decode cX12_honest 39 = .ok (.getfield 59, 3) := by decide +kernel
theorem dX12_honest_42 : decode cX12_honest 42 = .ok (.iload_n 1, 1) := by decide +kernel
theorem dX12_honest_43 : decode cX12_honest 43 = .ok (.iaload, 1) := by decide +kernel
theorem dX12_honest_44 : decode cX12_honest 44 = .ok (.ireturn, 1) := by decide +kernel
theorem dX12_chances_0 : decode cX12_chances 0 = .ok (.iconst 0, 1) := by decide +kernel
theorem dX12_chances_1 : decode cX12_chances 1 = .ok (.istore_n 1, 1) := by decide +kernel
theorem dX12_chances_2 : decode cX12_chances 2 = .ok (.iconst 0, 1) := by decide +kernel
theorem dX12_chances_3 : decode cX12_chances 3 = .ok (.istore_n 2, 1) := by decide +kernel
theorem dX12_chances_4 : decode cX12_chances 4 = .ok (.iload_n 2, 1) := by decide +kernel
theorem dX12_chances_5 : decode cX12_chances 5 = .ok (.aload_n 0, 1) := by decide +kernel
theorem dX12_chances_6 : decode cX12_chances 6 = .ok (.getfield 33, 3) := by decide +kernel
theorem dX12_chances_9 : decode cX12_chances 9 = .ok (.iconst 2, 1) := by decide +kernel
theorem dX12_chances_10 : decode cX12_chances 10 = .ok (.iaload, 1) := by decide +kernel
theorem dX12_chances_11 : decode cX12_chances 11 = .ok (.if_icmp .ge 21, 3) := by decide +kernel
theorem dX12_chances_14 : decode cX12_chances 14 = .ok (.iload_n 1, 1) := by decide +kernel
theorem dX12_chances_15 : decode cX12_chances 15 = .ok (.aload_n 0, 1) := by decide +kernel
theorem dX12_chances_16 : decode cX12_chances 16 = .ok (.getfield 33, 3) := by decide +kernel
theorem dX12_chances_19 : decode cX12_chances 19 = .ok (.bipush 79, 2) := by decide +kernel
theorem dX12_chances_21 : decode cX12_chances 21 = .ok (.iload_n 2, 1) := by decide +kernel
theorem dX12_chances_22 : decode cX12_chances 22 = .ok (.iadd, 1) := by decide +kernel
theorem dX12_chances_23 : decode cX12_chances 23 = .ok (.iaload, 1) := by decide +kernel
theorem dX12_chances_24 : decode cX12_chances 24 = .ok (.iadd, 1) := by decide +kernel
theorem dX12_chances_25 : decode cX12_chances 25 = .ok (.istore_n 1, 1) := by decide +kernel
theorem dX12_chances_26 : decode cX12_chances 26 = .ok (.iinc 2 1, 3) := by decide +kernel
theorem dX12_chances_29 : decode cX12_chances 29 = .ok (.goto (-25), 3) := by decide +kernel
theorem dX12_chances_32 : decode cX12_chances 32 = .ok (.iload_n 1, 1) := by decide +kernel
theorem dX12_chances_33 : decode cX12_chances 33 = .ok (.ireturn, 1) := by decide +kernel
set_option maxRecDepth 20000 in
theorem ggX12_meanOf_X12_sharesBy : GoodIn wsX12_meanOf wsX12_sharesBy := goodIn_r _ [7, 8, 9, 10, 6, 11, 12, 2, 13, 14, 15, 16, 1, 17, 18, 19, 20, 21, 22, 23, 24, 25, 26, 27, 28, 29, 30, 31, 32, 33, 34, 35, 36, 37, 38, 39, 40, 41, 42, 43, 44, 45, 46, 47, 48, 49, 50, 51, 52, 53, 54, 55, 56, 57, 58, 59, 60, 61, 62, 63, 64, 65, 66, 67, 68, 69, 70, 71, 72, 73, 74, 75, 76, 77, 78, 79, 80, 81, 82, 83, 84, 85, 86, 87, 88, 89, 90, 91, 92, 93, 94, 95, 96, 97, 98, 99, 100, 101, 102, 103, 104] rfl (by decide +kernel)
set_option maxRecDepth 20000 in
theorem gX12_meanOf_X12_sharesBy : GoodIn wsX12_meanOf (wsV RX12 366 RX12 yX12_sharesBy wsX12_sharesBy) := goodIn_app (goodIn_of _ (by decide +kernel)) ggX12_meanOf_X12_sharesBy
theorem dX12_meanOf_0 : decode cX12_meanOf 0 = .ok (.iconst 0, 1) := by decide +kernel
theorem dX12_meanOf_1 : decode cX12_meanOf 1 = .ok (.istore_n 2, 1) := by decide +kernel
theorem dX12_meanOf_2 : decode cX12_meanOf 2 = .ok (.iconst 0, 1) := by decide +kernel
theorem dX12_meanOf_3 : decode cX12_meanOf 3 = .ok (.istore_n 3, 1) := by decide +kernel
theorem dX12_meanOf_4 : decode cX12_meanOf 4 = .ok (.iload_n 3, 1) := by decide +kernel
theorem dX12_meanOf_5 : decode cX12_meanOf 5 = .ok (.aload_n 0, 1) := by decide +kernel
theorem dX12_meanOf_6 : decode cX12_meanOf 6 = .ok (.getfield 33, 3) := by decide +kernel
theorem dX12_meanOf_9 : decode cX12_meanOf 9 = .ok (.iconst 2, 1) := by decide +kernel
theorem dX12_meanOf_10 : decode cX12_meanOf 10 = .ok (.iaload, 1) := by decide +kernel
theorem dX12_meanOf_11 : decode cX12_meanOf 11 = .ok (.if_icmp .ge 39, 3) := by decide +kernel
theorem dX12_meanOf_14 : decode cX12_meanOf 14 = .ok (.aload_n 0, 1) := by decide +kernel
theorem dX12_meanOf_15 : decode cX12_meanOf 15 = .ok (.iload_n 3, 1) := by decide +kernel
theorem dX12_meanOf_16 : decode cX12_meanOf 16 = .ok (.aload_n 0, 1) := by decide +kernel
theorem dX12_meanOf_17 : decode cX12_meanOf 17 = .ok (.getfield 33, 3) := by decide +kernel
theorem dX12_meanOf_20 : decode cX12_meanOf 20 = .ok (.iconst 4, 1) := by decide +kernel
theorem dX12_meanOf_21 : decode cX12_meanOf 21 = .ok (.iaload, 1) := by decide +kernel
theorem dX12_meanOf_22 : decode cX12_meanOf 22 = .ok (.invokevirtual 366, 3) := by decide +kernel
theorem dX12_meanOf_25 : decode cX12_meanOf 25 = .ok (.iload_n 2, 1) := by decide +kernel
theorem dX12_meanOf_26 : decode cX12_meanOf 26 = .ok (.aload_n 0, 1) := by decide +kernel
theorem dX12_meanOf_27 : decode cX12_meanOf 27 = .ok (.getfield 33, 3) := by decide +kernel
theorem dX12_meanOf_30 : decode cX12_meanOf 30 = .ok (.bipush 79, 2) := by decide +kernel
theorem dX12_meanOf_32 : decode cX12_meanOf 32 = .ok (.iload_n 3, 1) := by decide +kernel
theorem dX12_meanOf_33 : decode cX12_meanOf 33 = .ok (.iadd, 1) := by decide +kernel
theorem dX12_meanOf_34 : decode cX12_meanOf 34 = .ok (.iaload, 1) := by decide +kernel
theorem dX12_meanOf_35 : decode cX12_meanOf 35 = .ok (.aload_n 0, 1) := by decide +kernel
theorem dX12_meanOf_36 : decode cX12_meanOf 36 = .ok (.getfield 59, 3) := by decide +kernel
theorem dX12_meanOf_39 : decode cX12_meanOf 39 = .ok (.iload_n 1, 1) := by decide +kernel
theorem dX12_meanOf_40 : decode cX12_meanOf 40 = .ok (.iaload, 1) := by decide +kernel
theorem dX12_meanOf_41 : decode cX12_meanOf 41 = .ok (.imul, 1) := by decide +kernel
theorem dX12_meanOf_42 : decode cX12_meanOf 42 = .ok (.iadd, 1) := by decide +kernel
