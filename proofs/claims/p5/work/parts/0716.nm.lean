set_option maxRecDepth 20000 in
theorem gX12_due_X12_isMan : GoodIn wsX12_due (wsV RX12 269 RX12 yX12_isMan wsX12_isMan) := goodIn_app (goodIn_of _ (by decide +kernel)) ggX12_due_X12_isMan
set_option maxRecDepth 20000 in
theorem ggX12_due_X12_sharesNow : GoodIn wsX12_due wsX12_sharesNow := goodIn_r _ [15, 2, 16, 17, 18, 19, 7, 20, 21, 3, 22, 23, 24, 25, 26, 27, 28, 29, 30, 31, 32, 33, 34, 35, 36, 37, 38, 39, 40, 41, 42, 43, 44, 45, 46, 47, 48, 49, 50, 51, 52, 53, 54, 55, 56, 57, 58, 59, 60, 61, 62, 63, 64, 65, 66, 67, 68, 69, 70, 71, 72, 73, 74, 75, 76, 77, 78, 79, 80, 81, 82, 83, 84, 85, 86, 87, 88, 89, 90, 91, 92, 93] rfl (by decide +kernel)
set_option maxRecDepth 20000 in
theorem gX12_due_X12_sharesNow : GoodIn wsX12_due (wsV RX12 360 RX12 yX12_sharesNow wsX12_sharesNow) := goodIn_app (goodIn_of _ (by decide +kernel)) ggX12_due_X12_sharesNow
theorem dX12_due_0 : decode cX12_due 0 = .ok (.aload_n 0, 1) := by decide +kernel
theorem dX12_due_1 : decode cX12_due 1 = .ok (.iconst 0, 1) := by decide +kernel
theorem dX12_due_2 : decode cX12_due 2 = .ok (.putfield 1, 3) := by decide +kernel
theorem dX12_due_5 : decode cX12_due 5 = .ok (.aload_n 0, 1) := by decide +kernel
theorem dX12_due_6 : decode cX12_due 6 = .ok (.getfield 33, 3) := by decide +kernel
theorem dX12_due_9 : decode cX12_due 9 = .ok (.sipush 212, 3) := by decide +kernel
theorem dX12_due_12 : decode cX12_due 12 = .ok (.iaload, 1) := by decide +kernel
theorem dX12_due_13 : decode cX12_due 13 = .ok (.ifCond .eq 11, 3) := by decide +kernel
theorem dX12_due_16 : decode cX12_due 16 = .ok (.aload_n 0, 1) := by decide +kernel
theorem dX12_due_17 : decode cX12_due 17 = .ok (.iload_n 1, 1) := by decide +kernel
theorem dX12_due_18 : decode cX12_due 18 = .ok (.invokevirtual 269, 3) := by decide +kernel
theorem dX12_due_21 : decode cX12_due 21 = .ok (.ifCond .ne 5, 3) := by decide +kernel
theorem dX12_due_24 : decode cX12_due 24 = .ok (.iconst (-1), 1) := by decide +kernel
theorem dX12_due_25 : decode cX12_due 25 = .ok (.ireturn, 1) := by decide +kernel
theorem dX12_due_26 : decode cX12_due 26 = .ok (.aload_n 0, 1) := by decide +kernel
theorem dX12_due_27 : decode cX12_due 27 = .ok (.invokevirtual 360, 3) := by decide +kernel
theorem dX12_due_30 : decode cX12_due 30 = .ok (.aload_n 0, 1) := by decide +kernel
theorem dX12_due_31 : decode cX12_due 31 = .ok (.getfield 59, 3) := by decide +kernel
theorem dX12_due_34 : decode cX12_due 34 = .ok (.iload_n 1, 1) := by decide +kernel
theorem dX12_due_35 : decode cX12_due 35 = .ok (.iaload, 1) := by decide +kernel
theorem dX12_due_36 : decode cX12_due 36 = .ok (.ireturn, 1) := by decide +kernel
set_option maxRecDepth 20000 in
theorem ggX12_honest_X12_isMan : GoodIn wsX12_honest wsX12_isMan := goodIn_r _ [8, 2, 9, 10, 7, 11, 78, 79, 80, 81, 82, 83, 84, 85, 86, 87, 88, 89, 90, 91, 92, 93, 94, 95, 96, 97, 98, 99, 100, 101, 102, 103, 104, 105, 106, 107, 108, 109, 110, 111, 112, 113, 114, 115, 116, 117, 118, 119, 120, 121, 122, 123, 124] rfl (by decide +kernel)
set_option maxRecDepth 20000 in
theorem gX12_honest_X12_isMan : GoodIn wsX12_honest (wsV RX12 269 RX12 yX12_isMan wsX12_isMan) := goodIn_app (goodIn_of _ (by decide +kernel)) ggX12_honest_X12_isMan
set_option maxRecDepth 20000 in
theorem ggX12_honest_X12_isFlight : GoodIn wsX12_honest wsX12_isFlight := goodIn_r _ [15, 2, 9, 10, 7, 11, 78, 79, 80, 81, 82, 83, 84, 85, 86, 87, 88, 89, 90, 91, 92, 93, 94, 95, 96, 97, 98, 99, 100, 101, 102, 103, 104, 105, 106, 107, 108, 109, 110, 111, 112, 113, 114, 115, 116, 117, 118, 119, 120, 121, 122, 123, 124] rfl (by decide +kernel)
set_option maxRecDepth 20000 in
theorem gX12_honest_X12_isFlight : GoodIn wsX12_honest (wsV RX12 259 RX12 yX12_isFlight wsX12_isFlight) := goodIn_app (goodIn_of _ (by decide +kernel)) ggX12_honest_X12_isFlight
set_option maxRecDepth 20000 in
theorem ggX12_honest_X12_asNow : GoodIn wsX12_honest wsX12_asNow := goodIn_r _ [19, 2, 20, 21, 22, 7, 23, 24, 25, 26, 78, 79, 80, 81, 82, 83, 84, 85, 86, 87, 88, 89, 90, 91, 92, 93, 94, 95, 96, 97, 98, 99, 100, 101, 102, 103, 104, 105, 106, 107, 108, 109, 110, 111, 112, 113, 114, 115, 116, 117, 118, 119, 120, 121, 122, 123, 124] rfl (by decide +kernel)
set_option maxRecDepth 20000 in
theorem gX12_honest_X12_asNow : GoodIn wsX12_honest (wsV RX12 318 RX12 yX12_asNow wsX12_asNow) := goodIn_app (goodIn_of _ (by decide +kernel)) ggX12_honest_X12_asNow
set_option maxRecDepth 20000 in
theorem ggX12_honest_X12_sharesBy : GoodIn wsX12_honest wsX12_sharesBy := goodIn_r _ [30, 31, 32, 33, 7, 34, 35, 3, 36, 37, 38, 39, 2, 40, 41, 42, 43, 44, 45, 46, 47, 26, 24, 48, 49, 50, 51, 25, 52, 53, 54, 55, 56, 57, 58, 59, 60, 61, 62, 63, 64, 65, 66, 67, 68, 69, 70, 71, 72, 73, 74, 75, 76, 77, 78, 79, 80, 81, 82, 83, 84, 85, 86, 87, 88, 89, 90, 91, 92, 93, 94, 95, 96, 97, 98, 99, 100, 101, 102, 103, 104, 105, 106, 107, 108, 109, 110, 111, 112, 113, 114, 115, 116, 117, 118, 119, 120, 121, 122, 123, 124] rfl (by decide +kernel)
set_option maxRecDepth 20000 in
theorem gX12_honest_X12_sharesBy : GoodIn wsX12_honest (wsV RX12 366 RX12 yX12_sharesBy wsX12_sharesBy) := goodIn_app (goodIn_of _ (by decide +kernel)) ggX12_honest_X12_sharesBy
theorem dX12_honest_0 : decode cX12_honest 0 = .ok (.aload_n 0, 1) := by decide +kernel
theorem dX12_honest_1 : decode cX12_honest 1 = .ok (.iconst 0, 1) := by decide +kernel
theorem dX12_honest_2 : decode cX12_honest 2 = .ok (.putfield 1, 3) := by decide +kernel
theorem dX12_honest_5 : decode cX12_honest 5 = .ok (.aload_n 0, 1) := by decide +kernel
theorem dX12_honest_6 : decode cX12_honest 6 = .ok (.iload_n 1, 1) := by decide +kernel
theorem dX12_honest_7 : decode cX12_honest 7 = .ok (.invokevirtual 269, 3) := by decide +kernel
theorem dX12_honest_10 : decode cX12_honest 10 = .ok (.ifCond .eq 11, 3) := by decide +kernel
theorem dX12_honest_13 : decode cX12_honest 13 = .ok (.aload_n 0, 1) := by decide +kernel
theorem dX12_honest_14 : decode cX12_honest 14 = .ok (.iload_n 2, 1) := by decide +kernel
theorem dX12_honest_15 : decode cX12_honest 15 = .ok (.invokevirtual 259, 3) := by decide +kernel
theorem dX12_honest_18 : decode cX12_honest 18 = .ok (.ifCond .ne 5, 3) := by decide +kernel
theorem dX12_honest_21 : decode cX12_honest 21 = .ok (.iconst (-1), 1) := by decide +kernel
theorem dX12_honest_22 : decode cX12_honest 22 = .ok (.ireturn, 1) := by decide +kernel
theorem dX12_honest_23 : decode cX12_honest 23 = .ok (.aload_n 0, 1) := by decide +kernel
theorem dX12_honest_24 : decode cX12_honest 24 = .ok (.invokevirtual 318, 3) := by decide +kernel
theorem dX12_honest_27 : decode cX12_honest 27 = .ok (.aload_n 0, 1) := by decide +kernel
theorem dX12_honest_28 : decode cX12_honest 28 = .ok (.iload_n 2, 1) := by decide +kernel
theorem dX12_honest_29 : decode cX12_honest 29 = .ok (.aload_n 0, 1) := by decide +kernel
theorem dX12_honest_30 : decode cX12_honest 30 = .ok (.getfield 33, 3) := by decide +kernel
theorem dX12_honest_33 : decode cX12_honest 33 = .ok (.iconst 4, 1) := by decide +kernel
theorem dX12_honest_34 : decode cX12_honest 34 = .ok (.iaload, 1) := by decide +kernel
theorem dX12_honest_35 : decode cX12_honest 35 = .ok (.invokevirtual 366, 3) := by decide +kernel
theorem dX12_honest_38 : decode cX12_honest 38 = .ok (.aload_n 0, 1) := by decide +kernel
theorem dX12_honest_39 : decode cX12_honest 39 = .ok (.getfield 59, 3) := by decide +kernel
theorem dX12_honest_42 : decode cX12_honest 42 = .ok (.iload_n 1, 1) := by decide +kernel
theorem dX12_honest_43 : decode cX12_honest 43 = .ok (.iaload, 1) := by decide +kernel
theorem dX12_honest_44 : decode cX12_honest 44 = .ok (.ireturn, 1) := by decide +kernel
theorem dX12_chances_0 : decode cX12_chances 0 = .ok (.iconst 0, 1) := by decide +kernel
theorem dX12_chances_1 : decode cX12_chances 1 = .ok (.istore_n 1, 1) := by decide +kernel
theorem dX12_chances_2 : decode cX12_chances 2 = .ok (.iconst 0, 1) := by decide +kernel
theorem dX12_chances_3 : decode cX12_chances 3 = .ok (.istore_n 2, 1) := by decide +kernel
theorem dX12_chances_4 : decode cX12_chances 4 = .ok (.iload_n 2, 1) := by decide +kernel
theorem dX12_chances_5 : decode cX12_chances 5 = .ok (.aload_n 0, 1) := by decide +kernel
theorem dX12_chances_6 : decode cX12_chances 6 = .ok (.getfield 33, 3) := by decide +kernel
theorem dX12_chances_9 : decode cX12_chances 9 = .ok (.iconst 2, 1) := by decide +kernel
theorem dX12_chances_10 : decode cX12_chances 10 = .ok (.iaload, 1) := by decide +kernel
theorem dX12_chances_11 : decode cX12_chances 11 = .ok (.if_icmp .ge 21, 3) := by decide +kernel
theorem dX12_chances_14 : decode cX12_chances 14 = .ok (.iload_n 1, 1) := by decide +kernel
theorem dX12_chances_15 : decode cX12_chances 15 = .ok (.aload_n 0, 1) := by decide +kernel
theorem dX12_chances_16 : decode cX12_chances 16 = .ok (.getfield 33, 3) := by decide +kernel
theorem dX12_chances_19 : decode cX12_chances 19 = .ok (.bipush 79, 2) := by decide +kernel
theorem dX12_chances_21 : decode cX12_chances 21 = .ok (.iload_n 2, 1) := by decide +kernel
theorem dX12_chances_22 : decode cX12_chances 22 = .ok (.iadd, 1) := by decide +kernel
theorem dX12_chances_23 : decode cX12_chances 23 = .ok (.iaload, 1) := by decide +kernel
theorem dX12_chances_24 : decode cX12_chances 24 = .ok (.iadd, 1) := by decide +kernel
theorem dX12_chances_25 : decode cX12_chances 25 = .ok (.istore_n 1, 1) := by decide +kernel
theorem dX12_chances_26 : decode cX12_chances 26 = .ok (.iinc 2 1, 3) := by decide +kernel
theorem dX12_chances_29 : decode cX12_chances 29 = .ok (.goto (-25), 3) := by decide +kernel
theorem dX12_chances_32 : decode cX12_chances 32 = .ok (.iload_n 1, 1) := by decide +kernel
theorem dX12_chances_33 : decode cX12_chances 33 = .ok (.ireturn, 1) := by decide +kernel
set_option maxRecDepth 20000 in
theorem ggX12_meanOf_X12_sharesBy : GoodIn wsX12_meanOf wsX12_sharesBy := goodIn_r _ [7, 8, 9, 10, 6, 11, 12, 2, 13, 14, 15, 16, 1, 17, 18, 19, 20, 21, 22, 23, 24, 25, 26, 27, 28, 29, 30, 31, 32, 33, 34, 35, 36, 37, 38, 39, 40, 41, 42, 43, 44, 45, 46, 47, 48, 49, 50, 51, 52, 53, 54, 55, 56, 57, 58, 59, 60, 61, 62, 63, 64, 65, 66, 67, 68, 69, 70, 71, 72, 73, 74, 75, 76, 77, 78, 79, 80, 81, 82, 83, 84, 85, 86, 87, 88, 89, 90, 91, 92, 93, 94, 95, 96, 97, 98, 99, 100, 101, 102, 103, 104] rfl (by decide +kernel)
set_option maxRecDepth 20000 in
theorem gX12_meanOf_X12_sharesBy : GoodIn wsX12_meanOf (wsV RX12 366 RX12 yX12_sharesBy wsX12_sharesBy) := goodIn_app (goodIn_of _ (by decide +kernel)) ggX12_meanOf_X12_sharesBy
theorem dX12_meanOf_0 : decode cX12_meanOf 0 = .ok (.iconst 0, 1) := by decide +kernel
theorem dX12_meanOf_1 : decode cX12_meanOf 1 = .ok (.istore_n 2, 1) := by decide +kernel
theorem dX12_meanOf_2 : decode cX12_meanOf 2 = .ok (.iconst 0, 1) := by decide +kernel
theorem dX12_meanOf_3 : decode cX12_meanOf 3 = .ok (.istore_n 3, 1) := by decide +kernel
theorem dX12_meanOf_4 : decode cX12_meanOf 4 = .ok (.iload_n 3, 1) := by decide +kernel
theorem dX12_meanOf_5 : decode cX12_meanOf 5 = .ok (.aload_n 0, 1) := by decide +kernel
theorem dX12_meanOf_6 : decode cX12_meanOf 6 = .ok (.getfield 33, 3) := by decide +kernel
theorem dX12_meanOf_9 : decode cX12_meanOf 9 = .ok (.iconst 2, 1) := by decide +kernel
theorem dX12_meanOf_10 : decode cX12_meanOf 10 = .ok (.iaload, 1) := by decide +kernel
theorem dX12_meanOf_11 : decode cX12_meanOf 11 = .ok (.if_icmp .ge 39, 3) := by decide +kernel
theorem dX12_meanOf_14 : decode cX12_meanOf 14 = .ok (.aload_n 0, 1) := by decide +kernel
theorem dX12_meanOf_15 : decode cX12_meanOf 15 = .ok (.iload_n 3, 1) := by decide +kernel
theorem dX12_meanOf_16 : decode cX12_meanOf 16 = .ok (.aload_n 0, 1) := by decide +kernel
theorem dX12_meanOf_17 : decode cX12_meanOf 17 = .ok (.getfield 33, 3) := by decide +kernel
theorem dX12_meanOf_20 : decode cX12_meanOf 20 = .ok (.iconst 4, 1) := by decide +kernel
theorem dX12_meanOf_21 : decode cX12_meanOf 21 = .ok (.iaload, 1) := by decide +kernel
theorem dX12_meanOf_22 : decode cX12_meanOf 22 = .ok (.invokevirtual 366, 3) := by decide +kernel
theorem dX12_meanOf_25 : decode cX12_meanOf 25 = .ok (.iload_n 2, 1) := by decide +kernel
theorem dX12_meanOf_26 : decode cX12_meanOf 26 = .ok (.aload_n 0, 1) := by decide +kernel
theorem dX12_meanOf_27 : decode cX12_meanOf 27 = .ok (.getfield 33, 3) := by decide +kernel
theorem dX12_meanOf_30 : decode cX12_meanOf 30 = .ok (.bipush 79, 2) := by decide +kernel
theorem dX12_meanOf_32 : decode cX12_meanOf 32 = .ok (.iload_n 3, 1) := by decide +kernel
theorem dX12_meanOf_33 : decode cX12_meanOf 33 = .ok (.iadd, 1) := by decide +kernel
theorem dX12_meanOf_34 : decode cX12_meanOf 34 = .ok (.iaload, 1) := by decide +kernel
theorem dX12_meanOf_35 : decode cX12_meanOf 35 = .ok (.aload_n 0, 1) := by decide +kernel
theorem dX12_meanOf_36 : decode cX12_meanOf 36 = .ok (.getfield 59, 3) := by decide +kernel
theorem dX12_meanOf_39 : decode cX12_meanOf 39 = .ok (.iload_n 1, 1) := by decide +kernel
theorem dX12_meanOf_40 : decode cX12_meanOf 40 = .ok (.iaload, 1) := by decide +kernel
theorem dX12_meanOf_41 : decode cX12_meanOf 41 = .ok (.imul, 1) := by decide +kernel
theorem dX12_meanOf_42 : decode cX12_meanOf 42 = .ok (.iadd, 1) := by decide +kernel
theorem dX12_meanOf_43 : decode cX12_meanOf 43 = .ok (.istore_n 2, 1) := by decide +kernel
theorem dX12_meanOf_44 : decode cX12_meanOf 44 = .ok (.iinc 3 1, 3) := by decide +kernel
theorem dX12_meanOf_47 : decode cX12_meanOf 47 = .ok (.goto (-43), 3) := by decide +kernel
theorem dX12_meanOf_50 : decode cX12_meanOf 50 = .ok (.iload_n 2, 1) := by decide +kernel
theorem dX12_meanOf_51 : decode cX12_meanOf 51 = .ok (.ireturn, 1) := by decide +kernel
set_option maxRecDepth 20000 in
theorem ggX12_mean_X12_isMan : GoodIn wsX12_mean wsX12_isMan := goodIn_r _ [6, 1, 7, 8, 5, 9, 89, 90, 91, 92, 93, 94, 95, 96, 97, 98, 99, 100, 101, 102, 103, 104, 105, 106, 107, 108, 109, 110, 111, 112, 113, 114, 115, 116, 117, 118, 119, 120, 121, 122, 123, 124, 125, 126, 127, 128, 129, 130, 131, 132, 133, 134, 135] rfl (by decide +kernel)
set_option maxRecDepth 20000 in
theorem gX12_mean_X12_isMan : GoodIn wsX12_mean (wsV RX12 269 RX12 yX12_isMan wsX12_isMan) := goodIn_app (goodIn_of _ (by decide +kernel)) ggX12_mean_X12_isMan
set_option maxRecDepth 20000 in
theorem ggX12_mean_X12_isIn : GoodIn wsX12_mean wsX12_isIn := goodIn_r _ [9] rfl (by decide +kernel)
set_option maxRecDepth 20000 in
theorem gX12_mean_X12_isIn : GoodIn wsX12_mean (va_wsS RX12 191 yX12_isIn wsX12_isIn) := goodIn_app (goodIn_of _ (by decide +kernel)) ggX12_mean_X12_isIn
set_option maxRecDepth 20000 in
theorem ggX12_mean_X12_throwsIf : GoodIn wsX12_mean wsX12_throwsIf := goodIn_r _ [13, 14, 89, 90, 91, 92, 93, 94, 95, 96, 97, 98, 99, 100, 101, 102, 103, 104, 105, 106, 107, 108, 109, 110, 111, 112, 113, 114, 115, 116, 117, 118, 119, 120, 121, 122, 123, 124, 125, 126, 127, 128, 129, 130, 131, 132, 133, 134, 135] rfl (by decide +kernel)
set_option maxRecDepth 20000 in
theorem gX12_mean_X12_throwsIf : GoodIn wsX12_mean (wsV RX12 272 RX12 yX12_throwsIf wsX12_throwsIf) := goodIn_app (goodIn_of _ (by decide +kernel)) ggX12_mean_X12_throwsIf
set_option maxRecDepth 20000 in
theorem ggX12_mean_X12_asNow : GoodIn wsX12_mean wsX12_asNow := goodIn_r _ [18, 1, 19, 20, 21, 5, 22, 23, 24, 25, 89, 90, 91, 92, 93, 94, 95, 96, 97, 98, 99, 100, 101, 102, 103, 104, 105, 106, 107, 108, 109, 110, 111, 112, 113, 114, 115, 116, 117, 118, 119, 120, 121, 122, 123, 124, 125, 126, 127, 128, 129, 130, 131, 132, 133, 134, 135] rfl (by decide +kernel)
set_option maxRecDepth 20000 in
theorem gX12_mean_X12_asNow : GoodIn wsX12_mean (wsV RX12 318 RX12 yX12_asNow wsX12_asNow) := goodIn_app (goodIn_of _ (by decide +kernel)) ggX12_mean_X12_asNow
set_option maxRecDepth 20000 in
theorem ggX12_mean_X12_meanOf : GoodIn wsX12_mean wsX12_meanOf := goodIn_r _ [29, 1, 30, 31, 32, 33, 5, 34, 35, 36, 37, 38, 39, 40, 41, 42, 43, 44, 45, 46, 47, 48, 49, 50, 51, 25, 23, 52, 53, 54, 55, 24, 56, 57, 58, 59, 60, 61, 62, 63, 64, 65, 66, 67, 68, 69, 70, 71, 72, 73, 74, 75, 76, 77, 78, 79, 80, 81, 89, 90, 91, 92, 93, 94, 95, 96, 97, 98, 99, 100, 101, 102, 103, 104, 105, 106, 107, 108, 109, 110, 111, 112, 113, 114, 115, 116, 117, 118, 119, 120, 121, 122, 123, 124, 125, 126, 127, 128, 129, 130, 131, 132, 133, 134, 135] rfl (by decide +kernel)
set_option maxRecDepth 20000 in
theorem gX12_mean_X12_meanOf : GoodIn wsX12_mean (wsV RX12 369 RX12 yX12_meanOf wsX12_meanOf) := goodIn_app (goodIn_of _ (by decide +kernel)) ggX12_mean_X12_meanOf
set_option maxRecDepth 20000 in
theorem ggX12_mean_X12_chances : GoodIn wsX12_mean wsX12_chances := goodIn_r _ [85, 1, 89, 90, 91, 92, 93, 94, 95, 96, 97, 98, 99, 100, 101, 102, 103, 104, 105, 106, 107, 108, 109, 110, 111, 112, 113, 114, 115, 116, 117, 118, 119, 120, 121, 122, 123, 124, 125, 126, 127, 128, 129, 130, 131, 132, 133, 134, 135] rfl (by decide +kernel)
set_option maxRecDepth 20000 in
theorem gX12_mean_X12_chances : GoodIn wsX12_mean (wsV RX12 372 RX12 yX12_chances wsX12_chances) := goodIn_app (goodIn_of _ (by decide +kernel)) ggX12_mean_X12_chances
set_option maxRecDepth 20000 in
theorem ggX12_mean_X12_part : GoodIn wsX12_mean wsX12_part := goodIn_r _ [88] rfl (by decide +kernel)
set_option maxRecDepth 20000 in
theorem gX12_mean_X12_part : GoodIn wsX12_mean (va_wsS RX12 375 yX12_part wsX12_part) := goodIn_app (goodIn_of _ (by decide +kernel)) ggX12_mean_X12_part
theorem dX12_mean_0 : decode cX12_mean 0 = .ok (.aload_n 0, 1) := by decide +kernel
theorem dX12_mean_1 : decode cX12_mean 1 = .ok (.aload_n 0, 1) := by decide +kernel
theorem dX12_mean_2 : decode cX12_mean 2 = .ok (.iload_n 1, 1) := by decide +kernel
theorem dX12_mean_3 : decode cX12_mean 3 = .ok (.invokevirtual 269, 3) := by decide +kernel
theorem dX12_mean_6 : decode cX12_mean 6 = .ok (.ifCond .eq 21, 3) := by decide +kernel
theorem dX12_mean_9 : decode cX12_mean 9 = .ok (.aload_n 0, 1) := by decide +kernel
theorem dX12_mean_10 : decode cX12_mean 10 = .ok (.getfield 33, 3) := by decide +kernel
theorem dX12_mean_13 : decode cX12_mean 13 = .ok (.iconst 2, 1) := by decide +kernel
theorem dX12_mean_14 : decode cX12_mean 14 = .ok (.iaload, 1) := by decide +kernel
theorem dX12_mean_15 : decode cX12_mean 15 = .ok (.ifCond .eq 12, 3) := by decide +kernel
theorem dX12_mean_18 : decode cX12_mean 18 = .ok (.iload_n 2, 1) := by decide +kernel
theorem dX12_mean_19 : decode cX12_mean 19 = .ok (.iconst 0, 1) := by decide +kernel
theorem dX12_mean_20 : decode cX12_mean 20 = .ok (.iconst 1, 1) := by decide +kernel
theorem dX12_mean_21 : decode cX12_mean 21 = .ok (.invokestatic 191, 3) := by decide +kernel
theorem dX12_mean_24 : decode cX12_mean 24 = .ok (.ifCond .ne 7, 3) := by decide +kernel
theorem dX12_mean_27 : decode cX12_mean 27 = .ok (.iconst 1, 1) := by decide +kernel
theorem dX12_mean_28 : decode cX12_mean 28 = .ok (.goto 4, 3) := by decide +kernel
theorem dX12_mean_31 : decode cX12_mean 31 = .ok (.iconst 0, 1) := by decide +kernel
theorem dX12_mean_32 : decode cX12_mean 32 = .ok (.invokevirtual 272, 3) := by decide +kernel
theorem dX12_mean_35 : decode cX12_mean 35 = .ok (.ifCond .eq 5, 3) := by decide +kernel
theorem dX12_mean_38 : decode cX12_mean 38 = .ok (.iconst 0, 1) := by decide +kernel
theorem dX12_mean_39 : decode cX12_mean 39 = .ok (.ireturn, 1) := by decide +kernel
theorem dX12_mean_40 : decode cX12_mean 40 = .ok (.aload_n 0, 1) := by decide +kernel
theorem dX12_mean_41 : decode cX12_mean 41 = .ok (.invokevirtual 318, 3) := by decide +kernel
theorem dX12_mean_44 : decode cX12_mean 44 = .ok (.aload_n 0, 1) := by decide +kernel
theorem dX12_mean_45 : decode cX12_mean 45 = .ok (.iload_n 1, 1) := by decide +kernel
theorem dX12_mean_46 : decode cX12_mean 46 = .ok (.invokevirtual 369, 3) := by decide +kernel
theorem dX12_mean_49 : decode cX12_mean 49 = .ok (.aload_n 0, 1) := by decide +kernel
theorem dX12_mean_50 : decode cX12_mean 50 = .ok (.invokevirtual 372, 3) := by decide +kernel
theorem dX12_mean_53 : decode cX12_mean 53 = .ok (.iload_n 2, 1) := by decide +kernel
theorem dX12_mean_54 : decode cX12_mean 54 = .ok (.invokestatic 375, 3) := by decide +kernel
theorem dX12_mean_57 : decode cX12_mean 57 = .ok (.ireturn, 1) := by decide +kernel
set_option maxRecDepth 20000 in
theorem ggX12_tellsBetter_X12_chances : GoodIn wsX12_tellsBetter wsX12_chances := goodIn_r _ [8, 9, 10, 11, 12, 13, 14, 15, 16, 17, 18, 19, 20, 21, 22, 23, 24, 25, 26, 27, 28, 29, 30, 31, 32, 33, 34, 35, 36, 37, 38, 39, 40, 41, 42, 43, 44, 45, 46, 47, 48, 49, 50, 51, 52, 53, 54, 55, 56] rfl (by decide +kernel)
set_option maxRecDepth 20000 in
theorem gX12_tellsBetter_X12_chances : GoodIn wsX12_tellsBetter (wsV RX12 372 RX12 yX12_chances wsX12_chances) := goodIn_app (goodIn_of _ (by decide +kernel)) ggX12_tellsBetter_X12_chances
theorem dX12_tellsBetter_0 : decode cX12_tellsBetter 0 = .ok (.aload_n 0, 1) := by decide +kernel
theorem dX12_tellsBetter_1 : decode cX12_tellsBetter 1 = .ok (.iconst 1, 1) := by decide +kernel
theorem dX12_tellsBetter_2 : decode cX12_tellsBetter 2 = .ok (.putfield 378, 3) := by decide +kernel
theorem dX12_tellsBetter_5 : decode cX12_tellsBetter 5 = .ok (.aload_n 0, 1) := by decide +kernel
theorem dX12_tellsBetter_6 : decode cX12_tellsBetter 6 = .ok (.iload_n 1, 1) := by decide +kernel
theorem dX12_tellsBetter_7 : decode cX12_tellsBetter 7 = .ok (.putfield 382, 3) := by decide +kernel
theorem dX12_tellsBetter_10 : decode cX12_tellsBetter 10 = .ok (.aload_n 0, 1) := by decide +kernel
theorem dX12_tellsBetter_11 : decode cX12_tellsBetter 11 = .ok (.aload_n 0, 1) := by decide +kernel
theorem dX12_tellsBetter_12 : decode cX12_tellsBetter 12 = .ok (.invokevirtual 372, 3) := by decide +kernel
theorem dX12_tellsBetter_15 : decode cX12_tellsBetter 15 = .ok (.putfield 385, 3) := by decide +kernel
theorem dX12_tellsBetter_18 : decode cX12_tellsBetter 18 = .ok (.return_, 1) := by decide +kernel
set_option maxRecDepth 20000 in
theorem ggX12_beside_X12_isMan : GoodIn wsX12_beside wsX12_isMan := goodIn_r _ [7, 2, 8, 9, 6, 10, 89, 90, 91, 92, 93, 94, 95, 96, 97, 98, 99, 100, 101, 102, 103, 104, 105, 106, 107, 108, 109, 110, 111, 112, 113, 114, 115, 116, 117, 118, 119, 120, 121, 122, 123, 124, 125, 126, 127, 128, 129, 130, 131, 132, 133, 134, 135] rfl (by decide +kernel)
set_option maxRecDepth 20000 in
theorem gX12_beside_X12_isMan : GoodIn wsX12_beside (wsV RX12 269 RX12 yX12_isMan wsX12_isMan) := goodIn_app (goodIn_of _ (by decide +kernel)) ggX12_beside_X12_isMan
set_option maxRecDepth 20000 in
theorem ggX12_beside_X12_asNow : GoodIn wsX12_beside wsX12_asNow := goodIn_r _ [14, 2, 15, 16, 17, 6, 18, 19, 20, 21, 89, 90, 91, 92, 93, 94, 95, 96, 97, 98, 99, 100, 101, 102, 103, 104, 105, 106, 107, 108, 109, 110, 111, 112, 113, 114, 115, 116, 117, 118, 119, 120, 121, 122, 123, 124, 125, 126, 127, 128, 129, 130, 131, 132, 133, 134, 135] rfl (by decide +kernel)
set_option maxRecDepth 20000 in
theorem gX12_beside_X12_asNow : GoodIn wsX12_beside (wsV RX12 318 RX12 yX12_asNow wsX12_asNow) := goodIn_app (goodIn_of _ (by decide +kernel)) ggX12_beside_X12_asNow
set_option maxRecDepth 20000 in
theorem ggX12_beside_X12_stands : GoodIn wsX12_beside wsX12_stands := goodIn_r _ [18, 19, 2, 20, 21, 89, 90, 91, 92, 93, 94, 95, 96, 97, 98, 99, 100, 101, 102, 103, 104, 105, 106, 107, 108, 109, 110, 111, 112, 113, 114, 115, 116, 117, 118, 119, 120, 121, 122, 123, 124, 125, 126, 127, 128, 129, 130, 131, 132, 133, 134, 135] rfl (by decide +kernel)
set_option maxRecDepth 20000 in
theorem gX12_beside_X12_stands : GoodIn wsX12_beside (wsV RX12 279 RX12 yX12_stands wsX12_stands) := goodIn_app (goodIn_of _ (by decide +kernel)) ggX12_beside_X12_stands
set_option maxRecDepth 20000 in
theorem ggX12_beside_X12_meanOf : GoodIn wsX12_beside wsX12_meanOf := goodIn_r _ [25, 2, 26, 27, 28, 29, 6, 30, 31, 32, 33, 34, 35, 36, 37, 38, 39, 40, 41, 42, 43, 44, 45, 46, 47, 21, 19, 48, 49, 50, 51, 20, 52, 53, 54, 55, 56, 57, 58, 59, 60, 61, 62, 63, 64, 65, 66, 67, 68, 69, 70, 71, 72, 73, 74, 75, 76, 77, 89, 90, 91, 92, 93, 94, 95, 96, 97, 98, 99, 100, 101, 102, 103, 104, 105, 106, 107, 108, 109, 110, 111, 112, 113, 114, 115, 116, 117, 118, 119, 120, 121, 122, 123, 124, 125, 126, 127, 128, 129, 130, 131, 132, 133, 134, 135] rfl (by decide +kernel)
set_option maxRecDepth 20000 in
theorem gX12_beside_X12_meanOf : GoodIn wsX12_beside (wsV RX12 369 RX12 yX12_meanOf wsX12_meanOf) := goodIn_app (goodIn_of _ (by decide +kernel)) ggX12_beside_X12_meanOf
set_option maxRecDepth 20000 in
theorem ggX12_beside_X12_tellsBetter : GoodIn wsX12_beside wsX12_tellsBetter := goodIn_r _ [81, 82, 83, 84, 85, 86, 87, 6, 88, 2, 89, 90, 91, 92, 93, 94, 95, 96, 97, 98, 99, 100, 101, 102, 103, 104, 105, 106, 107, 108, 109, 110, 111, 112, 113, 114, 115, 116, 117, 118, 119, 120, 121, 122, 123, 124, 125, 126, 127, 128, 129, 130, 131, 132, 133, 134, 135] rfl (by decide +kernel)
set_option maxRecDepth 20000 in
theorem gX12_beside_X12_tellsBetter : GoodIn wsX12_beside (wsV RX12 388 RX12 yX12_tellsBetter wsX12_tellsBetter) := goodIn_app (goodIn_of _ (by decide +kernel)) ggX12_beside_X12_tellsBetter
theorem dX12_beside_0 : decode cX12_beside 0 = .ok (.aload_n 0, 1) := by decide +kernel
theorem dX12_beside_1 : decode cX12_beside 1 = .ok (.iconst 0, 1) := by decide +kernel
theorem dX12_beside_2 : decode cX12_beside 2 = .ok (.putfield 1, 3) := by decide +kernel
theorem dX12_beside_5 : decode cX12_beside 5 = .ok (.aload_n 0, 1) := by decide +kernel
theorem dX12_beside_6 : decode cX12_beside 6 = .ok (.iload_n 1, 1) := by decide +kernel
theorem dX12_beside_7 : decode cX12_beside 7 = .ok (.invokevirtual 269, 3) := by decide +kernel
theorem dX12_beside_10 : decode cX12_beside 10 = .ok (.ifCond .eq 12, 3) := by decide +kernel
theorem dX12_beside_13 : decode cX12_beside 13 = .ok (.aload_n 0, 1) := by decide +kernel
theorem dX12_beside_14 : decode cX12_beside 14 = .ok (.getfield 33, 3) := by decide +kernel
theorem dX12_beside_17 : decode cX12_beside 17 = .ok (.iconst 2, 1) := by decide +kernel
theorem dX12_beside_18 : decode cX12_beside 18 = .ok (.iaload, 1) := by decide +kernel
theorem dX12_beside_19 : decode cX12_beside 19 = .ok (.ifCond .ne 5, 3) := by decide +kernel
theorem dX12_beside_22 : decode cX12_beside 22 = .ok (.iconst (-1), 1) := by decide +kernel
theorem dX12_beside_23 : decode cX12_beside 23 = .ok (.ireturn, 1) := by decide +kernel
theorem dX12_beside_24 : decode cX12_beside 24 = .ok (.aload_n 0, 1) := by decide +kernel
theorem dX12_beside_25 : decode cX12_beside 25 = .ok (.invokevirtual 318, 3) := by decide +kernel
theorem dX12_beside_28 : decode cX12_beside 28 = .ok (.iconst (-1), 1) := by decide +kernel
theorem dX12_beside_29 : decode cX12_beside 29 = .ok (.istore_n 2, 1) := by decide +kernel
theorem dX12_beside_30 : decode cX12_beside 30 = .ok (.iconst 0, 1) := by decide +kernel
theorem dX12_beside_31 : decode cX12_beside 31 = .ok (.istore_n 3, 1) := by decide +kernel
theorem dX12_beside_32 : decode cX12_beside 32 = .ok (.iconst 0, 1) := by decide +kernel
theorem dX12_beside_33 : decode cX12_beside 33 = .ok (.istore 4, 2) := by decide +kernel
theorem dX12_beside_35 : decode cX12_beside 35 = .ok (.iload 4, 2) := by decide +kernel
theorem dX12_beside_37 : decode cX12_beside 37 = .ok (.aload_n 0, 1) := by decide +kernel
theorem dX12_beside_38 : decode cX12_beside 38 = .ok (.getfield 33, 3) := by decide +kernel
theorem dX12_beside_41 : decode cX12_beside 41 = .ok (.iconst 0, 1) := by decide +kernel
theorem dX12_beside_42 : decode cX12_beside 42 = .ok (.iaload, 1) := by decide +kernel
theorem dX12_beside_43 : decode cX12_beside 43 = .ok (.if_icmp .ge 42, 3) := by decide +kernel
theorem dX12_beside_46 : decode cX12_beside 46 = .ok (.aload_n 0, 1) := by decide +kernel
theorem dX12_beside_47 : decode cX12_beside 47 = .ok (.iload_n 1, 1) := by decide +kernel
