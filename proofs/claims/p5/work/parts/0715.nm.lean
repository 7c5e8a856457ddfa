theorem dX12_back_5 : decode cX12_back 5 = .ok (.if_icmp .ge 25, 3) := by decide +kernel
theorem dX12_back_8 : decode cX12_back 8 = .ok (.aload_n 0, 1) := by decide +kernel
theorem dX12_back_9 : decode cX12_back 9 = .ok (.getfield 33, 3) := by decide +kernel
theorem dX12_back_12 : decode cX12_back 12 = .ok (.sipush 211, 3) := by decide +kernel
theorem dX12_back_15 : decode cX12_back 15 = .ok (.iload_n 1, 1) := by decide +kernel
theorem dX12_back_16 : decode cX12_back 16 = .ok (.iadd, 1) := by decide +kernel
theorem dX12_back_17 : decode cX12_back 17 = .ok (.aload_n 0, 1) := by decide +kernel
theorem dX12_back_18 : decode cX12_back 18 = .ok (.getfield 65, 3) := by decide +kernel
theorem dX12_back_21 : decode cX12_back 21 = .ok (.iload_n 1, 1) := by decide +kernel
theorem dX12_back_22 : decode cX12_back 22 = .ok (.iaload, 1) := by decide +kernel
theorem dX12_back_23 : decode cX12_back 23 = .ok (.iastore, 1) := by decide +kernel
theorem dX12_back_24 : decode cX12_back 24 = .ok (.iinc 1 1, 3) := by decide +kernel
theorem dX12_back_27 : decode cX12_back 27 = .ok (.goto (-25), 3) := by decide +kernel
theorem dX12_back_30 : decode cX12_back 30 = .ok (.return_, 1) := by decide +kernel
set_option maxRecDepth 20000 in
theorem ggX12_far_X12_isMan : GoodIn wsX12_far wsX12_isMan := goodIn_r _ [6, 7, 8, 9, 5, 10, 37, 38, 39, 40, 41, 42, 43, 44, 45, 46, 47, 48, 49, 50, 51, 52, 53, 54, 55, 56, 57, 58, 59, 60, 61, 62, 63, 64, 65, 66, 67, 68, 69, 70, 71, 72, 73, 74, 75, 76, 77, 78, 79, 80, 81, 82, 83] rfl (by decide +kernel)
set_option maxRecDepth 20000 in
theorem gX12_far_X12_isMan : GoodIn wsX12_far (wsV RX12 269 RX12 yX12_isMan wsX12_isMan) := goodIn_app (goodIn_of _ (by decide +kernel)) ggX12_far_X12_isMan
set_option maxRecDepth 20000 in
theorem ggX12_far_X12_isCall : GoodIn wsX12_far wsX12_isCall := goodIn_r _ [14, 7, 15, 16, 17, 5, 18, 8, 9, 10, 37, 38, 39, 40, 41, 42, 43, 44, 45, 46, 47, 48, 49, 50, 51, 52, 53, 54, 55, 56, 57, 58, 59, 60, 61, 62, 63, 64, 65, 66, 67, 68, 69, 70, 71, 72, 73, 74, 75, 76, 77, 78, 79, 80, 81, 82, 83] rfl (by decide +kernel)
set_option maxRecDepth 20000 in
theorem gX12_far_X12_isCall : GoodIn wsX12_far (wsV RX12 276 RX12 yX12_isCall wsX12_isCall) := goodIn_app (goodIn_of _ (by decide +kernel)) ggX12_far_X12_isCall
set_option maxRecDepth 20000 in
theorem ggX12_far_X12_asNow : GoodIn wsX12_far wsX12_asNow := goodIn_r _ [22, 7, 23, 24, 25, 5, 26, 27, 28, 29, 37, 38, 39, 40, 41, 42, 43, 44, 45, 46, 47, 48, 49, 50, 51, 52, 53, 54, 55, 56, 57, 58, 59, 60, 61, 62, 63, 64, 65, 66, 67, 68, 69, 70, 71, 72, 73, 74, 75, 76, 77, 78, 79, 80, 81, 82, 83] rfl (by decide +kernel)
set_option maxRecDepth 20000 in
theorem gX12_far_X12_asNow : GoodIn wsX12_far (wsV RX12 318 RX12 yX12_asNow wsX12_asNow) := goodIn_app (goodIn_of _ (by decide +kernel)) ggX12_far_X12_asNow
set_option maxRecDepth 20000 in
theorem ggX12_far_X12_farOf : GoodIn wsX12_far wsX12_farOf := goodIn_r _ [33, 27, 7, 28, 34, 35, 5, 36, 37, 38, 39, 40, 41, 42, 43, 44, 45, 46, 47, 48, 49, 50, 51, 52, 53, 54, 55, 56, 57, 58, 59, 60, 61, 62, 63, 64, 65, 66, 67, 68, 69, 70, 71, 72, 73, 74, 75, 76, 77, 78, 79, 80, 81, 82, 83] rfl (by decide +kernel)
set_option maxRecDepth 20000 in
theorem gX12_far_X12_farOf : GoodIn wsX12_far (wsV RX12 289 RX12 yX12_farOf wsX12_farOf) := goodIn_app (goodIn_of _ (by decide +kernel)) ggX12_far_X12_farOf
theorem dX12_far_0 : decode cX12_far 0 = .ok (.aload_n 0, 1) := by decide +kernel
theorem dX12_far_1 : decode cX12_far 1 = .ok (.iconst 0, 1) := by decide +kernel
theorem dX12_far_2 : decode cX12_far 2 = .ok (.putfield 1, 3) := by decide +kernel
theorem dX12_far_5 : decode cX12_far 5 = .ok (.aload_n 0, 1) := by decide +kernel
theorem dX12_far_6 : decode cX12_far 6 = .ok (.iload_n 1, 1) := by decide +kernel
theorem dX12_far_7 : decode cX12_far 7 = .ok (.invokevirtual 269, 3) := by decide +kernel
theorem dX12_far_10 : decode cX12_far 10 = .ok (.ifCond .eq 12, 3) := by decide +kernel
theorem dX12_far_13 : decode cX12_far 13 = .ok (.aload_n 0, 1) := by decide +kernel
theorem dX12_far_14 : decode cX12_far 14 = .ok (.iload_n 2, 1) := by decide +kernel
theorem dX12_far_15 : decode cX12_far 15 = .ok (.iload_n 3, 1) := by decide +kernel
theorem dX12_far_16 : decode cX12_far 16 = .ok (.invokevirtual 276, 3) := by decide +kernel
theorem dX12_far_19 : decode cX12_far 19 = .ok (.ifCond .ne 5, 3) := by decide +kernel
theorem dX12_far_22 : decode cX12_far 22 = .ok (.iconst (-1), 1) := by decide +kernel
theorem dX12_far_23 : decode cX12_far 23 = .ok (.ireturn, 1) := by decide +kernel
theorem dX12_far_24 : decode cX12_far 24 = .ok (.aload_n 0, 1) := by decide +kernel
theorem dX12_far_25 : decode cX12_far 25 = .ok (.invokevirtual 318, 3) := by decide +kernel
theorem dX12_far_28 : decode cX12_far 28 = .ok (.aload_n 0, 1) := by decide +kernel
theorem dX12_far_29 : decode cX12_far 29 = .ok (.iload_n 1, 1) := by decide +kernel
theorem dX12_far_30 : decode cX12_far 30 = .ok (.iload_n 2, 1) := by decide +kernel
theorem dX12_far_31 : decode cX12_far 31 = .ok (.iload_n 3, 1) := by decide +kernel
theorem dX12_far_32 : decode cX12_far 32 = .ok (.invokevirtual 289, 3) := by decide +kernel
theorem dX12_far_35 : decode cX12_far 35 = .ok (.ireturn, 1) := by decide +kernel
set_option maxRecDepth 20000 in
theorem ggX12_hears_X12_isMan : GoodIn wsX12_hears wsX12_isMan := goodIn_r _ [6, 7, 8, 9, 5, 10, 49, 50, 51, 52, 53, 54, 55, 56, 57, 58, 59, 60, 61, 62, 63, 64, 65, 66, 67, 68, 69, 70, 71, 72, 73, 74, 75, 76, 77, 78, 79, 80, 81, 82, 83, 84, 85, 86, 87, 88, 89, 90, 91, 92, 93, 94, 95] rfl (by decide +kernel)
set_option maxRecDepth 20000 in
theorem gX12_hears_X12_isMan : GoodIn wsX12_hears (wsV RX12 269 RX12 yX12_isMan wsX12_isMan) := goodIn_app (goodIn_of _ (by decide +kernel)) ggX12_hears_X12_isMan
set_option maxRecDepth 20000 in
theorem ggX12_hears_X12_isCall : GoodIn wsX12_hears wsX12_isCall := goodIn_r _ [14, 7, 15, 16, 17, 5, 18, 8, 9, 10, 49, 50, 51, 52, 53, 54, 55, 56, 57, 58, 59, 60, 61, 62, 63, 64, 65, 66, 67, 68, 69, 70, 71, 72, 73, 74, 75, 76, 77, 78, 79, 80, 81, 82, 83, 84, 85, 86, 87, 88, 89, 90, 91, 92, 93, 94, 95] rfl (by decide +kernel)
set_option maxRecDepth 20000 in
theorem gX12_hears_X12_isCall : GoodIn wsX12_hears (wsV RX12 276 RX12 yX12_isCall wsX12_isCall) := goodIn_app (goodIn_of _ (by decide +kernel)) ggX12_hears_X12_isCall
set_option maxRecDepth 20000 in
theorem ggX12_hears_X12_asNow : GoodIn wsX12_hears wsX12_asNow := goodIn_r _ [22, 7, 23, 24, 25, 5, 26, 27, 28, 29, 49, 50, 51, 52, 53, 54, 55, 56, 57, 58, 59, 60, 61, 62, 63, 64, 65, 66, 67, 68, 69, 70, 71, 72, 73, 74, 75, 76, 77, 78, 79, 80, 81, 82, 83, 84, 85, 86, 87, 88, 89, 90, 91, 92, 93, 94, 95] rfl (by decide +kernel)
set_option maxRecDepth 20000 in
theorem gX12_hears_X12_asNow : GoodIn wsX12_hears (wsV RX12 318 RX12 yX12_asNow wsX12_asNow) := goodIn_app (goodIn_of _ (by decide +kernel)) ggX12_hears_X12_asNow
set_option maxRecDepth 20000 in
theorem ggX12_hears_X12_canHear : GoodIn wsX12_hears wsX12_canHear := goodIn_r _ [33, 7, 29, 27, 34, 35, 36, 5, 37, 28, 38, 39, 40, 41, 42, 43, 44, 45, 46, 47, 48, 49, 50, 51, 52, 53, 54, 55, 56, 57, 58, 59, 60, 61, 62, 63, 64, 65, 66, 67, 68, 69, 70, 71, 72, 73, 74, 75, 76, 77, 78, 79, 80, 81, 82, 83, 84, 85, 86, 87, 88, 89, 90, 91, 92, 93, 94, 95] rfl (by decide +kernel)
set_option maxRecDepth 20000 in
theorem gX12_hears_X12_canHear : GoodIn wsX12_hears (wsV RX12 293 RX12 yX12_canHear wsX12_canHear) := goodIn_app (goodIn_of _ (by decide +kernel)) ggX12_hears_X12_canHear
theorem dX12_hears_0 : decode cX12_hears 0 = .ok (.aload_n 0, 1) := by decide +kernel
theorem dX12_hears_1 : decode cX12_hears 1 = .ok (.iconst 0, 1) := by decide +kernel
theorem dX12_hears_2 : decode cX12_hears 2 = .ok (.putfield 1, 3) := by decide +kernel
theorem dX12_hears_5 : decode cX12_hears 5 = .ok (.aload_n 0, 1) := by decide +kernel
theorem dX12_hears_6 : decode cX12_hears 6 = .ok (.iload_n 1, 1) := by decide +kernel
theorem dX12_hears_7 : decode cX12_hears 7 = .ok (.invokevirtual 269, 3) := by decide +kernel
theorem dX12_hears_10 : decode cX12_hears 10 = .ok (.ifCond .eq 12, 3) := by decide +kernel
theorem dX12_hears_13 : decode cX12_hears 13 = .ok (.aload_n 0, 1) := by decide +kernel
theorem dX12_hears_14 : decode cX12_hears 14 = .ok (.iload_n 2, 1) := by decide +kernel
theorem dX12_hears_15 : decode cX12_hears 15 = .ok (.iload_n 3, 1) := by decide +kernel
theorem dX12_hears_16 : decode cX12_hears 16 = .ok (.invokevirtual 276, 3) := by decide +kernel
theorem dX12_hears_19 : decode cX12_hears 19 = .ok (.ifCond .ne 5, 3) := by decide +kernel
theorem dX12_hears_22 : decode cX12_hears 22 = .ok (.iconst (-1), 1) := by decide +kernel
theorem dX12_hears_23 : decode cX12_hears 23 = .ok (.ireturn, 1) := by decide +kernel
theorem dX12_hears_24 : decode cX12_hears 24 = .ok (.aload_n 0, 1) := by decide +kernel
theorem dX12_hears_25 : decode cX12_hears 25 = .ok (.invokevirtual 318, 3) := by decide +kernel
theorem dX12_hears_28 : decode cX12_hears 28 = .ok (.aload_n 0, 1) := by decide +kernel
theorem dX12_hears_29 : decode cX12_hears 29 = .ok (.iload_n 1, 1) := by decide +kernel
theorem dX12_hears_30 : decode cX12_hears 30 = .ok (.iload_n 2, 1) := by decide +kernel
theorem dX12_hears_31 : decode cX12_hears 31 = .ok (.iload_n 3, 1) := by decide +kernel
theorem dX12_hears_32 : decode cX12_hears 32 = .ok (.invokevirtual 293, 3) := by decide +kernel
theorem dX12_hears_35 : decode cX12_hears 35 = .ok (.ifCond .eq 7, 3) := by decide +kernel
theorem dX12_hears_38 : decode cX12_hears 38 = .ok (.iconst 1, 1) := by decide +kernel
theorem dX12_hears_39 : decode cX12_hears 39 = .ok (.goto 4, 3) := by decide +kernel
theorem dX12_hears_42 : decode cX12_hears 42 = .ok (.iconst 0, 1) := by decide +kernel
theorem dX12_hears_43 : decode cX12_hears 43 = .ok (.ireturn, 1) := by decide +kernel
set_option maxRecDepth 20000 in
theorem ggX12_who_X12_isCall : GoodIn wsX12_who wsX12_isCall := goodIn_r _ [6, 7, 8, 9, 10, 5, 11, 12, 13, 14, 49, 50, 51, 52, 53, 54, 55, 56, 57, 58, 59, 60, 61, 62, 63, 64, 65, 66, 67, 68, 69, 70, 71, 72, 73, 74, 75, 76, 77, 78, 79, 80, 81, 82, 83, 84, 85, 86, 87, 88, 89, 90, 91, 92, 93, 94, 95] rfl (by decide +kernel)
set_option maxRecDepth 20000 in
theorem gX12_who_X12_isCall : GoodIn wsX12_who (wsV RX12 276 RX12 yX12_isCall wsX12_isCall) := goodIn_app (goodIn_of _ (by decide +kernel)) ggX12_who_X12_isCall
set_option maxRecDepth 20000 in
theorem ggX12_who_X12_asNow : GoodIn wsX12_who wsX12_asNow := goodIn_r _ [18, 7, 19, 20, 21, 5, 22, 23, 24, 25, 49, 50, 51, 52, 53, 54, 55, 56, 57, 58, 59, 60, 61, 62, 63, 64, 65, 66, 67, 68, 69, 70, 71, 72, 73, 74, 75, 76, 77, 78, 79, 80, 81, 82, 83, 84, 85, 86, 87, 88, 89, 90, 91, 92, 93, 94, 95] rfl (by decide +kernel)
set_option maxRecDepth 20000 in
theorem gX12_who_X12_asNow : GoodIn wsX12_who (wsV RX12 318 RX12 yX12_asNow wsX12_asNow) := goodIn_app (goodIn_of _ (by decide +kernel)) ggX12_who_X12_asNow
set_option maxRecDepth 20000 in
theorem ggX12_who_X12_whoHears : GoodIn wsX12_who wsX12_whoHears := goodIn_r _ [29, 7, 30, 31, 32, 5, 33, 25, 23, 34, 35, 36, 37, 24, 38, 39, 40, 41, 42, 43, 44, 45, 46, 47, 48, 49, 50, 51, 52, 53, 54, 55, 56, 57, 58, 59, 60, 61, 62, 63, 64, 65, 66, 67, 68, 69, 70, 71, 72, 73, 74, 75, 76, 77, 78, 79, 80, 81, 82, 83, 84, 85, 86, 87, 88, 89, 90, 91, 92, 93, 94, 95] rfl (by decide +kernel)
set_option maxRecDepth 20000 in
theorem gX12_who_X12_whoHears : GoodIn wsX12_who (wsV RX12 296 RX12 yX12_whoHears wsX12_whoHears) := goodIn_app (goodIn_of _ (by decide +kernel)) ggX12_who_X12_whoHears
theorem dX12_who_0 : decode cX12_who 0 = .ok (.aload_n 0, 1) := by decide +kernel
theorem dX12_who_1 : decode cX12_who 1 = .ok (.iconst 0, 1) := by decide +kernel
theorem dX12_who_2 : decode cX12_who 2 = .ok (.putfield 1, 3) := by decide +kernel
theorem dX12_who_5 : decode cX12_who 5 = .ok (.aload_n 0, 1) := by decide +kernel
theorem dX12_who_6 : decode cX12_who 6 = .ok (.iload_n 1, 1) := by decide +kernel
theorem dX12_who_7 : decode cX12_who 7 = .ok (.iload_n 2, 1) := by decide +kernel
theorem dX12_who_8 : decode cX12_who 8 = .ok (.invokevirtual 276, 3) := by decide +kernel
theorem dX12_who_11 : decode cX12_who 11 = .ok (.ifCond .ne 5, 3) := by decide +kernel
theorem dX12_who_14 : decode cX12_who 14 = .ok (.iconst (-1), 1) := by decide +kernel
theorem dX12_who_15 : decode cX12_who 15 = .ok (.ireturn, 1) := by decide +kernel
theorem dX12_who_16 : decode cX12_who 16 = .ok (.aload_n 0, 1) := by decide +kernel
theorem dX12_who_17 : decode cX12_who 17 = .ok (.invokevirtual 318, 3) := by decide +kernel
theorem dX12_who_20 : decode cX12_who 20 = .ok (.aload_n 0, 1) := by decide +kernel
theorem dX12_who_21 : decode cX12_who 21 = .ok (.iload_n 1, 1) := by decide +kernel
theorem dX12_who_22 : decode cX12_who 22 = .ok (.iload_n 2, 1) := by decide +kernel
theorem dX12_who_23 : decode cX12_who 23 = .ok (.invokevirtual 296, 3) := by decide +kernel
theorem dX12_who_26 : decode cX12_who 26 = .ok (.ireturn, 1) := by decide +kernel
set_option maxRecDepth 20000 in
theorem ggX12_first_X12_isFlight : GoodIn wsX12_first wsX12_isFlight := goodIn_r _ [6, 7, 8, 9, 5, 10, 53, 54, 55, 56, 57, 58, 59, 60, 61, 62, 63, 64, 65, 66, 67, 68, 69, 70, 71, 72, 73, 74, 75, 76, 77, 78, 79, 80, 81, 82, 83, 84, 85, 86, 87, 88, 89, 90, 91, 92, 93, 94, 95, 96, 97, 98, 99] rfl (by decide +kernel)
set_option maxRecDepth 20000 in
theorem gX12_first_X12_isFlight : GoodIn wsX12_first (wsV RX12 259 RX12 yX12_isFlight wsX12_isFlight) := goodIn_app (goodIn_of _ (by decide +kernel)) ggX12_first_X12_isFlight
set_option maxRecDepth 20000 in
theorem ggX12_first_X12_isIn : GoodIn wsX12_first wsX12_isIn := goodIn_r _ [10] rfl (by decide +kernel)
set_option maxRecDepth 20000 in
theorem gX12_first_X12_isIn : GoodIn wsX12_first (va_wsS RX12 191 yX12_isIn wsX12_isIn) := goodIn_app (goodIn_of _ (by decide +kernel)) ggX12_first_X12_isIn
set_option maxRecDepth 20000 in
theorem ggX12_first_X12_asNow : GoodIn wsX12_first wsX12_asNow := goodIn_r _ [14, 7, 15, 16, 17, 5, 18, 19, 20, 21, 53, 54, 55, 56, 57, 58, 59, 60, 61, 62, 63, 64, 65, 66, 67, 68, 69, 70, 71, 72, 73, 74, 75, 76, 77, 78, 79, 80, 81, 82, 83, 84, 85, 86, 87, 88, 89, 90, 91, 92, 93, 94, 95, 96, 97, 98, 99] rfl (by decide +kernel)
set_option maxRecDepth 20000 in
theorem gX12_first_X12_asNow : GoodIn wsX12_first (wsV RX12 318 RX12 yX12_asNow wsX12_asNow) := goodIn_app (goodIn_of _ (by decide +kernel)) ggX12_first_X12_asNow
set_option maxRecDepth 20000 in
theorem ggX12_first_X12_firstIn : GoodIn wsX12_first wsX12_firstIn := goodIn_r _ [25, 7, 26, 27, 28, 5, 29, 30, 31, 32, 33, 21, 19, 34, 35, 36, 37, 20, 38, 39, 40, 41, 42, 43, 44, 45, 46, 47, 48, 49, 50, 51, 52, 53, 54, 55, 56, 57, 58, 59, 60, 61, 62, 63, 64, 65, 66, 67, 68, 69, 70, 71, 72, 73, 74, 75, 76, 77, 78, 79, 80, 81, 82, 83, 84, 85, 86, 87, 88, 89, 90, 91, 92, 93, 94, 95, 96, 97, 98, 99] rfl (by decide +kernel)
set_option maxRecDepth 20000 in
theorem gX12_first_X12_firstIn : GoodIn wsX12_first (wsV RX12 311 RX12 yX12_firstIn wsX12_firstIn) := goodIn_app (goodIn_of _ (by decide +kernel)) ggX12_first_X12_firstIn
theorem dX12_first_0 : decode cX12_first 0 = .ok (.aload_n 0, 1) := by decide +kernel
theorem dX12_first_1 : decode cX12_first 1 = .ok (.iconst 0, 1) := by decide +kernel
theorem dX12_first_2 : decode cX12_first 2 = .ok (.putfield 1, 3) := by decide +kernel
theorem dX12_first_5 : decode cX12_first 5 = .ok (.aload_n 0, 1) := by decide +kernel
theorem dX12_first_6 : decode cX12_first 6 = .ok (.iload_n 1, 1) := by decide +kernel
theorem dX12_first_7 : decode cX12_first 7 = .ok (.invokevirtual 259, 3) := by decide +kernel
theorem dX12_first_10 : decode cX12_first 10 = .ok (.ifCond .eq 12, 3) := by decide +kernel
theorem dX12_first_13 : decode cX12_first 13 = .ok (.iload_n 2, 1) := by decide +kernel
theorem dX12_first_14 : decode cX12_first 14 = .ok (.iconst 0, 1) := by decide +kernel
theorem dX12_first_15 : decode cX12_first 15 = .ok (.iconst 1, 1) := by decide +kernel
theorem dX12_first_16 : decode cX12_first 16 = .ok (.invokestatic 191, 3) := by decide +kernel
theorem dX12_first_19 : decode cX12_first 19 = .ok (.ifCond .ne 5, 3) := by decide +kernel
theorem dX12_first_22 : decode cX12_first 22 = .ok (.iconst (-1), 1) := by decide +kernel
theorem dX12_first_23 : decode cX12_first 23 = .ok (.ireturn, 1) := by decide +kernel
theorem dX12_first_24 : decode cX12_first 24 = .ok (.aload_n 0, 1) := by decide +kernel
theorem dX12_first_25 : decode cX12_first 25 = .ok (.invokevirtual 318, 3) := by decide +kernel
theorem dX12_first_28 : decode cX12_first 28 = .ok (.aload_n 0, 1) := by decide +kernel
theorem dX12_first_29 : decode cX12_first 29 = .ok (.iload_n 1, 1) := by decide +kernel
theorem dX12_first_30 : decode cX12_first 30 = .ok (.iload_n 2, 1) := by decide +kernel
theorem dX12_first_31 : decode cX12_first 31 = .ok (.invokevirtual 311, 3) := by decide +kernel
theorem dX12_first_34 : decode cX12_first 34 = .ok (.ireturn, 1) := by decide +kernel
set_option maxRecDepth 20000 in
theorem ggX12_lied_X12_isTrue : GoodIn wsX12_lied wsX12_isTrue := goodIn_r _ [7, 2, 8, 9, 10, 6, 11, 12, 13, 14, 15, 16, 17, 18, 19, 20, 21, 22, 23, 24, 25, 26, 27, 28, 29, 30, 31, 32, 33, 34, 35, 36, 37, 38, 39, 40, 41, 42, 43, 44, 45, 46, 47, 48, 49, 50, 51, 52, 53, 54, 55, 56, 57, 58, 59, 60, 61, 62, 63, 64, 65, 66, 67, 68, 69, 70, 71, 72, 73, 74, 75, 76, 77, 78, 79, 80, 81, 82, 83, 84] rfl (by decide +kernel)
set_option maxRecDepth 20000 in
theorem gX12_lied_X12_isTrue : GoodIn wsX12_lied (wsV RX12 333 RX12 yX12_isTrue wsX12_isTrue) := goodIn_app (goodIn_of _ (by decide +kernel)) ggX12_lied_X12_isTrue
theorem dX12_lied_0 : decode cX12_lied 0 = .ok (.aload_n 0, 1) := by decide +kernel
theorem dX12_lied_1 : decode cX12_lied 1 = .ok (.iconst 0, 1) := by decide +kernel
theorem dX12_lied_2 : decode cX12_lied 2 = .ok (.putfield 1, 3) := by decide +kernel
theorem dX12_lied_5 : decode cX12_lied 5 = .ok (.iconst 0, 1) := by decide +kernel
theorem dX12_lied_6 : decode cX12_lied 6 = .ok (.istore_n 1, 1) := by decide +kernel
theorem dX12_lied_7 : decode cX12_lied 7 = .ok (.iconst 0, 1) := by decide +kernel
theorem dX12_lied_8 : decode cX12_lied 8 = .ok (.istore_n 2, 1) := by decide +kernel
theorem dX12_lied_9 : decode cX12_lied 9 = .ok (.iload_n 2, 1) := by decide +kernel
theorem dX12_lied_10 : decode cX12_lied 10 = .ok (.aload_n 0, 1) := by decide +kernel
theorem dX12_lied_11 : decode cX12_lied 11 = .ok (.getfield 33, 3) := by decide +kernel
theorem dX12_lied_14 : decode cX12_lied 14 = .ok (.iconst 1, 1) := by decide +kernel
theorem dX12_lied_15 : decode cX12_lied 15 = .ok (.iaload, 1) := by decide +kernel
theorem dX12_lied_16 : decode cX12_lied 16 = .ok (.if_icmp .ge 40, 3) := by decide +kernel
theorem dX12_lied_19 : decode cX12_lied 19 = .ok (.iload_n 1, 1) := by decide +kernel
theorem dX12_lied_20 : decode cX12_lied 20 = .ok (.aload_n 0, 1) := by decide +kernel
theorem dX12_lied_21 : decode cX12_lied 21 = .ok (.getfield 33, 3) := by decide +kernel
theorem dX12_lied_24 : decode cX12_lied 24 = .ok (.sipush 230, 3) := by decide +kernel
theorem dX12_lied_27 : decode cX12_lied 27 = .ok (.iload_n 2, 1) := by decide +kernel
theorem dX12_lied_28 : decode cX12_lied 28 = .ok (.iadd, 1) := by decide +kernel
theorem dX12_lied_29 : decode cX12_lied 29 = .ok (.iaload, 1) := by decide +kernel
theorem dX12_lied_30 : decode cX12_lied 30 = .ok (.ifCond .le 17, 3) := by decide +kernel
theorem dX12_lied_33 : decode cX12_lied 33 = .ok (.aload_n 0, 1) := by decide +kernel
theorem dX12_lied_34 : decode cX12_lied 34 = .ok (.iload_n 2, 1) := by decide +kernel
theorem dX12_lied_35 : decode cX12_lied 35 = .ok (.invokevirtual 333, 3) := by decide +kernel
theorem dX12_lied_38 : decode cX12_lied 38 = .ok (.ifCond .ne 9, 3) := by decide +kernel
theorem dX12_lied_41 : decode cX12_lied 41 = .ok (.iconst 1, 1) := by decide +kernel
theorem dX12_lied_42 : decode cX12_lied 42 = .ok (.iload_n 2, 1) := by decide +kernel
theorem dX12_lied_43 : decode cX12_lied 43 = .ok (.ishl, 1) := by decide +kernel
theorem dX12_lied_44 : decode cX12_lied 44 = .ok (.goto 4, 3) := by decide +kernel
theorem dX12_lied_47 : decode cX12_lied 47 = .ok (.iconst 0, 1) := by decide +kernel
theorem dX12_lied_48 : decode cX12_lied 48 = .ok (.ior, 1) := by decide +kernel
theorem dX12_lied_49 : decode cX12_lied 49 = .ok (.istore_n 1, 1) := by decide +kernel
theorem dX12_lied_50 : decode cX12_lied 50 = .ok (.iinc 2 1, 3) := by decide +kernel
theorem dX12_lied_53 : decode cX12_lied 53 = .ok (.goto (-44), 3) := by decide +kernel
theorem dX12_lied_56 : decode cX12_lied 56 = .ok (.iload_n 1, 1) := by decide +kernel
theorem dX12_lied_57 : decode cX12_lied 57 = .ok (.ireturn, 1) := by decide +kernel
set_option maxRecDepth 20000 in
theorem ggX12_nearer_X12_isMan : GoodIn wsX12_nearer wsX12_isMan := goodIn_r _ [7, 2, 8, 9, 6, 10, 49, 50, 51, 52, 53, 54, 55, 56, 57, 58, 59, 60, 61, 62, 63, 64, 65, 66, 67, 68, 69, 70, 71, 72, 73, 74, 75, 76, 77, 78, 79, 80, 81, 82, 83, 84, 85, 86, 87, 88, 89, 90, 91, 92, 93, 94, 95] rfl (by decide +kernel)
set_option maxRecDepth 20000 in
theorem gX12_nearer_X12_isMan : GoodIn wsX12_nearer (wsV RX12 269 RX12 yX12_isMan wsX12_isMan) := goodIn_app (goodIn_of _ (by decide +kernel)) ggX12_nearer_X12_isMan
set_option maxRecDepth 20000 in
theorem ggX12_nearer_X12_whyAccuse : GoodIn wsX12_nearer wsX12_whyAccuse := goodIn_r _ [14, 2, 15, 16, 17, 6, 18, 19, 20, 21, 22, 23, 24, 25, 26, 27, 28, 29, 30, 31, 32, 49, 50, 51, 52, 53, 54, 55, 56, 57, 58, 59, 60, 61, 62, 63, 64, 65, 66, 67, 68, 69, 70, 71, 72, 73, 74, 75, 76, 77, 78, 79, 80, 81, 82, 83, 84, 85, 86, 87, 88, 89, 90, 91, 92, 93, 94, 95] rfl (by decide +kernel)
set_option maxRecDepth 20000 in
theorem gX12_nearer_X12_whyAccuse : GoodIn wsX12_nearer (wsV RX12 351 RX12 yX12_whyAccuse wsX12_whyAccuse) := goodIn_app (goodIn_of _ (by decide +kernel)) ggX12_nearer_X12_whyAccuse
set_option maxRecDepth 20000 in
theorem ggX12_nearer_X12_isTrue : GoodIn wsX12_nearer wsX12_isTrue := goodIn_r _ [36, 2, 15, 16, 17, 6, 18, 19, 20, 21, 22, 23, 24, 25, 37, 38, 39, 40, 41, 42, 43, 44, 45, 46, 47, 48, 26, 27, 28, 29, 30, 31, 32, 49, 50, 51, 52, 53, 54, 55, 56, 57, 58, 59, 60, 61, 62, 63, 64, 65, 66, 67, 68, 69, 70, 71, 72, 73, 74, 75, 76, 77, 78, 79, 80, 81, 82, 83, 84, 85, 86, 87, 88, 89, 90, 91, 92, 93, 94, 95] rfl (by decide +kernel)
set_option maxRecDepth 20000 in
theorem gX12_nearer_X12_isTrue : GoodIn wsX12_nearer (wsV RX12 333 RX12 yX12_isTrue wsX12_isTrue) := goodIn_app (goodIn_of _ (by decide +kernel)) ggX12_nearer_X12_isTrue
theorem dX12_nearer_0 : decode cX12_nearer 0 = .ok (.aload_n 0, 1) := by decide +kernel
theorem dX12_nearer_1 : decode cX12_nearer 1 = .ok (.iconst 0, 1) := by decide +kernel
theorem dX12_nearer_2 : decode cX12_nearer 2 = .ok (.putfield 1, 3) := by decide +kernel
theorem dX12_nearer_5 : decode cX12_nearer 5 = .ok (.aload_n 0, 1) := by decide +kernel
theorem dX12_nearer_6 : decode cX12_nearer 6 = .ok (.iload_n 1, 1) := by decide +kernel
theorem dX12_nearer_7 : decode cX12_nearer 7 = .ok (.invokevirtual 269, 3) := by decide +kernel
theorem dX12_nearer_10 : decode cX12_nearer 10 = .ok (.ifCond .ne 5, 3) := by decide +kernel
theorem dX12_nearer_13 : decode cX12_nearer 13 = .ok (.iconst (-1), 1) := by decide +kernel
theorem dX12_nearer_14 : decode cX12_nearer 14 = .ok (.ireturn, 1) := by decide +kernel
theorem dX12_nearer_15 : decode cX12_nearer 15 = .ok (.iconst 0, 1) := by decide +kernel
theorem dX12_nearer_16 : decode cX12_nearer 16 = .ok (.istore_n 2, 1) := by decide +kernel
theorem dX12_nearer_17 : decode cX12_nearer 17 = .ok (.iconst 0, 1) := by decide +kernel
theorem dX12_nearer_18 : decode cX12_nearer 18 = .ok (.istore_n 3, 1) := by decide +kernel
theorem dX12_nearer_19 : decode cX12_nearer 19 = .ok (.iload_n 3, 1) := by decide +kernel
theorem dX12_nearer_20 : decode cX12_nearer 20 = .ok (.aload_n 0, 1) := by decide +kernel
theorem dX12_nearer_21 : decode cX12_nearer 21 = .ok (.getfield 33, 3) := by decide +kernel
theorem dX12_nearer_24 : decode cX12_nearer 24 = .ok (.iconst 1, 1) := by decide +kernel
theorem dX12_nearer_25 : decode cX12_nearer 25 = .ok (.iaload, 1) := by decide +kernel
theorem dX12_nearer_26 : decode cX12_nearer 26 = .ok (.if_icmp .ge 41, 3) := by decide +kernel
theorem dX12_nearer_29 : decode cX12_nearer 29 = .ok (.iload_n 2, 1) := by decide +kernel
theorem dX12_nearer_30 : decode cX12_nearer 30 = .ok (.iload_n 3, 1) := by decide +kernel
theorem dX12_nearer_31 : decode cX12_nearer 31 = .ok (.iload_n 1, 1) := by decide +kernel
theorem dX12_nearer_32 : decode cX12_nearer 32 = .ok (.if_icmp .eq 26, 3) := by decide +kernel
theorem dX12_nearer_35 : decode cX12_nearer 35 = .ok (.aload_n 0, 1) := by decide +kernel
theorem dX12_nearer_36 : decode cX12_nearer 36 = .ok (.iload_n 3, 1) := by decide +kernel
theorem dX12_nearer_37 : decode cX12_nearer 37 = .ok (.iload_n 1, 1) := by decide +kernel
theorem dX12_nearer_38 : decode cX12_nearer 38 = .ok (.invokevirtual 351, 3) := by decide +kernel
theorem dX12_nearer_41 : decode cX12_nearer 41 = .ok (.ifCond .ne 17, 3) := by decide +kernel
theorem dX12_nearer_44 : decode cX12_nearer 44 = .ok (.aload_n 0, 1) := by decide +kernel
theorem dX12_nearer_45 : decode cX12_nearer 45 = .ok (.iload_n 1, 1) := by decide +kernel
theorem dX12_nearer_46 : decode cX12_nearer 46 = .ok (.invokevirtual 333, 3) := by decide +kernel
theorem dX12_nearer_49 : decode cX12_nearer 49 = .ok (.ifCond .ne 9, 3) := by decide +kernel
theorem dX12_nearer_52 : decode cX12_nearer 52 = .ok (.iconst 1, 1) := by decide +kernel
theorem dX12_nearer_53 : decode cX12_nearer 53 = .ok (.iload_n 3, 1) := by decide +kernel
theorem dX12_nearer_54 : decode cX12_nearer 54 = .ok (.ishl, 1) := by decide +kernel
theorem dX12_nearer_55 : decode cX12_nearer 55 = .ok (.goto 4, 3) := by decide +kernel
theorem dX12_nearer_58 : decode cX12_nearer 58 = .ok (.iconst 0, 1) := by decide +kernel
theorem dX12_nearer_59 : decode cX12_nearer 59 = .ok (.ior, 1) := by decide +kernel
theorem dX12_nearer_60 : decode cX12_nearer 60 = .ok (.istore_n 2, 1) := by decide +kernel
theorem dX12_nearer_61 : decode cX12_nearer 61 = .ok (.iinc 3 1, 3) := by decide +kernel
theorem dX12_nearer_64 : decode cX12_nearer 64 = .ok (.goto (-45), 3) := by decide +kernel
theorem dX12_nearer_67 : decode cX12_nearer 67 = .ok (.iload_n 2, 1) := by decide +kernel
theorem dX12_nearer_68 : decode cX12_nearer 68 = .ok (.ireturn, 1) := by decide +kernel
set_option maxRecDepth 20000 in
theorem ggX12_due_X12_isMan : GoodIn wsX12_due wsX12_isMan := goodIn_r _ [8, 2, 9, 10, 7, 11, 47, 48, 49, 50, 51, 52, 53, 54, 55, 56, 57, 58, 59, 60, 61, 62, 63, 64, 65, 66, 67, 68, 69, 70, 71, 72, 73, 74, 75, 76, 77, 78, 79, 80, 81, 82, 83, 84, 85, 86, 87, 88, 89, 90, 91, 92, 93] rfl (by decide +kernel)
