theorem dX12_meanOf_43 : decode cX12_meanOf 43 = .ok (.istore_n 2, 1) := by decide +kernel
theorem dX12_meanOf_44 : decode cX12_meanOf 44 = .ok (.iinc 3 1, 3) := by decide +kernel
theorem dX12_meanOf_47 : decode cX12_meanOf 47 = .ok (.goto (-43), 3) := by decide +kernel
theorem dX12_meanOf_50 : decode cX12_meanOf 50 = .ok (.iload_n 2, 1) := by decide +kernel
theorem dX12_meanOf_51 : decode cX12_meanOf 51 = .ok (.ireturn, 1) := by decide +kernel
set_option maxRecDepth 20000 in
theorem ggX12_mean_X12_isMan : GoodIn wsX12_mean wsX12_isMan := goodIn_r _ [6, 1, 7, 8, 5, 9, 89, 90, 91, 92, 93, 94, 95, 96, 97, 98, 99, 100, 101, 102, 103, 104, 105, 106, 107, 108, 109, 110, 111, 112, 113, 114, 115, 116, 117, 118, 119, 120, 121, 122, 123, 124, 125, 126, 127, 128, 129, 130, 131, 132, 133, 134, 135] rfl (by decide +kernel)
set_option maxRecDepth 20000 in
theorem gX12_mean_X12_isMan : GoodIn wsX12_mean (wsV RX12 269 RX12 yX12_isMan wsX12_isMan) := goodIn_app (goodIn_of _ (by decide +kernel)) ggX12_mean_X12_isMan
set_option maxRecDepth 20000 in
theorem ggX12_mean_X12_isIn : GoodIn wsX12_mean wsX12_isIn := goodIn_r _ [9] rfl (by decide +kernel)
set_option maxRecDepth 20000 in
theorem gX12_mean_X12_isIn : GoodIn wsX12_mean (va_wsS RX12 191 yX12_isIn wsX12_isIn) := goodIn_app (goodIn_of _ (by decide +kernel)) ggX12_mean_X12_isIn
set_option maxRecDepth 20000 in
theorem ggX12_mean_X12_throwsIf : GoodIn wsX12_mean wsX12_throwsIf := goodIn_r _ [13, 14, 89, 90, 91, 92, 93, 94, 95, 96, 97, 98, 99, 100, 101, 102, 103, 104, 105, 106, 107, 108, 109, 110, 111, 112, 113, 114, 115, 116, 117, 118, 119, 120, 121, 122, 123, 124, 125, 126, 127, 128, 129, 130, 131, 132, 133, 134, 135] rfl (by decide +kernel)
set_option maxRecDepth 20000 in
theorem gX12_mean_X12_throwsIf : GoodIn wsX12_mean (wsV RX12 272 RX12 yX12_throwsIf wsX12_throwsIf) := goodIn_app (goodIn_of _ (by decide +kernel)) ggX12_mean_X12_throwsIf
set_option maxRecDepth 20000 in
theorem ggX12_mean_X12_asNow : GoodIn wsX12_mean wsX12_asNow := goodIn_r _ [18, 1, 19, 20, 21, 5, 22, 23, 24, 25, 89, 90, 91, 92, 93, 94, 95, 96, 97, 98, 99, 100, 101, 102, 103, 104, 105, 106, 107, 108, 109, 110, 111, 112, 113, 114, 115, 116, 117, 118, 119, 120, 121, 122, 123, 124, 125, 126, 127, 128, 129, 130, 131, 132, 133, 134, 135] rfl (by decide +kernel)
set_option maxRecDepth 20000 in
theorem gX12_mean_X12_asNow : GoodIn wsX12_mean (wsV RX12 318 RX12 yX12_asNow wsX12_asNow) := goodIn_app (goodIn_of _ (by decide +kernel)) ggX12_mean_X12_asNow
set_option maxRecDepth 20000 in
theorem ggX12_mean_X12_meanOf : GoodIn wsX12_mean wsX12_meanOf := goodIn_r _ [29, 1, 30, 31, 32, 33, 5, 34, 35, 36, 37, 38, 39, 40, 41, 42, 43, 44, 45, 46, 47, 48, 49, 50, 51, 25, 23, 52, 53, 54, 55, 24, 56, 57, 58, 59, 60, 61, 62, 63, 64, 65, 66, 67, 68, 69, 70, 71, 72, 73, 74, 75, 76, 77, 78, 79, 80, 81, 89, 90, 91, 92, 93, 94, 95, 96, 97, 98, 99, 100, 101, 102, 103, 104, 105, 106, 107, 108, 109, 110, 111, 112, 113, 114, 115, 116, 117, 118, 119, 120, 121, 122, 123, 124, 125, 126, 127, 128, 129, 130, 131, 132, 133, 134, 135] rfl (by decide +kernel)
set_option maxRecDepth 20000 in
theorem gX12_mean_X12_meanOf : GoodIn wsX12_mean (wsV RX12 369 RX12 yX12_meanOf wsX12_meanOf) := goodIn_app (goodIn_of _ (by decide +kernel)) ggX12_mean_X12_meanOf
set_option maxRecDepth 20000 in
theorem ggX12_mean_X12_chances : GoodIn wsX12_mean wsX12_chances := goodIn_r _ [85, 1, 89, 90, 91, 92, 93, 94, 95, 96, 97, 98, 99, 100, 101, 102, 103, 104, 105, 106, 107, 108, 109, 110, 111, 112, 113, 114, 115, 116, 117, 118, 119, 120, 121, 122, 123, 124, 125, 126, 127, 128, 129, 130, 131, 132, 133, 134, 135] rfl (by decide +kernel)
set_option maxRecDepth 20000 in
theorem gX12_mean_X12_chances : GoodIn wsX12_mean (wsV RX12 372 RX12 yX12_chances wsX12_chances) := goodIn_app (goodIn_of _ (by decide +kernel)) ggX12_mean_X12_chances
set_option maxRecDepth 20000 in
theorem ggX12_mean_X12_part : GoodIn wsX12_mean wsX12_part := goodIn_r _ [88] rfl (by decide +kernel)
set_option maxRecDepth 20000 in
theorem gX12_mean_X12_part : GoodIn wsX12_mean (va_wsS RX12 375 yX12_part wsX12_part) := goodIn_app (goodIn_of _ (by decide +kernel)) ggX12_mean_X12_part
theorem dX12_mean_0 : decode cX12_mean 0 = .ok (.aload_n 0, 1) := by decide +kernel
theorem dX12_mean_1 : decode cX12_mean 1 = .ok (.aload_n 0, 1) := by decide +kernel
theorem dX12_mean_2 : decode cX12_mean 2 = .ok (.iload_n 1, 1) := by decide +kernel
theorem dX12_mean_3 : decode cX12_mean 3 = .ok (.invokevirtual 269, 3) := by decide +kernel
theorem dX12_mean_6 : decode cX12_mean 6 = .ok (.ifCond .eq 21, 3) := by decide +kernel
theorem dX12_mean_9 : decode cX12_mean 9 = .ok (.aload_n 0, 1) := by decide +kernel
theorem dX12_mean_10 : decode cX12_mean 10 = .ok (.getfield 33, 3) := by decide +kernel
theorem dX12_mean_13 : decode cX12_mean 13 = .ok (.iconst 2, 1) := by decide +kernel
theorem dX12_mean_14 : decode cX12_mean 14 = .ok (.iaload, 1) := by decide +kernel
theorem dX12_mean_15 : decode cX12_mean 15 = .ok (.ifCond .eq 12, 3) := by decide +kernel
theorem dX12_mean_18 : decode cX12_mean 18 = .ok (.iload_n 2, 1) := by decide +kernel
theorem dX12_mean_19 : decode cX12_mean 19 = .ok (.iconst 0, 1) := by decide +kernel
theorem dX12_mean_20 : decode cX12_mean 20 = .ok (.iconst 1, 1) := by decide +kernel
theorem dX12_mean_21 : decode cX12_mean 21 = .ok (.invokestatic 191, 3) := by decide +kernel
theorem dX12_mean_24 : decode cX12_mean 24 = .ok (.ifCond .ne 7, 3) := by decide +kernel
theorem dX12_mean_27 : decode cX12_mean 27 = .ok (.iconst 1, 1) := by decide +kernel
theorem dX12_mean_28 : decode cX12_mean 28 = .ok (.goto 4, 3) := by decide +kernel
theorem dX12_mean_31 : decode cX12_mean 31 = .ok (.iconst 0, 1) := by decide +kernel
theorem dX12_mean_32 : decode cX12_mean 32 = .ok (.invokevirtual 272, 3) := by decide +kernel
theorem dX12_mean_35 : decode cX12_mean 35 = .ok (.ifCond .eq 5, 3) := by decide +kernel
theorem dX12_mean_38 : decode cX12_mean 38 = .ok (.iconst 0, 1) := by decide +kernel
theorem dX12_mean_39 : decode cX12_mean 39 = .ok (.ireturn, 1) := by decide +kernel
theorem dX12_mean_40 : decode cX12_mean 40 = .ok (.aload_n 0, 1) := by decide +kernel
theorem dX12_mean_41 : decode cX12_mean 41 = .ok (.invokevirtual 318, 3) := by decide +kernel
theorem dX12_mean_44 : decode cX12_mean 44 = .ok (.aload_n 0, 1) := by decide +kernel
theorem dX12_mean_45 : decode cX12_mean 45 = .ok (.iload_n 1, 1) := by decide +kernel
theorem dX12_mean_46 : decode cX12_mean 46 = .ok (.invokevirtual 369, 3) := by decide +kernel
theorem dX12_mean_49 : decode cX12_mean 49 = .ok (.aload_n 0, 1) := by decide +kernel
theorem dX12_mean_50 : decode cX12_mean 50 = .ok (.invokevirtual 372, 3) := by decide +kernel
theorem dX12_mean_53 : decode cX12_mean 53 = .ok (.iload_n 2, 1) := by decide +kernel
theorem dX12_mean_54 : decode cX12_mean 54 = .ok (.invokestatic 375, 3) := by decide +kernel
theorem dX12_mean_57 : decode cX12_mean 57 = .ok (.ireturn, 1) := by decide +kernel
set_option maxRecDepth 20000 in
theorem ggX12_tellsBetter_X12_chances : GoodIn wsX12_tellsBetter wsX12_chances := goodIn_r _ [8, 9, 10, 11, 12, 13, 14, 15, 16, 17, 18, 19, 20, 21, 22, 23, 24, 25, 26, 27, 28, 29, 30, 31, 32, 33, 34, 35, 36, 37, 38, 39, 40, 41, 42, 43, 44, 45, 46, 47, 48, 49, 50, 51, 52, 53, 54, 55, 56] rfl (by decide +kernel)
set_option maxRecDepth 20000 in
theorem gX12_tellsBetter_X12_chances : GoodIn wsX12_tellsBetter (wsV RX12 372 RX12 yX12_chances wsX12_chances) := goodIn_app (goodIn_of _ (by decide +kernel)) ggX12_tellsBetter_X12_chances
theorem dX12_tellsBetter_0 : decode cX12_tellsBetter 0 = .ok (.aload_n 0, 1) := by decide +kernel
theorem dX12_tellsBetter_1 : decode cX12_tellsBetter 1 = .ok (.iconst 1, 1) := by decide +kernel
theorem dX12_tellsBetter_2 : decode cX12_tellsBetter 2 = .ok (.putfield 378, 3) := by decide +kernel
theorem dX12_tellsBetter_5 : decode cX12_tellsBetter 5 = .ok (.aload_n 0, 1) := by decide +kernel
theorem dX12_tellsBetter_6 : decode cX12_tellsBetter 6 = .ok (.iload_n 1, 1) := by decide +kernel
theorem dX12_tellsBetter_7 : decode cX12_tellsBetter 7 = .ok (.putfield 382, 3) := by decide +kernel
theorem dX12_tellsBetter_10 : decode cX12_tellsBetter 10 = .ok (.aload_n 0, 1) := by decide +kernel
theorem dX12_tellsBetter_11 : decode cX12_tellsBetter 11 = .ok (.aload_n 0, 1) := by decide +kernel
theorem dX12_tellsBetter_12 : decode cX12_tellsBetter 12 = .ok (.invokevirtual 372, 3) := by decide +kernel
theorem dX12_tellsBetter_15 : decode cX12_tellsBetter 15 = .ok (.putfield 385, 3) := by decide +kernel
theorem dX12_tellsBetter_18 : decode cX12_tellsBetter 18 = .ok (.return_, 1) := by decide +kernel
set_option maxRecDepth 20000 in
theorem ggX12_beside_X12_isMan : GoodIn wsX12_beside wsX12_isMan := goodIn_r _ [7, 2, 8, 9, 6, 10, 89, 90, 91, 92, 93, 94, 95, 96, 97, 98, 99, 100, 101, 102, 103, 104, 105, 106, 107, 108, 109, 110, 111, 112, 113, 114, 115, 116, 117, 118, 119, 120, 121, 122, 123, 124, 125, 126, 127, 128, 129, 130, 131, 132, 133, 134, 135] rfl (by decide +kernel)
set_option maxRecDepth 20000 in
theorem gX12_beside_X12_isMan : GoodIn wsX12_beside (wsV RX12 269 RX12 yX12_isMan wsX12_isMan) := goodIn_app (goodIn_of _ (by decide +kernel)) ggX12_beside_X12_isMan
set_option maxRecDepth 20000 in
theorem ggX12_beside_X12_asNow : GoodIn wsX12_beside wsX12_asNow := goodIn_r _ [14, 2, 15, 16, 17, 6, 18, 19, 20, 21, 89, 90, 91, 92, 93, 94, 95, 96, 97, 98, 99, 100, 101, 102, 103, 104, 105, 106, 107, 108, 109, 110, 111, 112, 113, 114, 115, 116, 117, 118, 119, 120, 121, 122, 123, 124, 125, 126, 127, 128, 129, 130, 131, 132, 133, 134, 135] rfl (by decide +kernel)
set_option maxRecDepth 20000 in
theorem gX12_beside_X12_asNow : GoodIn wsX12_beside (wsV RX12 318 RX12 yX12_asNow wsX12_asNow) := goodIn_app (goodIn_of _ (by decide +kernel)) ggX12_beside_X12_asNow
set_option maxRecDepth 20000 in
theorem ggX12_beside_X12_stands : GoodIn wsX12_beside wsX12_stands := goodIn_r _ [18, 19, 2, 20, 21, 89, 90, 91, 92, 93, 94, 95, 96, 97, 98, 99, 100, 101, 102, 103, 104, 105, 106, 107, 108, 109, 110, 111, 112, 113, 114, 115, 116, 117, 118, 119, 120, 121, 122, 123, 124, 125, 126, 127, 128, 129, 130, 131, 132, 133, 134, 135] rfl (by decide +kernel)
set_option maxRecDepth 20000 in
theorem gX12_beside_X12_stands : GoodIn wsX12_beside (wsV RX12 279 RX12 yX12_stands wsX12_stands) := goodIn_app (goodIn_of _ (by decide +kernel)) ggX12_beside_X12_stands
set_option maxRecDepth 20000 in
theorem ggX12_beside_X12_meanOf : GoodIn wsX12_beside wsX12_meanOf := goodIn_r _ [25, 2, 26, 27, 28, 29, 6, 30, 31, 32, 33, 34, 35, 36, 37, 38, 39, 40, 41, 42, 43, 44, 45, 46, 47, 21, 19, 48, 49, 50, 51, 20, 52, 53, 54, 55, 56, 57, 58, 59, 60, 61, 62, 63, 64, 65, 66, 67, 68, 69, 70, 71, 72, 73, 74, 75, 76, 77, 89, 90, 91, 92, 93, 94, 95, 96, 97, 98, 99, 100, 101, 102, 103, 104, 105, 106, 107, 108, 109, 110, 111, 112, 113, 114, 115, 116, 117, 118, 119, 120, 121, 122, 123, 124, 125, 126, 127, 128, 129, 130, 131, 132, 133, 134, 135] rfl (by decide +kernel)
set_option maxRecDepth 20000 in
theorem gX12_beside_X12_meanOf : GoodIn wsX12_beside (wsV RX12 369 RX12 yX12_meanOf wsX12_meanOf) := goodIn_app (goodIn_of _ (by decide +kernel)) ggX12_beside_X12_meanOf
set_option maxRecDepth 20000 in
theorem ggX12_beside_X12_tellsBetter : GoodIn wsX12_beside wsX12_tellsBetter := goodIn_r _ [81, 82, 83, 84, 85, 86, 87, 6, 88, 2, 89, 90, 91, 92, 93, 94, 95, 96, 97, 98, 99, 100, 101, 102, 103, 104, 105, 106, 107, 108, 109, 110, 111, 112, 113, 114, 115, 116, 117, 118, 119, 120, 121, 122, 123, 124, 125, 126, 127, 128, 129, 130, 131, 132, 133, 134, 135] rfl (by decide +kernel)
set_option maxRecDepth 20000 in
theorem gX12_beside_X12_tellsBetter : GoodIn wsX12_beside (wsV RX12 388 RX12 yX12_tellsBetter wsX12_tellsBetter) := goodIn_app (goodIn_of _ (by decide +kernel)) ggX12_beside_X12_tellsBetter
theorem dX12_beside_0 : decode cX12_beside 0 = .ok (.aload_n 0, 1) := by decide +kernel
theorem dX12_beside_1 : decode cX12_beside 1 = .ok (.iconst 0, 1) := by decide +kernel
theorem dX12_beside_2 : decode cX12_beside 2 = .ok (.putfield 1, 3) := by decide +kernel
theorem dX12_beside_5 : decode cX12_beside 5 = .ok (.aload_n 0, 1) := by decide +kernel
theorem dX12_beside_6 : decode cX12_beside 6 = .ok (.iload_n 1, 1) := by decide +kernel
theorem dX12_beside_7 : decode cX12_beside 7 = .ok (.invokevirtual 269, 3) := by decide +kernel
theorem dX12_beside_10 : decode cX12_beside 10 = .ok (.ifCond .eq 12, 3) := by decide +kernel
theorem dX12_beside_13 : decode cX12_beside 13 = .ok (.aload_n 0, 1) := by decide +kernel
theorem dX12_beside_14 : decode cX12_beside 14 = .ok (.getfield 33, 3) := by decide +kernel
theorem dX12_beside_17 : decode cX12_beside 17 = .ok (.iconst 2, 1) := by decide +kernel
theorem dX12_beside_18 : decode cX12_beside 18 = .ok (.iaload, 1) := by decide +kernel
theorem dX12_beside_19 : decode cX12_beside 19 = .ok (.ifCond .ne 5, 3) := by decide +kernel
theorem dX12_beside_22 : decode cX12_beside 22 = .ok (.iconst (-1), 1) := by decide +kernel
theorem dX12_beside_23 : decode cX12_beside 23 = .ok (.ireturn, 1) := by decide +kernel
theorem dX12_beside_24 : decode cX12_beside 24 = .ok (.aload_n 0, 1) := by decide +kernel
theorem dX12_beside_25 : decode cX12_beside 25 = .ok (.invokevirtual 318, 3) := by decide +kernel
theorem dX12_beside_28 : decode cX12_beside 28 = .ok (.iconst (-1), 1) := by decide +kernel
theorem dX12_beside_29 : decode cX12_beside 29 = .ok (.istore_n 2, 1) := by decide +kernel
theorem dX12_beside_30 : decode cX12_beside 30 = .ok (.iconst 0, 1) := by decide +kernel
theorem dX12_beside_31 : decode cX12_beside 31 = .ok (.istore_n 3, 1) := by decide +kernel
theorem dX12_beside_32 : decode cX12_beside 32 = .ok (.iconst 0, 1) := by decide +kernel
theorem dX12_beside_33 : decode cX12_beside 33 = .ok (.istore 4, 2) := by decide +kernel
theorem dX12_beside_35 : decode cX12_beside 35 = .ok (.iload 4, 2) := by decide +kernel
theorem dX12_beside_37 : decode cX12_beside 37 = .ok (.aload_n 0, 1) := by decide +kernel
theorem dX12_beside_38 : decode cX12_beside 38 = .ok (.getfield 33, 3) := by decide +kernel
theorem dX12_beside_41 : decode cX12_beside 41 = .ok (.iconst 0, 1) := by decide +kernel
theorem dX12_beside_42 : decode cX12_beside 42 = .ok (.iaload, 1) := by decide +kernel
theorem dX12_beside_43 : decode cX12_beside 43 = .ok (.if_icmp .ge 42, 3) := by decide +kernel
theorem dX12_beside_46 : decode cX12_beside 46 = .ok (.aload_n 0, 1) := by decide +kernel
theorem dX12_beside_47 : decode cX12_beside 47 = .ok (.iload_n 1, 1) := by decide +kernel
theorem dX12_beside_48 : decode cX12_beside 48 = .ok (.iload 4, 2) := by decide +kernel
theorem dX12_beside_50 : decode cX12_beside 50 = .ok (.invokevirtual 279, 3) := by decide +kernel
theorem dX12_beside_53 : decode cX12_beside 53 = .ok (.aload_n 0, 1) := by decide +kernel
theorem dX12_beside_54 : decode cX12_beside 54 = .ok (.iload_n 1, 1) := by decide +kernel
theorem dX12_beside_55 : decode cX12_beside 55 = .ok (.invokevirtual 369, 3) := by decide +kernel
theorem dX12_beside_58 : decode cX12_beside 58 = .ok (.istore 5, 2) := by decide +kernel
theorem dX12_beside_60 : decode cX12_beside 60 = .ok (.iload_n 2, 1) := by decide +kernel
theorem dX12_beside_61 : decode cX12_beside 61 = .ok (.ifCond .lt 12, 3) := by decide +kernel
theorem dX12_beside_64 : decode cX12_beside 64 = .ok (.iload 5, 2) := by decide +kernel
theorem dX12_beside_66 : decode cX12_beside 66 = .ok (.iload_n 3, 1) := by decide +kernel
theorem dX12_beside_67 : decode cX12_beside 67 = .ok (.if_icmp .gt 6, 3) := by decide +kernel
theorem dX12_beside_70 : decode cX12_beside 70 = .ok (.goto 9, 3) := by decide +kernel
theorem dX12_beside_73 : decode cX12_beside 73 = .ok (.iload 4, 2) := by decide +kernel
theorem dX12_beside_75 : decode cX12_beside 75 = .ok (.istore_n 2, 1) := by decide +kernel
theorem dX12_beside_76 : decode cX12_beside 76 = .ok (.iload 5, 2) := by decide +kernel
theorem dX12_beside_78 : decode cX12_beside 78 = .ok (.istore_n 3, 1) := by decide +kernel
theorem dX12_beside_79 : decode cX12_beside 79 = .ok (.iinc 4 1, 3) := by decide +kernel
theorem dX12_beside_82 : decode cX12_beside 82 = .ok (.goto (-47), 3) := by decide +kernel
theorem dX12_beside_85 : decode cX12_beside 85 = .ok (.aload_n 0, 1) := by decide +kernel
theorem dX12_beside_86 : decode cX12_beside 86 = .ok (.iload_n 3, 1) := by decide +kernel
theorem dX12_beside_87 : decode cX12_beside 87 = .ok (.invokevirtual 388, 3) := by decide +kernel
theorem dX12_beside_90 : decode cX12_beside 90 = .ok (.iload_n 2, 1) := by decide +kernel
theorem dX12_beside_91 : decode cX12_beside 91 = .ok (.ireturn, 1) := by decide +kernel
set_option maxRecDepth 20000 in
theorem ggX12_hut_X12_isMan : GoodIn wsX12_hut wsX12_isMan := goodIn_r _ [10, 2, 11, 12, 9, 13, 89, 90, 91, 92, 93, 94, 95, 96, 97, 98, 99, 100, 101, 102, 103, 104, 105, 106, 107, 108, 109, 110, 111, 112, 113, 114, 115, 116, 117, 118, 119, 120, 121, 122, 123, 124, 125, 126, 127, 128, 129, 130, 131, 132, 133, 134, 135] rfl (by decide +kernel)
set_option maxRecDepth 20000 in
theorem gX12_hut_X12_isMan : GoodIn wsX12_hut (wsV RX12 269 RX12 yX12_isMan wsX12_isMan) := goodIn_app (goodIn_of _ (by decide +kernel)) ggX12_hut_X12_isMan
set_option maxRecDepth 20000 in
theorem ggX12_hut_X12_asNow : GoodIn wsX12_hut wsX12_asNow := goodIn_r _ [17, 2, 18, 19, 20, 9, 21, 4, 5, 3, 89, 90, 91, 92, 93, 94, 95, 96, 97, 98, 99, 100, 101, 102, 103, 104, 105, 106, 107, 108, 109, 110, 111, 112, 113, 114, 115, 116, 117, 118, 119, 120, 121, 122, 123, 124, 125, 126, 127, 128, 129, 130, 131, 132, 133, 134, 135] rfl (by decide +kernel)
set_option maxRecDepth 20000 in
theorem gX12_hut_X12_asNow : GoodIn wsX12_hut (wsV RX12 318 RX12 yX12_asNow wsX12_asNow) := goodIn_app (goodIn_of _ (by decide +kernel)) ggX12_hut_X12_asNow
set_option maxRecDepth 20000 in
theorem ggX12_hut_X12_meanOf : GoodIn wsX12_hut wsX12_meanOf := goodIn_r _ [25, 2, 26, 27, 28, 29, 9, 30, 31, 32, 33, 34, 35, 36, 37, 38, 39, 40, 41, 42, 43, 44, 45, 46, 47, 3, 4, 48, 49, 50, 51, 5, 52, 53, 54, 55, 56, 57, 58, 59, 60, 61, 62, 63, 64, 65, 66, 67, 68, 69, 70, 71, 72, 73, 74, 75, 76, 77, 89, 90, 91, 92, 93, 94, 95, 96, 97, 98, 99, 100, 101, 102, 103, 104, 105, 106, 107, 108, 109, 110, 111, 112, 113, 114, 115, 116, 117, 118, 119, 120, 121, 122, 123, 124, 125, 126, 127, 128, 129, 130, 131, 132, 133, 134, 135] rfl (by decide +kernel)
set_option maxRecDepth 20000 in
theorem gX12_hut_X12_meanOf : GoodIn wsX12_hut (wsV RX12 369 RX12 yX12_meanOf wsX12_meanOf) := goodIn_app (goodIn_of _ (by decide +kernel)) ggX12_hut_X12_meanOf
set_option maxRecDepth 20000 in
theorem ggX12_hut_X12_tellsBetter : GoodIn wsX12_hut wsX12_tellsBetter := goodIn_r _ [81, 82, 83, 84, 85, 86, 87, 9, 88, 2, 89, 90, 91, 92, 93, 94, 95, 96, 97, 98, 99, 100, 101, 102, 103, 104, 105, 106, 107, 108, 109, 110, 111, 112, 113, 114, 115, 116, 117, 118, 119, 120, 121, 122, 123, 124, 125, 126, 127, 128, 129, 130, 131, 132, 133, 134, 135] rfl (by decide +kernel)
set_option maxRecDepth 20000 in
theorem gX12_hut_X12_tellsBetter : GoodIn wsX12_hut (wsV RX12 388 RX12 yX12_tellsBetter wsX12_tellsBetter) := goodIn_app (goodIn_of _ (by decide +kernel)) ggX12_hut_X12_tellsBetter
theorem dX12_hut_0 : decode cX12_hut 0 = .ok (.aload_n 0, 1) := by decide +kernel
theorem dX12_hut_1 : decode cX12_hut 1 = .ok (.iconst 0, 1) := by decide +kernel
theorem dX12_hut_2 : decode cX12_hut 2 = .ok (.putfield 1, 3) := by decide +kernel
theorem dX12_hut_5 : decode cX12_hut 5 = .ok (.aload_n 0, 1) := by decide +kernel
theorem dX12_hut_6 : decode cX12_hut 6 = .ok (.iload_n 1, 1) := by decide +kernel
theorem dX12_hut_7 : decode cX12_hut 7 = .ok (.invokevirtual 269, 3) := by decide +kernel
theorem dX12_hut_10 : decode cX12_hut 10 = .ok (.ifCond .eq 12, 3) := by decide +kernel
theorem dX12_hut_13 : decode cX12_hut 13 = .ok (.aload_n 0, 1) := by decide +kernel
theorem dX12_hut_14 : decode cX12_hut 14 = .ok (.getfield 33, 3) := by decide +kernel
theorem dX12_hut_17 : decode cX12_hut 17 = .ok (.iconst 2, 1) := by decide +kernel
theorem dX12_hut_18 : decode cX12_hut 18 = .ok (.iaload, 1) := by decide +kernel
theorem dX12_hut_19 : decode cX12_hut 19 = .ok (.ifCond .ne 5, 3) := by decide +kernel
theorem dX12_hut_22 : decode cX12_hut 22 = .ok (.iconst (-1), 1) := by decide +kernel
theorem dX12_hut_23 : decode cX12_hut 23 = .ok (.ireturn, 1) := by decide +kernel
theorem dX12_hut_24 : decode cX12_hut 24 = .ok (.aload_n 0, 1) := by decide +kernel
theorem dX12_hut_25 : decode cX12_hut 25 = .ok (.invokevirtual 318, 3) := by decide +kernel
theorem dX12_hut_28 : decode cX12_hut 28 = .ok (.aload_n 0, 1) := by decide +kernel
theorem dX12_hut_29 : decode cX12_hut 29 = .ok (.getfield 56, 3) := by decide +kernel
theorem dX12_hut_32 : decode cX12_hut 32 = .ok (.iload_n 1, 1) := by decide +kernel
theorem dX12_hut_33 : decode cX12_hut 33 = .ok (.iconst 0, 1) := by decide +kernel
theorem dX12_hut_34 : decode cX12_hut 34 = .ok (.iastore, 1) := by decide +kernel
theorem dX12_hut_35 : decode cX12_hut 35 = .ok (.iconst (-1), 1) := by decide +kernel
theorem dX12_hut_36 : decode cX12_hut 36 = .ok (.istore_n 2, 1) := by decide +kernel
theorem dX12_hut_37 : decode cX12_hut 37 = .ok (.iconst 0, 1) := by decide +kernel
theorem dX12_hut_38 : decode cX12_hut 38 = .ok (.istore_n 3, 1) := by decide +kernel
theorem dX12_hut_39 : decode cX12_hut 39 = .ok (.iconst 0, 1) := by decide +kernel
theorem dX12_hut_40 : decode cX12_hut 40 = .ok (.istore 4, 2) := by decide +kernel
theorem dX12_hut_42 : decode cX12_hut 42 = .ok (.iload 4, 2) := by decide +kernel
theorem dX12_hut_44 : decode cX12_hut 44 = .ok (.bipush 20, 2) := by decide +kernel
theorem dX12_hut_46 : decode cX12_hut 46 = .ok (.if_icmp .gt 73, 3) := by decide +kernel
theorem dX12_hut_49 : decode cX12_hut 49 = .ok (.iconst 0, 1) := by decide +kernel
theorem dX12_hut_50 : decode cX12_hut 50 = .ok (.istore 5, 2) := by decide +kernel
theorem dX12_hut_52 : decode cX12_hut 52 = .ok (.iload 5, 2) := by decide +kernel
theorem dX12_hut_54 : decode cX12_hut 54 = .ok (.bipush 20, 2) := by decide +kernel
theorem dX12_hut_56 : decode cX12_hut 56 = .ok (.if_icmp .gt 57, 3) := by decide +kernel
theorem dX12_hut_59 : decode cX12_hut 59 = .ok (.aload_n 0, 1) := by decide +kernel
theorem dX12_hut_60 : decode cX12_hut 60 = .ok (.getfield 50, 3) := by decide +kernel
theorem dX12_hut_63 : decode cX12_hut 63 = .ok (.iload_n 1, 1) := by decide +kernel
theorem dX12_hut_64 : decode cX12_hut 64 = .ok (.iload 5, 2) := by decide +kernel
theorem dX12_hut_66 : decode cX12_hut 66 = .ok (.iastore, 1) := by decide +kernel
theorem dX12_hut_67 : decode cX12_hut 67 = .ok (.aload_n 0, 1) := by decide +kernel
theorem dX12_hut_68 : decode cX12_hut 68 = .ok (.getfield 53, 3) := by decide +kernel
theorem dX12_hut_71 : decode cX12_hut 71 = .ok (.iload_n 1, 1) := by decide +kernel
theorem dX12_hut_72 : decode cX12_hut 72 = .ok (.iload 4, 2) := by decide +kernel
theorem dX12_hut_74 : decode cX12_hut 74 = .ok (.iastore, 1) := by decide +kernel
theorem dX12_hut_75 : decode cX12_hut 75 = .ok (.aload_n 0, 1) := by decide +kernel
theorem dX12_hut_76 : decode cX12_hut 76 = .ok (.iload_n 1, 1) := by decide +kernel
theorem dX12_hut_77 : decode cX12_hut 77 = .ok (.invokevirtual 369, 3) := by decide +kernel
theorem dX12_hut_80 : decode cX12_hut 80 = .ok (.istore 6, 2) := by decide +kernel
theorem dX12_hut_82 : decode cX12_hut 82 = .ok (.iload_n 2, 1) := by decide +kernel
theorem dX12_hut_83 : decode cX12_hut 83 = .ok (.ifCond .lt 12, 3) := by decide +kernel
theorem dX12_hut_86 : decode cX12_hut 86 = .ok (.iload 6, 2) := by decide +kernel
theorem dX12_hut_88 : decode cX12_hut 88 = .ok (.iload_n 3, 1) := by decide +kernel
theorem dX12_hut_89 : decode cX12_hut 89 = .ok (.if_icmp .gt 6, 3) := by decide +kernel
theorem dX12_hut_92 : decode cX12_hut 92 = .ok (.goto 15, 3) := by decide +kernel
theorem dX12_hut_95 : decode cX12_hut 95 = .ok (.bipush 100, 2) := by decide +kernel
theorem dX12_hut_97 : decode cX12_hut 97 = .ok (.iload 4, 2) := by decide +kernel
theorem dX12_hut_99 : decode cX12_hut 99 = .ok (.imul, 1) := by decide +kernel
theorem dX12_hut_100 : decode cX12_hut 100 = .ok (.iload 5, 2) := by decide +kernel
theorem dX12_hut_102 : decode cX12_hut 102 = .ok (.iadd, 1) := by decide +kernel
theorem dX12_hut_103 : decode cX12_hut 103 = .ok (.istore_n 2, 1) := by decide +kernel
theorem dX12_hut_104 : decode cX12_hut 104 = .ok (.iload 6, 2) := by decide +kernel
theorem dX12_hut_106 : decode cX12_hut 106 = .ok (.istore_n 3, 1) := by decide +kernel
theorem dX12_hut_107 : decode cX12_hut 107 = .ok (.iinc 5 1, 3) := by decide +kernel
theorem dX12_hut_110 : decode cX12_hut 110 = .ok (.goto (-58), 3) := by decide +kernel
