set_option maxRecDepth 20000 in
theorem gX12_swear_X12_whySwear : GoodIn wsX12_swear (wsV RX12 345 RX12 yX12_whySwear wsX12_whySwear) := goodIn_app (goodIn_of _ (by decide +kernel)) ggX12_swear_X12_whySwear
set_option maxRecDepth 20000 in
theorem ggX12_swear_X12_keep : GoodIn wsX12_swear wsX12_keep := goodIn_r _ [22, 23, 24, 7, 29, 30, 31, 32, 33, 34, 35, 36, 37, 38, 39, 40, 41, 42, 43, 44, 45, 46, 47, 48, 49, 50, 51, 52, 53, 54, 55, 56, 57, 58, 59, 60, 61, 62, 63, 64, 65, 66, 67, 68, 69, 70, 71, 72, 73, 74, 75] rfl (by decide +kernel)
set_option maxRecDepth 20000 in
theorem gX12_swear_X12_keep : GoodIn wsX12_swear (wsV RX12 336 RX12 yX12_keep wsX12_keep) := goodIn_app (goodIn_of _ (by decide +kernel)) ggX12_swear_X12_keep
set_option maxRecDepth 20000 in
theorem ggX12_swear_X12_swearsTo : GoodIn wsX12_swear wsX12_swearsTo := goodIn_r _ [28, 7, 29, 30, 31, 32, 33, 34, 35, 36, 37, 38, 39, 40, 41, 42, 43, 44, 45, 46, 47, 48, 49, 50, 51, 52, 53, 54, 55, 56, 57, 58, 59, 60, 61, 62, 63, 64, 65, 66, 67, 68, 69, 70, 71, 72, 73, 74, 75] rfl (by decide +kernel)
set_option maxRecDepth 20000 in
theorem gX12_swear_X12_swearsTo : GoodIn wsX12_swear (wsV RX12 348 RX12 yX12_swearsTo wsX12_swearsTo) := goodIn_app (goodIn_of _ (by decide +kernel)) ggX12_swear_X12_swearsTo
theorem dX12_swear_0 : decode cX12_swear 0 = .ok (.aload_n 0, 1) := by decide +kernel
theorem dX12_swear_1 : decode cX12_swear 1 = .ok (.iconst 0, 1) := by decide +kernel
theorem dX12_swear_2 : decode cX12_swear 2 = .ok (.putfield 1, 3) := by decide +kernel
theorem dX12_swear_5 : decode cX12_swear 5 = .ok (.aload_n 0, 1) := by decide +kernel
theorem dX12_swear_6 : decode cX12_swear 6 = .ok (.iload_n 1, 1) := by decide +kernel
theorem dX12_swear_7 : decode cX12_swear 7 = .ok (.invokevirtual 269, 3) := by decide +kernel
theorem dX12_swear_10 : decode cX12_swear 10 = .ok (.ifCond .eq 13, 3) := by decide +kernel
theorem dX12_swear_13 : decode cX12_swear 13 = .ok (.iload_n 2, 1) := by decide +kernel
theorem dX12_swear_14 : decode cX12_swear 14 = .ok (.iconst 0, 1) := by decide +kernel
theorem dX12_swear_15 : decode cX12_swear 15 = .ok (.bipush 9, 2) := by decide +kernel
theorem dX12_swear_17 : decode cX12_swear 17 = .ok (.invokestatic 191, 3) := by decide +kernel
theorem dX12_swear_20 : decode cX12_swear 20 = .ok (.ifCond .ne 5, 3) := by decide +kernel
theorem dX12_swear_23 : decode cX12_swear 23 = .ok (.iconst (-1), 1) := by decide +kernel
theorem dX12_swear_24 : decode cX12_swear 24 = .ok (.ireturn, 1) := by decide +kernel
theorem dX12_swear_25 : decode cX12_swear 25 = .ok (.aload_n 0, 1) := by decide +kernel
theorem dX12_swear_26 : decode cX12_swear 26 = .ok (.iload_n 1, 1) := by decide +kernel
theorem dX12_swear_27 : decode cX12_swear 27 = .ok (.iload_n 2, 1) := by decide +kernel
theorem dX12_swear_28 : decode cX12_swear 28 = .ok (.invokevirtual 345, 3) := by decide +kernel
theorem dX12_swear_31 : decode cX12_swear 31 = .ok (.istore_n 3, 1) := by decide +kernel
theorem dX12_swear_32 : decode cX12_swear 32 = .ok (.iload_n 3, 1) := by decide +kernel
theorem dX12_swear_33 : decode cX12_swear 33 = .ok (.ifCond .le 5, 3) := by decide +kernel
theorem dX12_swear_36 : decode cX12_swear 36 = .ok (.iload_n 3, 1) := by decide +kernel
theorem dX12_swear_37 : decode cX12_swear 37 = .ok (.ireturn, 1) := by decide +kernel
theorem dX12_swear_38 : decode cX12_swear 38 = .ok (.aload_n 0, 1) := by decide +kernel
theorem dX12_swear_39 : decode cX12_swear 39 = .ok (.invokevirtual 336, 3) := by decide +kernel
theorem dX12_swear_42 : decode cX12_swear 42 = .ok (.aload_n 0, 1) := by decide +kernel
theorem dX12_swear_43 : decode cX12_swear 43 = .ok (.iload_n 1, 1) := by decide +kernel
theorem dX12_swear_44 : decode cX12_swear 44 = .ok (.iload_n 2, 1) := by decide +kernel
theorem dX12_swear_45 : decode cX12_swear 45 = .ok (.invokevirtual 348, 3) := by decide +kernel
theorem dX12_swear_48 : decode cX12_swear 48 = .ok (.iconst 0, 1) := by decide +kernel
theorem dX12_swear_49 : decode cX12_swear 49 = .ok (.ireturn, 1) := by decide +kernel
set_option maxRecDepth 20000 in
theorem ggX12_accuse_X12_isMan : GoodIn wsX12_accuse wsX12_isMan := goodIn_r _ [6, 7, 8, 9, 5, 10, 59, 60, 61, 62, 63, 64, 65, 66, 67, 68, 69, 70, 71, 72, 73, 74, 75, 76, 77, 78, 79, 80, 81, 82, 83, 84, 85, 86, 87, 88, 89, 90, 91, 92, 93, 94, 95, 96, 97, 98, 99, 100, 101, 102, 103, 104, 105] rfl (by decide +kernel)
set_option maxRecDepth 20000 in
theorem gX12_accuse_X12_isMan : GoodIn wsX12_accuse (wsV RX12 269 RX12 yX12_isMan wsX12_isMan) := goodIn_app (goodIn_of _ (by decide +kernel)) ggX12_accuse_X12_isMan
set_option maxRecDepth 20000 in
theorem ggX12_accuse_X12_whyAccuse : GoodIn wsX12_accuse wsX12_whyAccuse := goodIn_r _ [14, 7, 15, 16, 17, 5, 18, 19, 20, 21, 22, 23, 24, 25, 26, 27, 28, 29, 30, 31, 32, 59, 60, 61, 62, 63, 64, 65, 66, 67, 68, 69, 70, 71, 72, 73, 74, 75, 76, 77, 78, 79, 80, 81, 82, 83, 84, 85, 86, 87, 88, 89, 90, 91, 92, 93, 94, 95, 96, 97, 98, 99, 100, 101, 102, 103, 104, 105] rfl (by decide +kernel)
set_option maxRecDepth 20000 in
theorem gX12_accuse_X12_whyAccuse : GoodIn wsX12_accuse (wsV RX12 351 RX12 yX12_whyAccuse wsX12_whyAccuse) := goodIn_app (goodIn_of _ (by decide +kernel)) ggX12_accuse_X12_whyAccuse
set_option maxRecDepth 20000 in
theorem ggX12_accuse_X12_keep : GoodIn wsX12_accuse wsX12_keep := goodIn_r _ [36, 37, 38, 7, 59, 60, 61, 62, 63, 64, 65, 66, 67, 68, 69, 70, 71, 72, 73, 74, 75, 76, 77, 78, 79, 80, 81, 82, 83, 84, 85, 86, 87, 88, 89, 90, 91, 92, 93, 94, 95, 96, 97, 98, 99, 100, 101, 102, 103, 104, 105] rfl (by decide +kernel)
set_option maxRecDepth 20000 in
theorem gX12_accuse_X12_keep : GoodIn wsX12_accuse (wsV RX12 336 RX12 yX12_keep wsX12_keep) := goodIn_app (goodIn_of _ (by decide +kernel)) ggX12_accuse_X12_keep
set_option maxRecDepth 20000 in
theorem ggX12_accuse_X12_accuses : GoodIn wsX12_accuse wsX12_accuses := goodIn_r _ [42, 7, 43, 44, 45, 5, 46, 15, 16, 17, 18, 19, 20, 21, 22, 23, 24, 25, 47, 48, 49, 50, 51, 52, 53, 54, 55, 56, 57, 58, 26, 27, 28, 29, 30, 31, 32, 59, 60, 61, 62, 63, 64, 65, 66, 67, 68, 69, 70, 71, 72, 73, 74, 75, 76, 77, 78, 79, 80, 81, 82, 83, 84, 85, 86, 87, 88, 89, 90, 91, 92, 93, 94, 95, 96, 97, 98, 99, 100, 101, 102, 103, 104, 105] rfl (by decide +kernel)
set_option maxRecDepth 20000 in
theorem gX12_accuse_X12_accuses : GoodIn wsX12_accuse (wsV RX12 354 RX12 yX12_accuses wsX12_accuses) := goodIn_app (goodIn_of _ (by decide +kernel)) ggX12_accuse_X12_accuses
theorem dX12_accuse_0 : decode cX12_accuse 0 = .ok (.aload_n 0, 1) := by decide +kernel
theorem dX12_accuse_1 : decode cX12_accuse 1 = .ok (.iconst 0, 1) := by decide +kernel
theorem dX12_accuse_2 : decode cX12_accuse 2 = .ok (.putfield 1, 3) := by decide +kernel
theorem dX12_accuse_5 : decode cX12_accuse 5 = .ok (.aload_n 0, 1) := by decide +kernel
theorem dX12_accuse_6 : decode cX12_accuse 6 = .ok (.iload_n 1, 1) := by decide +kernel
theorem dX12_accuse_7 : decode cX12_accuse 7 = .ok (.invokevirtual 269, 3) := by decide +kernel
theorem dX12_accuse_10 : decode cX12_accuse 10 = .ok (.ifCond .eq 16, 3) := by decide +kernel
theorem dX12_accuse_13 : decode cX12_accuse 13 = .ok (.aload_n 0, 1) := by decide +kernel
theorem dX12_accuse_14 : decode cX12_accuse 14 = .ok (.iload_n 2, 1) := by decide +kernel
theorem dX12_accuse_15 : decode cX12_accuse 15 = .ok (.invokevirtual 269, 3) := by decide +kernel
theorem dX12_accuse_18 : decode cX12_accuse 18 = .ok (.ifCond .eq 8, 3) := by decide +kernel
theorem dX12_accuse_21 : decode cX12_accuse 21 = .ok (.iload_n 1, 1) := by decide +kernel
theorem dX12_accuse_22 : decode cX12_accuse 22 = .ok (.iload_n 2, 1) := by decide +kernel
theorem dX12_accuse_23 : decode cX12_accuse 23 = .ok (.if_icmp .ne 5, 3) := by decide +kernel
theorem dX12_accuse_26 : decode cX12_accuse 26 = .ok (.iconst (-1), 1) := by decide +kernel
theorem dX12_accuse_27 : decode cX12_accuse 27 = .ok (.ireturn, 1) := by decide +kernel
theorem dX12_accuse_28 : decode cX12_accuse 28 = .ok (.aload_n 0, 1) := by decide +kernel
theorem dX12_accuse_29 : decode cX12_accuse 29 = .ok (.iload_n 1, 1) := by decide +kernel
theorem dX12_accuse_30 : decode cX12_accuse 30 = .ok (.iload_n 2, 1) := by decide +kernel
theorem dX12_accuse_31 : decode cX12_accuse 31 = .ok (.invokevirtual 351, 3) := by decide +kernel
theorem dX12_accuse_34 : decode cX12_accuse 34 = .ok (.istore_n 3, 1) := by decide +kernel
theorem dX12_accuse_35 : decode cX12_accuse 35 = .ok (.iload_n 3, 1) := by decide +kernel
theorem dX12_accuse_36 : decode cX12_accuse 36 = .ok (.ifCond .le 5, 3) := by decide +kernel
theorem dX12_accuse_39 : decode cX12_accuse 39 = .ok (.iload_n 3, 1) := by decide +kernel
theorem dX12_accuse_40 : decode cX12_accuse 40 = .ok (.ireturn, 1) := by decide +kernel
theorem dX12_accuse_41 : decode cX12_accuse 41 = .ok (.aload_n 0, 1) := by decide +kernel
theorem dX12_accuse_42 : decode cX12_accuse 42 = .ok (.invokevirtual 336, 3) := by decide +kernel
theorem dX12_accuse_45 : decode cX12_accuse 45 = .ok (.aload_n 0, 1) := by decide +kernel
theorem dX12_accuse_46 : decode cX12_accuse 46 = .ok (.iload_n 1, 1) := by decide +kernel
theorem dX12_accuse_47 : decode cX12_accuse 47 = .ok (.iload_n 2, 1) := by decide +kernel
theorem dX12_accuse_48 : decode cX12_accuse 48 = .ok (.invokevirtual 354, 3) := by decide +kernel
theorem dX12_accuse_51 : decode cX12_accuse 51 = .ok (.iconst 0, 1) := by decide +kernel
theorem dX12_accuse_52 : decode cX12_accuse 52 = .ok (.ireturn, 1) := by decide +kernel
set_option maxRecDepth 20000 in
theorem ggX12_share_X12_whyShare : GoodIn wsX12_share wsX12_whyShare := goodIn_r _ [6, 7, 54, 55, 56, 57, 58, 59, 60, 61, 62, 63, 64, 65, 66, 67, 68, 69, 70, 71, 72, 73, 74, 75, 76, 77, 78, 79, 80, 81, 82, 83, 84, 85, 86, 87, 88, 89, 90, 91, 92, 93, 94, 95, 96, 97, 98, 99, 100] rfl (by decide +kernel)
set_option maxRecDepth 20000 in
theorem gX12_share_X12_whyShare : GoodIn wsX12_share (wsV RX12 357 RX12 yX12_whyShare wsX12_whyShare) := goodIn_app (goodIn_of _ (by decide +kernel)) ggX12_share_X12_whyShare
set_option maxRecDepth 20000 in
theorem ggX12_share_X12_keep : GoodIn wsX12_share wsX12_keep := goodIn_r _ [11, 12, 13, 7, 54, 55, 56, 57, 58, 59, 60, 61, 62, 63, 64, 65, 66, 67, 68, 69, 70, 71, 72, 73, 74, 75, 76, 77, 78, 79, 80, 81, 82, 83, 84, 85, 86, 87, 88, 89, 90, 91, 92, 93, 94, 95, 96, 97, 98, 99, 100] rfl (by decide +kernel)
set_option maxRecDepth 20000 in
theorem gX12_share_X12_keep : GoodIn wsX12_share (wsV RX12 336 RX12 yX12_keep wsX12_keep) := goodIn_app (goodIn_of _ (by decide +kernel)) ggX12_share_X12_keep
set_option maxRecDepth 20000 in
theorem ggX12_share_X12_sharesNow : GoodIn wsX12_share wsX12_sharesNow := goodIn_r _ [17, 7, 18, 19, 20, 21, 5, 22, 23, 24, 25, 26, 27, 28, 29, 30, 31, 32, 33, 34, 35, 36, 37, 38, 39, 40, 41, 42, 43, 44, 45, 46, 47, 48, 49, 54, 55, 56, 57, 58, 59, 60, 61, 62, 63, 64, 65, 66, 67, 68, 69, 70, 71, 72, 73, 74, 75, 76, 77, 78, 79, 80, 81, 82, 83, 84, 85, 86, 87, 88, 89, 90, 91, 92, 93, 94, 95, 96, 97, 98, 99, 100] rfl (by decide +kernel)
set_option maxRecDepth 20000 in
theorem gX12_share_X12_sharesNow : GoodIn wsX12_share (wsV RX12 360 RX12 yX12_sharesNow wsX12_sharesNow) := goodIn_app (goodIn_of _ (by decide +kernel)) ggX12_share_X12_sharesNow
set_option maxRecDepth 20000 in
theorem ggX12_share_X12_ends : GoodIn wsX12_share wsX12_ends := goodIn_r _ [53, 7, 24, 54, 55, 56, 57, 58, 59, 60, 61, 62, 63, 64, 65, 66, 67, 68, 69, 70, 71, 72, 73, 74, 75, 76, 77, 78, 79, 80, 81, 82, 83, 84, 85, 86, 87, 88, 89, 90, 91, 92, 93, 94, 95, 96, 97, 98, 99, 100] rfl (by decide +kernel)
set_option maxRecDepth 20000 in
theorem gX12_share_X12_ends : GoodIn wsX12_share (wsV RX12 363 RX12 yX12_ends wsX12_ends) := goodIn_app (goodIn_of _ (by decide +kernel)) ggX12_share_X12_ends
theorem dX12_share_0 : decode cX12_share 0 = .ok (.aload_n 0, 1) := by decide +kernel
theorem dX12_share_1 : decode cX12_share 1 = .ok (.iconst 0, 1) := by decide +kernel
theorem dX12_share_2 : decode cX12_share 2 = .ok (.putfield 1, 3) := by decide +kernel
theorem dX12_share_5 : decode cX12_share 5 = .ok (.aload_n 0, 1) := by decide +kernel
theorem dX12_share_6 : decode cX12_share 6 = .ok (.invokevirtual 357, 3) := by decide +kernel
theorem dX12_share_9 : decode cX12_share 9 = .ok (.istore_n 1, 1) := by decide +kernel
theorem dX12_share_10 : decode cX12_share 10 = .ok (.iload_n 1, 1) := by decide +kernel
theorem dX12_share_11 : decode cX12_share 11 = .ok (.ifCond .le 5, 3) := by decide +kernel
theorem dX12_share_14 : decode cX12_share 14 = .ok (.iload_n 1, 1) := by decide +kernel
theorem dX12_share_15 : decode cX12_share 15 = .ok (.ireturn, 1) := by decide +kernel
theorem dX12_share_16 : decode cX12_share 16 = .ok (.aload_n 0, 1) := by decide +kernel
theorem dX12_share_17 : decode cX12_share 17 = .ok (.invokevirtual 336, 3) := by decide +kernel
theorem dX12_share_20 : decode cX12_share 20 = .ok (.aload_n 0, 1) := by decide +kernel
theorem dX12_share_21 : decode cX12_share 21 = .ok (.invokevirtual 360, 3) := by decide +kernel
theorem dX12_share_24 : decode cX12_share 24 = .ok (.aload_n 0, 1) := by decide +kernel
theorem dX12_share_25 : decode cX12_share 25 = .ok (.invokevirtual 363, 3) := by decide +kernel
theorem dX12_share_28 : decode cX12_share 28 = .ok (.iconst 0, 1) := by decide +kernel
theorem dX12_share_29 : decode cX12_share 29 = .ok (.ireturn, 1) := by decide +kernel
theorem dX12_keep_0 : decode cX12_keep 0 = .ok (.aload_n 0, 1) := by decide +kernel
theorem dX12_keep_1 : decode cX12_keep 1 = .ok (.getfield 256, 3) := by decide +kernel
theorem dX12_keep_4 : decode cX12_keep 4 = .ok (.bipush 8, 2) := by decide +kernel
theorem dX12_keep_6 : decode cX12_keep 6 = .ok (.if_icmp .ne 39, 3) := by decide +kernel
theorem dX12_keep_9 : decode cX12_keep 9 = .ok (.iconst 0, 1) := by decide +kernel
theorem dX12_keep_10 : decode cX12_keep 10 = .ok (.istore_n 1, 1) := by decide +kernel
theorem dX12_keep_11 : decode cX12_keep 11 = .ok (.iload_n 1, 1) := by decide +kernel
theorem dX12_keep_12 : decode cX12_keep 12 = .ok (.sipush 245, 3) := by decide +kernel
theorem dX12_keep_15 : decode cX12_keep 15 = .ok (.if_icmp .ge 24, 3) := by decide +kernel
theorem dX12_keep_18 : decode cX12_keep 18 = .ok (.aload_n 0, 1) := by decide +kernel
theorem dX12_keep_19 : decode cX12_keep 19 = .ok (.getfield 62, 3) := by decide +kernel
theorem dX12_keep_22 : decode cX12_keep 22 = .ok (.iload_n 1, 1) := by decide +kernel
theorem dX12_keep_23 : decode cX12_keep 23 = .ok (.aload_n 0, 1) := by decide +kernel
theorem dX12_keep_24 : decode cX12_keep 24 = .ok (.getfield 62, 3) := by decide +kernel
theorem dX12_keep_27 : decode cX12_keep 27 = .ok (.iload_n 1, 1) := by decide +kernel
theorem dX12_keep_28 : decode cX12_keep 28 = .ok (.bipush 35, 2) := by decide +kernel
theorem dX12_keep_30 : decode cX12_keep 30 = .ok (.iadd, 1) := by decide +kernel
theorem dX12_keep_31 : decode cX12_keep 31 = .ok (.iaload, 1) := by decide +kernel
theorem dX12_keep_32 : decode cX12_keep 32 = .ok (.iastore, 1) := by decide +kernel
theorem dX12_keep_33 : decode cX12_keep 33 = .ok (.iinc 1 1, 3) := by decide +kernel
theorem dX12_keep_36 : decode cX12_keep 36 = .ok (.goto (-25), 3) := by decide +kernel
theorem dX12_keep_39 : decode cX12_keep 39 = .ok (.aload_n 0, 1) := by decide +kernel
theorem dX12_keep_40 : decode cX12_keep 40 = .ok (.bipush 7, 2) := by decide +kernel
theorem dX12_keep_42 : decode cX12_keep 42 = .ok (.putfield 256, 3) := by decide +kernel
theorem dX12_keep_45 : decode cX12_keep 45 = .ok (.iconst 0, 1) := by decide +kernel
theorem dX12_keep_46 : decode cX12_keep 46 = .ok (.istore_n 1, 1) := by decide +kernel
theorem dX12_keep_47 : decode cX12_keep 47 = .ok (.iload_n 1, 1) := by decide +kernel
theorem dX12_keep_48 : decode cX12_keep 48 = .ok (.bipush 35, 2) := by decide +kernel
theorem dX12_keep_50 : decode cX12_keep 50 = .ok (.if_icmp .ge 33, 3) := by decide +kernel
theorem dX12_keep_53 : decode cX12_keep 53 = .ok (.aload_n 0, 1) := by decide +kernel
theorem dX12_keep_54 : decode cX12_keep 54 = .ok (.getfield 62, 3) := by decide +kernel
theorem dX12_keep_57 : decode cX12_keep 57 = .ok (.bipush 35, 2) := by decide +kernel
theorem dX12_keep_59 : decode cX12_keep 59 = .ok (.aload_n 0, 1) := by decide +kernel
theorem dX12_keep_60 : decode cX12_keep 60 = .ok (.getfield 256, 3) := by decide +kernel
theorem dX12_keep_63 : decode cX12_keep 63 = .ok (.imul, 1) := by decide +kernel
theorem dX12_keep_64 : decode cX12_keep 64 = .ok (.iload_n 1, 1) := by decide +kernel
theorem dX12_keep_65 : decode cX12_keep 65 = .ok (.iadd, 1) := by decide +kernel
theorem dX12_keep_66 : decode cX12_keep 66 = .ok (.aload_n 0, 1) := by decide +kernel
theorem dX12_keep_67 : decode cX12_keep 67 = .ok (.getfield 33, 3) := by decide +kernel
theorem dX12_keep_70 : decode cX12_keep 70 = .ok (.sipush 211, 3) := by decide +kernel
theorem dX12_keep_73 : decode cX12_keep 73 = .ok (.iload_n 1, 1) := by decide +kernel
theorem dX12_keep_74 : decode cX12_keep 74 = .ok (.iadd, 1) := by decide +kernel
theorem dX12_keep_75 : decode cX12_keep 75 = .ok (.iaload, 1) := by decide +kernel
theorem dX12_keep_76 : decode cX12_keep 76 = .ok (.iastore, 1) := by decide +kernel
theorem dX12_keep_77 : decode cX12_keep 77 = .ok (.iinc 1 1, 3) := by decide +kernel
theorem dX12_keep_80 : decode cX12_keep 80 = .ok (.goto (-33), 3) := by decide +kernel
theorem dX12_keep_83 : decode cX12_keep 83 = .ok (.aload_n 0, 1) := by decide +kernel
theorem dX12_keep_84 : decode cX12_keep 84 = .ok (.dup, 1) := by decide +kernel
theorem dX12_keep_85 : decode cX12_keep 85 = .ok (.getfield 256, 3) := by decide +kernel
theorem dX12_keep_88 : decode cX12_keep 88 = .ok (.iconst 1, 1) := by decide +kernel
theorem dX12_keep_89 : decode cX12_keep 89 = .ok (.iadd, 1) := by decide +kernel
theorem dX12_keep_90 : decode cX12_keep 90 = .ok (.putfield 256, 3) := by decide +kernel
theorem dX12_keep_93 : decode cX12_keep 93 = .ok (.return_, 1) := by decide +kernel
theorem dX12_undo_0 : decode cX12_undo 0 = .ok (.aload_n 0, 1) := by decide +kernel
theorem dX12_undo_1 : decode cX12_undo 1 = .ok (.iconst 0, 1) := by decide +kernel
theorem dX12_undo_2 : decode cX12_undo 2 = .ok (.putfield 1, 3) := by decide +kernel
theorem dX12_undo_5 : decode cX12_undo 5 = .ok (.aload_n 0, 1) := by decide +kernel
theorem dX12_undo_6 : decode cX12_undo 6 = .ok (.getfield 256, 3) := by decide +kernel
theorem dX12_undo_9 : decode cX12_undo 9 = .ok (.ifCond .ne 5, 3) := by decide +kernel
theorem dX12_undo_12 : decode cX12_undo 12 = .ok (.iconst (-1), 1) := by decide +kernel
theorem dX12_undo_13 : decode cX12_undo 13 = .ok (.ireturn, 1) := by decide +kernel
theorem dX12_undo_14 : decode cX12_undo 14 = .ok (.aload_n 0, 1) := by decide +kernel
theorem dX12_undo_15 : decode cX12_undo 15 = .ok (.dup, 1) := by decide +kernel
theorem dX12_undo_16 : decode cX12_undo 16 = .ok (.getfield 256, 3) := by decide +kernel
theorem dX12_undo_19 : decode cX12_undo 19 = .ok (.iconst 1, 1) := by decide +kernel
theorem dX12_undo_20 : decode cX12_undo 20 = .ok (.isub, 1) := by decide +kernel
theorem dX12_undo_21 : decode cX12_undo 21 = .ok (.putfield 256, 3) := by decide +kernel
theorem dX12_undo_24 : decode cX12_undo 24 = .ok (.iconst 0, 1) := by decide +kernel
theorem dX12_undo_25 : decode cX12_undo 25 = .ok (.istore_n 1, 1) := by decide +kernel
theorem dX12_undo_26 : decode cX12_undo 26 = .ok (.iload_n 1, 1) := by decide +kernel
theorem dX12_undo_27 : decode cX12_undo 27 = .ok (.bipush 35, 2) := by decide +kernel
theorem dX12_undo_29 : decode cX12_undo 29 = .ok (.if_icmp .ge 33, 3) := by decide +kernel
theorem dX12_undo_32 : decode cX12_undo 32 = .ok (.aload_n 0, 1) := by decide +kernel
theorem dX12_undo_33 : decode cX12_undo 33 = .ok (.getfield 33, 3) := by decide +kernel
theorem dX12_undo_36 : decode cX12_undo 36 = .ok (.sipush 211, 3) := by decide +kernel
theorem dX12_undo_39 : decode cX12_undo 39 = .ok (.iload_n 1, 1) := by decide +kernel
theorem dX12_undo_40 : decode cX12_undo 40 = .ok (.iadd, 1) := by decide +kernel
theorem dX12_undo_41 : decode cX12_undo 41 = .ok (.aload_n 0, 1) := by decide +kernel
theorem dX12_undo_42 : decode cX12_undo 42 = .ok (.getfield 62, 3) := by decide +kernel
theorem dX12_undo_45 : decode cX12_undo 45 = .ok (.bipush 35, 2) := by decide +kernel
theorem dX12_undo_47 : decode cX12_undo 47 = .ok (.aload_n 0, 1) := by decide +kernel
theorem dX12_undo_48 : decode cX12_undo 48 = .ok (.getfield 256, 3) := by decide +kernel
theorem dX12_undo_51 : decode cX12_undo 51 = .ok (.imul, 1) := by decide +kernel
theorem dX12_undo_52 : decode cX12_undo 52 = .ok (.iload_n 1, 1) := by decide +kernel
theorem dX12_undo_53 : decode cX12_undo 53 = .ok (.iadd, 1) := by decide +kernel
theorem dX12_undo_54 : decode cX12_undo 54 = .ok (.iaload, 1) := by decide +kernel
theorem dX12_undo_55 : decode cX12_undo 55 = .ok (.iastore, 1) := by decide +kernel
theorem dX12_undo_56 : decode cX12_undo 56 = .ok (.iinc 1 1, 3) := by decide +kernel
theorem dX12_undo_59 : decode cX12_undo 59 = .ok (.goto (-33), 3) := by decide +kernel
theorem dX12_undo_62 : decode cX12_undo 62 = .ok (.aload_n 0, 1) := by decide +kernel
theorem dX12_undo_63 : decode cX12_undo 63 = .ok (.getfield 256, 3) := by decide +kernel
theorem dX12_undo_66 : decode cX12_undo 66 = .ok (.ireturn, 1) := by decide +kernel
theorem dX12_tries_0 : decode cX12_tries 0 = .ok (.iconst 0, 1) := by decide +kernel
theorem dX12_tries_1 : decode cX12_tries 1 = .ok (.istore_n 1, 1) := by decide +kernel
theorem dX12_tries_2 : decode cX12_tries 2 = .ok (.iload_n 1, 1) := by decide +kernel
theorem dX12_tries_3 : decode cX12_tries 3 = .ok (.bipush 35, 2) := by decide +kernel
theorem dX12_tries_5 : decode cX12_tries 5 = .ok (.if_icmp .ge 25, 3) := by decide +kernel
theorem dX12_tries_8 : decode cX12_tries 8 = .ok (.aload_n 0, 1) := by decide +kernel
theorem dX12_tries_9 : decode cX12_tries 9 = .ok (.getfield 65, 3) := by decide +kernel
theorem dX12_tries_12 : decode cX12_tries 12 = .ok (.iload_n 1, 1) := by decide +kernel
theorem dX12_tries_13 : decode cX12_tries 13 = .ok (.aload_n 0, 1) := by decide +kernel
theorem dX12_tries_14 : decode cX12_tries 14 = .ok (.getfield 33, 3) := by decide +kernel
theorem dX12_tries_17 : decode cX12_tries 17 = .ok (.sipush 211, 3) := by decide +kernel
theorem dX12_tries_20 : decode cX12_tries 20 = .ok (.iload_n 1, 1) := by decide +kernel
theorem dX12_tries_21 : decode cX12_tries 21 = .ok (.iadd, 1) := by decide +kernel
theorem dX12_tries_22 : decode cX12_tries 22 = .ok (.iaload, 1) := by decide +kernel
theorem dX12_tries_23 : decode cX12_tries 23 = .ok (.iastore, 1) := by decide +kernel
theorem dX12_tries_24 : decode cX12_tries 24 = .ok (.iinc 1 1, 3) := by decide +kernel
theorem dX12_tries_27 : decode cX12_tries 27 = .ok (.goto (-25), 3) := by decide +kernel
theorem dX12_tries_30 : decode cX12_tries 30 = .ok (.return_, 1) := by decide +kernel
theorem dX12_back_0 : decode cX12_back 0 = .ok (.iconst 0, 1) := by decide +kernel
theorem dX12_back_1 : decode cX12_back 1 = .ok (.istore_n 1, 1) := by decide +kernel
theorem dX12_back_2 : decode cX12_back 2 = .ok (.iload_n 1, 1) := by decide +kernel
theorem dX12_back_3 : decode cX12_back 3 = .ok (.bipush 35, 2) := by decide +kernel
