theorem dX12_pastOf_22 : decode cX12_pastOf 22 = .ok (.iload_n 1, 1) := by decide +kernel
theorem dX12_pastOf_23 : decode cX12_pastOf 23 = .ok (.ireturn, 1) := by decide +kernel
theorem dX12_swornSet_0 : decode cX12_swornSet 0 = .ok (.iconst 0, 1) := by decide +kernel
theorem dX12_swornSet_1 : decode cX12_swornSet 1 = .ok (.istore_n 1, 1) := by decide +kernel
theorem dX12_swornSet_2 : decode cX12_swornSet 2 = .ok (.iconst 0, 1) := by decide +kernel
theorem dX12_swornSet_3 : decode cX12_swornSet 3 = .ok (.istore_n 2, 1) := by decide +kernel
theorem dX12_swornSet_4 : decode cX12_swornSet 4 = .ok (.iload_n 2, 1) := by decide +kernel
theorem dX12_swornSet_5 : decode cX12_swornSet 5 = .ok (.aload_n 0, 1) := by decide +kernel
theorem dX12_swornSet_6 : decode cX12_swornSet 6 = .ok (.getfield 33, 3) := by decide +kernel
theorem dX12_swornSet_9 : decode cX12_swornSet 9 = .ok (.iconst 1, 1) := by decide +kernel
theorem dX12_swornSet_10 : decode cX12_swornSet 10 = .ok (.iaload, 1) := by decide +kernel
theorem dX12_swornSet_11 : decode cX12_swornSet 11 = .ok (.if_icmp .ge 32, 3) := by decide +kernel
theorem dX12_swornSet_14 : decode cX12_swornSet 14 = .ok (.iload_n 1, 1) := by decide +kernel
theorem dX12_swornSet_15 : decode cX12_swornSet 15 = .ok (.aload_n 0, 1) := by decide +kernel
theorem dX12_swornSet_16 : decode cX12_swornSet 16 = .ok (.getfield 33, 3) := by decide +kernel
theorem dX12_swornSet_19 : decode cX12_swornSet 19 = .ok (.sipush 230, 3) := by decide +kernel
theorem dX12_swornSet_22 : decode cX12_swornSet 22 = .ok (.iload_n 2, 1) := by decide +kernel
theorem dX12_swornSet_23 : decode cX12_swornSet 23 = .ok (.iadd, 1) := by decide +kernel
theorem dX12_swornSet_24 : decode cX12_swornSet 24 = .ok (.iaload, 1) := by decide +kernel
theorem dX12_swornSet_25 : decode cX12_swornSet 25 = .ok (.ifCond .le 9, 3) := by decide +kernel
theorem dX12_swornSet_28 : decode cX12_swornSet 28 = .ok (.iconst 1, 1) := by decide +kernel
theorem dX12_swornSet_29 : decode cX12_swornSet 29 = .ok (.iload_n 2, 1) := by decide +kernel
theorem dX12_swornSet_30 : decode cX12_swornSet 30 = .ok (.ishl, 1) := by decide +kernel
theorem dX12_swornSet_31 : decode cX12_swornSet 31 = .ok (.goto 4, 3) := by decide +kernel
theorem dX12_swornSet_34 : decode cX12_swornSet 34 = .ok (.iconst 0, 1) := by decide +kernel
theorem dX12_swornSet_35 : decode cX12_swornSet 35 = .ok (.ior, 1) := by decide +kernel
theorem dX12_swornSet_36 : decode cX12_swornSet 36 = .ok (.istore_n 1, 1) := by decide +kernel
theorem dX12_swornSet_37 : decode cX12_swornSet 37 = .ok (.iinc 2 1, 3) := by decide +kernel
theorem dX12_swornSet_40 : decode cX12_swornSet 40 = .ok (.goto (-36), 3) := by decide +kernel
theorem dX12_swornSet_43 : decode cX12_swornSet 43 = .ok (.iload_n 1, 1) := by decide +kernel
theorem dX12_swornSet_44 : decode cX12_swornSet 44 = .ok (.ireturn, 1) := by decide +kernel
set_option maxRecDepth 20000 in
theorem ggX12_now_X12_pastOf : GoodIn wsX12_now wsX12_pastOf := goodIn_r _ [7, 8, 9, 10, 6, 11, 2, 20, 21, 22, 23, 24, 25, 26, 27, 28, 29, 30, 31, 32, 33, 34, 35, 36, 37, 38, 39, 40, 41, 42, 43, 44, 45, 46, 47, 48, 49, 50, 51, 52, 53, 54, 55, 56, 57, 58, 59, 60, 61, 62, 63, 64, 65, 66] rfl (by decide +kernel)
set_option maxRecDepth 20000 in
theorem gX12_now_X12_pastOf : GoodIn wsX12_now (wsV RX12 324 RX12 yX12_pastOf wsX12_pastOf) := goodIn_app (goodIn_of _ (by decide +kernel)) ggX12_now_X12_pastOf
set_option maxRecDepth 20000 in
theorem ggX12_now_X12_swornSet : GoodIn wsX12_now wsX12_swornSet := goodIn_r _ [15, 2, 20, 21, 22, 23, 24, 25, 26, 27, 28, 29, 30, 31, 32, 33, 34, 35, 36, 37, 38, 39, 40, 41, 42, 43, 44, 45, 46, 47, 48, 49, 50, 51, 52, 53, 54, 55, 56, 57, 58, 59, 60, 61, 62, 63, 64, 65, 66] rfl (by decide +kernel)
set_option maxRecDepth 20000 in
theorem gX12_now_X12_swornSet : GoodIn wsX12_now (wsV RX12 327 RX12 yX12_swornSet wsX12_swornSet) := goodIn_app (goodIn_of _ (by decide +kernel)) ggX12_now_X12_swornSet
set_option maxRecDepth 20000 in
theorem ggX12_now_X12_sum : GoodIn wsX12_now wsX12_sum := goodIn_r _ [19, 2, 20, 21, 22, 23, 24, 25, 26, 27, 28, 29, 30, 31, 32, 33, 34, 35, 36, 37, 38, 39, 40, 41, 42, 43, 44, 45, 46, 47, 48, 49, 50, 51, 52, 53, 54, 55, 56, 57, 58, 59, 60, 61, 62, 63, 64, 65, 66] rfl (by decide +kernel)
set_option maxRecDepth 20000 in
theorem gX12_now_X12_sum : GoodIn wsX12_now (wsV RX12 330 RX12 yX12_sum wsX12_sum) := goodIn_app (goodIn_of _ (by decide +kernel)) ggX12_now_X12_sum
theorem dX12_now_0 : decode cX12_now 0 = .ok (.aload_n 0, 1) := by decide +kernel
theorem dX12_now_1 : decode cX12_now 1 = .ok (.iconst 0, 1) := by decide +kernel
theorem dX12_now_2 : decode cX12_now 2 = .ok (.putfield 1, 3) := by decide +kernel
theorem dX12_now_5 : decode cX12_now 5 = .ok (.iload_n 1, 1) := by decide +kernel
theorem dX12_now_6 : decode cX12_now 6 = .ok (.tableswitch 97 0 6 #[42, 51, 62, 71, 76, 81, 89], 42) := by decide +kernel
theorem dX12_now_48 : decode cX12_now 48 = .ok (.aload_n 0, 1) := by decide +kernel
theorem dX12_now_49 : decode cX12_now 49 = .ok (.getfield 33, 3) := by decide +kernel
theorem dX12_now_52 : decode cX12_now 52 = .ok (.sipush 211, 3) := by decide +kernel
theorem dX12_now_55 : decode cX12_now 55 = .ok (.iaload, 1) := by decide +kernel
theorem dX12_now_56 : decode cX12_now 56 = .ok (.ireturn, 1) := by decide +kernel
theorem dX12_now_57 : decode cX12_now 57 = .ok (.aload_n 0, 1) := by decide +kernel
theorem dX12_now_58 : decode cX12_now 58 = .ok (.getfield 33, 3) := by decide +kernel
theorem dX12_now_61 : decode cX12_now 61 = .ok (.sipush 212, 3) := by decide +kernel
theorem dX12_now_64 : decode cX12_now 64 = .ok (.iaload, 1) := by decide +kernel
theorem dX12_now_65 : decode cX12_now 65 = .ok (.iconst 1, 1) := by decide +kernel
theorem dX12_now_66 : decode cX12_now 66 = .ok (.isub, 1) := by decide +kernel
theorem dX12_now_67 : decode cX12_now 67 = .ok (.ireturn, 1) := by decide +kernel
theorem dX12_now_68 : decode cX12_now 68 = .ok (.aload_n 0, 1) := by decide +kernel
theorem dX12_now_69 : decode cX12_now 69 = .ok (.getfield 33, 3) := by decide +kernel
theorem dX12_now_72 : decode cX12_now 72 = .ok (.sipush 213, 3) := by decide +kernel
theorem dX12_now_75 : decode cX12_now 75 = .ok (.iaload, 1) := by decide +kernel
theorem dX12_now_76 : decode cX12_now 76 = .ok (.ireturn, 1) := by decide +kernel
theorem dX12_now_77 : decode cX12_now 77 = .ok (.aload_n 0, 1) := by decide +kernel
theorem dX12_now_78 : decode cX12_now 78 = .ok (.invokevirtual 324, 3) := by decide +kernel
theorem dX12_now_81 : decode cX12_now 81 = .ok (.ireturn, 1) := by decide +kernel
theorem dX12_now_82 : decode cX12_now 82 = .ok (.aload_n 0, 1) := by decide +kernel
theorem dX12_now_83 : decode cX12_now 83 = .ok (.invokevirtual 327, 3) := by decide +kernel
theorem dX12_now_86 : decode cX12_now 86 = .ok (.ireturn, 1) := by decide +kernel
theorem dX12_now_87 : decode cX12_now 87 = .ok (.aload_n 0, 1) := by decide +kernel
theorem dX12_now_88 : decode cX12_now 88 = .ok (.sipush 222, 3) := by decide +kernel
theorem dX12_now_91 : decode cX12_now 91 = .ok (.invokevirtual 330, 3) := by decide +kernel
theorem dX12_now_94 : decode cX12_now 94 = .ok (.ireturn, 1) := by decide +kernel
theorem dX12_now_95 : decode cX12_now 95 = .ok (.aload_n 0, 1) := by decide +kernel
theorem dX12_now_96 : decode cX12_now 96 = .ok (.sipush 238, 3) := by decide +kernel
theorem dX12_now_99 : decode cX12_now 99 = .ok (.invokevirtual 330, 3) := by decide +kernel
theorem dX12_now_102 : decode cX12_now 102 = .ok (.ireturn, 1) := by decide +kernel
theorem dX12_now_103 : decode cX12_now 103 = .ok (.iconst (-1), 1) := by decide +kernel
theorem dX12_now_104 : decode cX12_now 104 = .ok (.ireturn, 1) := by decide +kernel
set_option maxRecDepth 20000 in
theorem ggX12_whyMove_X12_pastOf : GoodIn wsX12_whyMove wsX12_pastOf := goodIn_r _ [6, 7, 8, 9, 5, 10, 1, 11, 12, 13, 14, 15, 16, 17, 18, 19, 20, 21, 22, 23, 24, 25, 26, 27, 28, 29, 30, 31, 32, 33, 34, 35, 36, 37, 38, 39, 40, 41, 42, 43, 44, 45, 46, 47, 48, 49, 50, 51, 52, 53, 54, 55, 56, 57] rfl (by decide +kernel)
set_option maxRecDepth 20000 in
theorem gX12_whyMove_X12_pastOf : GoodIn wsX12_whyMove (wsV RX12 324 RX12 yX12_pastOf wsX12_pastOf) := goodIn_app (goodIn_of _ (by decide +kernel)) ggX12_whyMove_X12_pastOf
theorem dX12_whyMove_0 : decode cX12_whyMove 0 = .ok (.aload_n 0, 1) := by decide +kernel
theorem dX12_whyMove_1 : decode cX12_whyMove 1 = .ok (.getfield 33, 3) := by decide +kernel
theorem dX12_whyMove_4 : decode cX12_whyMove 4 = .ok (.sipush 214, 3) := by decide +kernel
theorem dX12_whyMove_7 : decode cX12_whyMove 7 = .ok (.iload_n 1, 1) := by decide +kernel
theorem dX12_whyMove_8 : decode cX12_whyMove 8 = .ok (.iadd, 1) := by decide +kernel
theorem dX12_whyMove_9 : decode cX12_whyMove 9 = .ok (.iaload, 1) := by decide +kernel
theorem dX12_whyMove_10 : decode cX12_whyMove 10 = .ok (.iload_n 2, 1) := by decide +kernel
theorem dX12_whyMove_11 : decode cX12_whyMove 11 = .ok (.if_icmp .ne 7, 3) := by decide +kernel
theorem dX12_whyMove_14 : decode cX12_whyMove 14 = .ok (.iconst 1, 1) := by decide +kernel
theorem dX12_whyMove_15 : decode cX12_whyMove 15 = .ok (.goto 15, 3) := by decide +kernel
theorem dX12_whyMove_18 : decode cX12_whyMove 18 = .ok (.aload_n 0, 1) := by decide +kernel
theorem dX12_whyMove_19 : decode cX12_whyMove 19 = .ok (.invokevirtual 324, 3) := by decide +kernel
theorem dX12_whyMove_22 : decode cX12_whyMove 22 = .ok (.ifCond .le 7, 3) := by decide +kernel
theorem dX12_whyMove_25 : decode cX12_whyMove 25 = .ok (.iconst 2, 1) := by decide +kernel
theorem dX12_whyMove_26 : decode cX12_whyMove 26 = .ok (.goto 4, 3) := by decide +kernel
theorem dX12_whyMove_29 : decode cX12_whyMove 29 = .ok (.iconst 0, 1) := by decide +kernel
theorem dX12_whyMove_30 : decode cX12_whyMove 30 = .ok (.ireturn, 1) := by decide +kernel
set_option maxRecDepth 20000 in
theorem ggX12_whySwear_X12_isPast : GoodIn wsX12_whySwear wsX12_isPast := goodIn_r _ [6, 1, 7, 8, 9, 10, 11, 12, 13, 14, 15, 16, 17, 18, 19, 20, 21, 22, 23, 24, 25, 26, 27, 28, 29, 30, 31, 32, 33, 34, 35, 36, 37, 38, 39, 40, 41, 42, 43, 44, 45, 46, 47, 48, 49, 50, 51, 52, 53] rfl (by decide +kernel)
set_option maxRecDepth 20000 in
theorem gX12_whySwear_X12_isPast : GoodIn wsX12_whySwear (wsV RX12 321 RX12 yX12_isPast wsX12_isPast) := goodIn_app (goodIn_of _ (by decide +kernel)) ggX12_whySwear_X12_isPast
theorem dX12_whySwear_0 : decode cX12_whySwear 0 = .ok (.aload_n 0, 1) := by decide +kernel
theorem dX12_whySwear_1 : decode cX12_whySwear 1 = .ok (.getfield 33, 3) := by decide +kernel
theorem dX12_whySwear_4 : decode cX12_whySwear 4 = .ok (.sipush 230, 3) := by decide +kernel
theorem dX12_whySwear_7 : decode cX12_whySwear 7 = .ok (.iload_n 1, 1) := by decide +kernel
theorem dX12_whySwear_8 : decode cX12_whySwear 8 = .ok (.iadd, 1) := by decide +kernel
theorem dX12_whySwear_9 : decode cX12_whySwear 9 = .ok (.iaload, 1) := by decide +kernel
theorem dX12_whySwear_10 : decode cX12_whySwear 10 = .ok (.ifCond .le 7, 3) := by decide +kernel
theorem dX12_whySwear_13 : decode cX12_whySwear 13 = .ok (.iconst 1, 1) := by decide +kernel
theorem dX12_whySwear_14 : decode cX12_whySwear 14 = .ok (.goto 33, 3) := by decide +kernel
theorem dX12_whySwear_17 : decode cX12_whySwear 17 = .ok (.aload_n 0, 1) := by decide +kernel
theorem dX12_whySwear_18 : decode cX12_whySwear 18 = .ok (.iload_n 2, 1) := by decide +kernel
theorem dX12_whySwear_19 : decode cX12_whySwear 19 = .ok (.invokevirtual 321, 3) := by decide +kernel
theorem dX12_whySwear_22 : decode cX12_whySwear 22 = .ok (.ifCond .ne 7, 3) := by decide +kernel
theorem dX12_whySwear_25 : decode cX12_whySwear 25 = .ok (.iconst 2, 1) := by decide +kernel
theorem dX12_whySwear_26 : decode cX12_whySwear 26 = .ok (.goto 21, 3) := by decide +kernel
theorem dX12_whySwear_29 : decode cX12_whySwear 29 = .ok (.aload_n 0, 1) := by decide +kernel
theorem dX12_whySwear_30 : decode cX12_whySwear 30 = .ok (.getfield 33, 3) := by decide +kernel
theorem dX12_whySwear_33 : decode cX12_whySwear 33 = .ok (.sipush 222, 3) := by decide +kernel
theorem dX12_whySwear_36 : decode cX12_whySwear 36 = .ok (.iload_n 1, 1) := by decide +kernel
theorem dX12_whySwear_37 : decode cX12_whySwear 37 = .ok (.iadd, 1) := by decide +kernel
theorem dX12_whySwear_38 : decode cX12_whySwear 38 = .ok (.iaload, 1) := by decide +kernel
theorem dX12_whySwear_39 : decode cX12_whySwear 39 = .ok (.ifCond .ne 7, 3) := by decide +kernel
theorem dX12_whySwear_42 : decode cX12_whySwear 42 = .ok (.iconst 3, 1) := by decide +kernel
theorem dX12_whySwear_43 : decode cX12_whySwear 43 = .ok (.goto 4, 3) := by decide +kernel
theorem dX12_whySwear_46 : decode cX12_whySwear 46 = .ok (.iconst 0, 1) := by decide +kernel
theorem dX12_whySwear_47 : decode cX12_whySwear 47 = .ok (.ireturn, 1) := by decide +kernel
theorem dX12_swearsTo_0 : decode cX12_swearsTo 0 = .ok (.aload_n 0, 1) := by decide +kernel
theorem dX12_swearsTo_1 : decode cX12_swearsTo 1 = .ok (.getfield 33, 3) := by decide +kernel
theorem dX12_swearsTo_4 : decode cX12_swearsTo 4 = .ok (.sipush 230, 3) := by decide +kernel
theorem dX12_swearsTo_7 : decode cX12_swearsTo 7 = .ok (.iload_n 1, 1) := by decide +kernel
theorem dX12_swearsTo_8 : decode cX12_swearsTo 8 = .ok (.iadd, 1) := by decide +kernel
theorem dX12_swearsTo_9 : decode cX12_swearsTo 9 = .ok (.iload_n 2, 1) := by decide +kernel
theorem dX12_swearsTo_10 : decode cX12_swearsTo 10 = .ok (.iconst 1, 1) := by decide +kernel
theorem dX12_swearsTo_11 : decode cX12_swearsTo 11 = .ok (.iadd, 1) := by decide +kernel
theorem dX12_swearsTo_12 : decode cX12_swearsTo 12 = .ok (.iastore, 1) := by decide +kernel
theorem dX12_swearsTo_13 : decode cX12_swearsTo 13 = .ok (.aload_n 0, 1) := by decide +kernel
theorem dX12_swearsTo_14 : decode cX12_swearsTo 14 = .ok (.getfield 33, 3) := by decide +kernel
theorem dX12_swearsTo_17 : decode cX12_swearsTo 17 = .ok (.sipush 222, 3) := by decide +kernel
theorem dX12_swearsTo_20 : decode cX12_swearsTo 20 = .ok (.iload_n 1, 1) := by decide +kernel
theorem dX12_swearsTo_21 : decode cX12_swearsTo 21 = .ok (.iadd, 1) := by decide +kernel
theorem dX12_swearsTo_22 : decode cX12_swearsTo 22 = .ok (.dup2, 1) := by decide +kernel
theorem dX12_swearsTo_23 : decode cX12_swearsTo 23 = .ok (.iaload, 1) := by decide +kernel
theorem dX12_swearsTo_24 : decode cX12_swearsTo 24 = .ok (.iconst 1, 1) := by decide +kernel
theorem dX12_swearsTo_25 : decode cX12_swearsTo 25 = .ok (.isub, 1) := by decide +kernel
theorem dX12_swearsTo_26 : decode cX12_swearsTo 26 = .ok (.iastore, 1) := by decide +kernel
theorem dX12_swearsTo_27 : decode cX12_swearsTo 27 = .ok (.return_, 1) := by decide +kernel
set_option maxRecDepth 20000 in
theorem ggX12_whyAccuse_X12_asNow : GoodIn wsX12_whyAccuse wsX12_asNow := goodIn_r _ [6, 1, 7, 8, 9, 5, 10, 11, 12, 13, 21, 22, 23, 24, 25, 26, 27, 28, 29, 30, 31, 32, 33, 34, 35, 36, 37, 38, 39, 40, 41, 42, 43, 44, 45, 46, 47, 48, 49, 50, 51, 52, 53, 54, 55, 56, 57, 58, 59, 60, 61, 62, 63, 64, 65, 66, 67] rfl (by decide +kernel)
set_option maxRecDepth 20000 in
theorem gX12_whyAccuse_X12_asNow : GoodIn wsX12_whyAccuse (wsV RX12 318 RX12 yX12_asNow wsX12_asNow) := goodIn_app (goodIn_of _ (by decide +kernel)) ggX12_whyAccuse_X12_asNow
set_option maxRecDepth 20000 in
theorem ggX12_whyAccuse_X12_farOf : GoodIn wsX12_whyAccuse wsX12_farOf := goodIn_r _ [17, 11, 1, 12, 18, 19, 5, 20, 21, 22, 23, 24, 25, 26, 27, 28, 29, 30, 31, 32, 33, 34, 35, 36, 37, 38, 39, 40, 41, 42, 43, 44, 45, 46, 47, 48, 49, 50, 51, 52, 53, 54, 55, 56, 57, 58, 59, 60, 61, 62, 63, 64, 65, 66, 67] rfl (by decide +kernel)
set_option maxRecDepth 20000 in
theorem gX12_whyAccuse_X12_farOf : GoodIn wsX12_whyAccuse (wsV RX12 289 RX12 yX12_farOf wsX12_farOf) := goodIn_app (goodIn_of _ (by decide +kernel)) ggX12_whyAccuse_X12_farOf
theorem dX12_whyAccuse_0 : decode cX12_whyAccuse 0 = .ok (.aload_n 0, 1) := by decide +kernel
theorem dX12_whyAccuse_1 : decode cX12_whyAccuse 1 = .ok (.getfield 33, 3) := by decide +kernel
theorem dX12_whyAccuse_4 : decode cX12_whyAccuse 4 = .ok (.sipush 230, 3) := by decide +kernel
theorem dX12_whyAccuse_7 : decode cX12_whyAccuse 7 = .ok (.iload_n 2, 1) := by decide +kernel
theorem dX12_whyAccuse_8 : decode cX12_whyAccuse 8 = .ok (.iadd, 1) := by decide +kernel
theorem dX12_whyAccuse_9 : decode cX12_whyAccuse 9 = .ok (.iaload, 1) := by decide +kernel
theorem dX12_whyAccuse_10 : decode cX12_whyAccuse 10 = .ok (.ifCond .ne 5, 3) := by decide +kernel
theorem dX12_whyAccuse_13 : decode cX12_whyAccuse 13 = .ok (.iconst 1, 1) := by decide +kernel
theorem dX12_whyAccuse_14 : decode cX12_whyAccuse 14 = .ok (.ireturn, 1) := by decide +kernel
theorem dX12_whyAccuse_15 : decode cX12_whyAccuse 15 = .ok (.aload_n 0, 1) := by decide +kernel
theorem dX12_whyAccuse_16 : decode cX12_whyAccuse 16 = .ok (.invokevirtual 318, 3) := by decide +kernel
theorem dX12_whyAccuse_19 : decode cX12_whyAccuse 19 = .ok (.aload_n 0, 1) := by decide +kernel
theorem dX12_whyAccuse_20 : decode cX12_whyAccuse 20 = .ok (.getfield 33, 3) := by decide +kernel
theorem dX12_whyAccuse_23 : decode cX12_whyAccuse 23 = .ok (.sipush 212, 3) := by decide +kernel
theorem dX12_whyAccuse_26 : decode cX12_whyAccuse 26 = .ok (.iaload, 1) := by decide +kernel
theorem dX12_whyAccuse_27 : decode cX12_whyAccuse 27 = .ok (.iconst 1, 1) := by decide +kernel
theorem dX12_whyAccuse_28 : decode cX12_whyAccuse 28 = .ok (.isub, 1) := by decide +kernel
theorem dX12_whyAccuse_29 : decode cX12_whyAccuse 29 = .ok (.istore_n 3, 1) := by decide +kernel
theorem dX12_whyAccuse_30 : decode cX12_whyAccuse 30 = .ok (.aload_n 0, 1) := by decide +kernel
theorem dX12_whyAccuse_31 : decode cX12_whyAccuse 31 = .ok (.getfield 33, 3) := by decide +kernel
theorem dX12_whyAccuse_34 : decode cX12_whyAccuse 34 = .ok (.sipush 230, 3) := by decide +kernel
theorem dX12_whyAccuse_37 : decode cX12_whyAccuse 37 = .ok (.iload_n 2, 1) := by decide +kernel
theorem dX12_whyAccuse_38 : decode cX12_whyAccuse 38 = .ok (.iadd, 1) := by decide +kernel
theorem dX12_whyAccuse_39 : decode cX12_whyAccuse 39 = .ok (.iaload, 1) := by decide +kernel
theorem dX12_whyAccuse_40 : decode cX12_whyAccuse 40 = .ok (.iconst 1, 1) := by decide +kernel
theorem dX12_whyAccuse_41 : decode cX12_whyAccuse 41 = .ok (.isub, 1) := by decide +kernel
theorem dX12_whyAccuse_42 : decode cX12_whyAccuse 42 = .ok (.istore 4, 2) := by decide +kernel
theorem dX12_whyAccuse_44 : decode cX12_whyAccuse 44 = .ok (.aload_n 0, 1) := by decide +kernel
theorem dX12_whyAccuse_45 : decode cX12_whyAccuse 45 = .ok (.iload_n 1, 1) := by decide +kernel
theorem dX12_whyAccuse_46 : decode cX12_whyAccuse 46 = .ok (.iload_n 3, 1) := by decide +kernel
theorem dX12_whyAccuse_47 : decode cX12_whyAccuse 47 = .ok (.iload 4, 2) := by decide +kernel
theorem dX12_whyAccuse_49 : decode cX12_whyAccuse 49 = .ok (.invokevirtual 289, 3) := by decide +kernel
theorem dX12_whyAccuse_52 : decode cX12_whyAccuse 52 = .ok (.aload_n 0, 1) := by decide +kernel
theorem dX12_whyAccuse_53 : decode cX12_whyAccuse 53 = .ok (.iload_n 2, 1) := by decide +kernel
theorem dX12_whyAccuse_54 : decode cX12_whyAccuse 54 = .ok (.iload_n 3, 1) := by decide +kernel
theorem dX12_whyAccuse_55 : decode cX12_whyAccuse 55 = .ok (.iload 4, 2) := by decide +kernel
theorem dX12_whyAccuse_57 : decode cX12_whyAccuse 57 = .ok (.invokevirtual 289, 3) := by decide +kernel
theorem dX12_whyAccuse_60 : decode cX12_whyAccuse 60 = .ok (.if_icmp .lt 5, 3) := by decide +kernel
theorem dX12_whyAccuse_63 : decode cX12_whyAccuse 63 = .ok (.iconst 2, 1) := by decide +kernel
theorem dX12_whyAccuse_64 : decode cX12_whyAccuse 64 = .ok (.ireturn, 1) := by decide +kernel
theorem dX12_whyAccuse_65 : decode cX12_whyAccuse 65 = .ok (.aload_n 0, 1) := by decide +kernel
theorem dX12_whyAccuse_66 : decode cX12_whyAccuse 66 = .ok (.getfield 33, 3) := by decide +kernel
theorem dX12_whyAccuse_69 : decode cX12_whyAccuse 69 = .ok (.sipush 230, 3) := by decide +kernel
theorem dX12_whyAccuse_72 : decode cX12_whyAccuse 72 = .ok (.iload_n 1, 1) := by decide +kernel
theorem dX12_whyAccuse_73 : decode cX12_whyAccuse 73 = .ok (.iadd, 1) := by decide +kernel
theorem dX12_whyAccuse_74 : decode cX12_whyAccuse 74 = .ok (.iaload, 1) := by decide +kernel
theorem dX12_whyAccuse_75 : decode cX12_whyAccuse 75 = .ok (.aload_n 0, 1) := by decide +kernel
theorem dX12_whyAccuse_76 : decode cX12_whyAccuse 76 = .ok (.getfield 33, 3) := by decide +kernel
theorem dX12_whyAccuse_79 : decode cX12_whyAccuse 79 = .ok (.sipush 230, 3) := by decide +kernel
theorem dX12_whyAccuse_82 : decode cX12_whyAccuse 82 = .ok (.iload_n 2, 1) := by decide +kernel
theorem dX12_whyAccuse_83 : decode cX12_whyAccuse 83 = .ok (.iadd, 1) := by decide +kernel
theorem dX12_whyAccuse_84 : decode cX12_whyAccuse 84 = .ok (.iaload, 1) := by decide +kernel
theorem dX12_whyAccuse_85 : decode cX12_whyAccuse 85 = .ok (.if_icmp .ne 7, 3) := by decide +kernel
theorem dX12_whyAccuse_88 : decode cX12_whyAccuse 88 = .ok (.iconst 3, 1) := by decide +kernel
theorem dX12_whyAccuse_89 : decode cX12_whyAccuse 89 = .ok (.goto 21, 3) := by decide +kernel
theorem dX12_whyAccuse_92 : decode cX12_whyAccuse 92 = .ok (.aload_n 0, 1) := by decide +kernel
theorem dX12_whyAccuse_93 : decode cX12_whyAccuse 93 = .ok (.getfield 33, 3) := by decide +kernel
theorem dX12_whyAccuse_96 : decode cX12_whyAccuse 96 = .ok (.sipush 222, 3) := by decide +kernel
theorem dX12_whyAccuse_99 : decode cX12_whyAccuse 99 = .ok (.iload_n 1, 1) := by decide +kernel
theorem dX12_whyAccuse_100 : decode cX12_whyAccuse 100 = .ok (.iadd, 1) := by decide +kernel
theorem dX12_whyAccuse_101 : decode cX12_whyAccuse 101 = .ok (.iaload, 1) := by decide +kernel
theorem dX12_whyAccuse_102 : decode cX12_whyAccuse 102 = .ok (.ifCond .ne 7, 3) := by decide +kernel
theorem dX12_whyAccuse_105 : decode cX12_whyAccuse 105 = .ok (.iconst 4, 1) := by decide +kernel
theorem dX12_whyAccuse_106 : decode cX12_whyAccuse 106 = .ok (.goto 4, 3) := by decide +kernel
theorem dX12_whyAccuse_109 : decode cX12_whyAccuse 109 = .ok (.iconst 0, 1) := by decide +kernel
theorem dX12_whyAccuse_110 : decode cX12_whyAccuse 110 = .ok (.ireturn, 1) := by decide +kernel
set_option maxRecDepth 20000 in
theorem ggX12_isTrue_X12_asNow : GoodIn wsX12_isTrue wsX12_asNow := goodIn_r _ [6, 1, 7, 8, 9, 5, 10, 11, 12, 13, 33, 34, 35, 36, 37, 38, 39, 40, 41, 42, 43, 44, 45, 46, 47, 48, 49, 50, 51, 52, 53, 54, 55, 56, 57, 58, 59, 60, 61, 62, 63, 64, 65, 66, 67, 68, 69, 70, 71, 72, 73, 74, 75, 76, 77, 78, 79] rfl (by decide +kernel)
set_option maxRecDepth 20000 in
theorem gX12_isTrue_X12_asNow : GoodIn wsX12_isTrue (wsV RX12 318 RX12 yX12_asNow wsX12_asNow) := goodIn_app (goodIn_of _ (by decide +kernel)) ggX12_isTrue_X12_asNow
set_option maxRecDepth 20000 in
theorem ggX12_isTrue_X12_canHear : GoodIn wsX12_isTrue wsX12_canHear := goodIn_r _ [17, 1, 13, 11, 18, 19, 20, 5, 21, 12, 22, 23, 24, 25, 26, 27, 28, 29, 30, 31, 32, 33, 34, 35, 36, 37, 38, 39, 40, 41, 42, 43, 44, 45, 46, 47, 48, 49, 50, 51, 52, 53, 54, 55, 56, 57, 58, 59, 60, 61, 62, 63, 64, 65, 66, 67, 68, 69, 70, 71, 72, 73, 74, 75, 76, 77, 78, 79] rfl (by decide +kernel)
set_option maxRecDepth 20000 in
theorem gX12_isTrue_X12_canHear : GoodIn wsX12_isTrue (wsV RX12 293 RX12 yX12_canHear wsX12_canHear) := goodIn_app (goodIn_of _ (by decide +kernel)) ggX12_isTrue_X12_canHear
theorem dX12_isTrue_0 : decode cX12_isTrue 0 = .ok (.aload_n 0, 1) := by decide +kernel
theorem dX12_isTrue_1 : decode cX12_isTrue 1 = .ok (.invokevirtual 318, 3) := by decide +kernel
