theorem dX12_isTrue_4 : decode cX12_isTrue 4 = .ok (.aload_n 0, 1) := by decide +kernel
theorem dX12_isTrue_5 : decode cX12_isTrue 5 = .ok (.iload_n 1, 1) := by decide +kernel
theorem dX12_isTrue_6 : decode cX12_isTrue 6 = .ok (.aload_n 0, 1) := by decide +kernel
theorem dX12_isTrue_7 : decode cX12_isTrue 7 = .ok (.getfield 33, 3) := by decide +kernel
theorem dX12_isTrue_10 : decode cX12_isTrue 10 = .ok (.sipush 212, 3) := by decide +kernel
theorem dX12_isTrue_13 : decode cX12_isTrue 13 = .ok (.iaload, 1) := by decide +kernel
theorem dX12_isTrue_14 : decode cX12_isTrue 14 = .ok (.iconst 1, 1) := by decide +kernel
theorem dX12_isTrue_15 : decode cX12_isTrue 15 = .ok (.isub, 1) := by decide +kernel
theorem dX12_isTrue_16 : decode cX12_isTrue 16 = .ok (.aload_n 0, 1) := by decide +kernel
theorem dX12_isTrue_17 : decode cX12_isTrue 17 = .ok (.getfield 33, 3) := by decide +kernel
theorem dX12_isTrue_20 : decode cX12_isTrue 20 = .ok (.sipush 230, 3) := by decide +kernel
theorem dX12_isTrue_23 : decode cX12_isTrue 23 = .ok (.iload_n 1, 1) := by decide +kernel
theorem dX12_isTrue_24 : decode cX12_isTrue 24 = .ok (.iadd, 1) := by decide +kernel
theorem dX12_isTrue_25 : decode cX12_isTrue 25 = .ok (.iaload, 1) := by decide +kernel
theorem dX12_isTrue_26 : decode cX12_isTrue 26 = .ok (.iconst 1, 1) := by decide +kernel
theorem dX12_isTrue_27 : decode cX12_isTrue 27 = .ok (.isub, 1) := by decide +kernel
theorem dX12_isTrue_28 : decode cX12_isTrue 28 = .ok (.invokevirtual 293, 3) := by decide +kernel
theorem dX12_isTrue_31 : decode cX12_isTrue 31 = .ok (.ireturn, 1) := by decide +kernel
set_option maxRecDepth 20000 in
theorem ggX12_accuses_X12_isTrue : GoodIn wsX12_accuses wsX12_isTrue := goodIn_r _ [6, 1, 7, 8, 9, 5, 10, 11, 12, 13, 14, 15, 16, 17, 18, 19, 20, 21, 22, 23, 24, 25, 26, 27, 28, 29, 30, 31, 32, 33, 34, 35, 36, 37, 38, 39, 40, 41, 42, 43, 44, 45, 46, 47, 48, 49, 50, 51, 52, 53, 54, 55, 56, 57, 58, 59, 60, 61, 62, 63, 64, 65, 66, 67, 68, 69, 70, 71, 72, 73, 74, 75, 76, 77, 78, 79, 80, 81, 82, 83] rfl (by decide +kernel)
set_option maxRecDepth 20000 in
theorem gX12_accuses_X12_isTrue : GoodIn wsX12_accuses (wsV RX12 333 RX12 yX12_isTrue wsX12_isTrue) := goodIn_app (goodIn_of _ (by decide +kernel)) ggX12_accuses_X12_isTrue
theorem dX12_accuses_0 : decode cX12_accuses 0 = .ok (.aload_n 0, 1) := by decide +kernel
theorem dX12_accuses_1 : decode cX12_accuses 1 = .ok (.iload_n 2, 1) := by decide +kernel
theorem dX12_accuses_2 : decode cX12_accuses 2 = .ok (.invokevirtual 333, 3) := by decide +kernel
theorem dX12_accuses_5 : decode cX12_accuses 5 = .ok (.ifCond .eq 20, 3) := by decide +kernel
theorem dX12_accuses_8 : decode cX12_accuses 8 = .ok (.aload_n 0, 1) := by decide +kernel
theorem dX12_accuses_9 : decode cX12_accuses 9 = .ok (.getfield 33, 3) := by decide +kernel
theorem dX12_accuses_12 : decode cX12_accuses 12 = .ok (.sipush 222, 3) := by decide +kernel
theorem dX12_accuses_15 : decode cX12_accuses 15 = .ok (.iload_n 1, 1) := by decide +kernel
theorem dX12_accuses_16 : decode cX12_accuses 16 = .ok (.iadd, 1) := by decide +kernel
theorem dX12_accuses_17 : decode cX12_accuses 17 = .ok (.dup2, 1) := by decide +kernel
theorem dX12_accuses_18 : decode cX12_accuses 18 = .ok (.iaload, 1) := by decide +kernel
theorem dX12_accuses_19 : decode cX12_accuses 19 = .ok (.iconst 1, 1) := by decide +kernel
theorem dX12_accuses_20 : decode cX12_accuses 20 = .ok (.isub, 1) := by decide +kernel
theorem dX12_accuses_21 : decode cX12_accuses 21 = .ok (.iastore, 1) := by decide +kernel
theorem dX12_accuses_22 : decode cX12_accuses 22 = .ok (.goto 14, 3) := by decide +kernel
theorem dX12_accuses_25 : decode cX12_accuses 25 = .ok (.aload_n 0, 1) := by decide +kernel
theorem dX12_accuses_26 : decode cX12_accuses 26 = .ok (.getfield 33, 3) := by decide +kernel
theorem dX12_accuses_29 : decode cX12_accuses 29 = .ok (.sipush 230, 3) := by decide +kernel
theorem dX12_accuses_32 : decode cX12_accuses 32 = .ok (.iload_n 2, 1) := by decide +kernel
theorem dX12_accuses_33 : decode cX12_accuses 33 = .ok (.iadd, 1) := by decide +kernel
theorem dX12_accuses_34 : decode cX12_accuses 34 = .ok (.iconst 0, 1) := by decide +kernel
theorem dX12_accuses_35 : decode cX12_accuses 35 = .ok (.iastore, 1) := by decide +kernel
theorem dX12_accuses_36 : decode cX12_accuses 36 = .ok (.return_, 1) := by decide +kernel
theorem dX12_whyShare_0 : decode cX12_whyShare 0 = .ok (.aload_n 0, 1) := by decide +kernel
theorem dX12_whyShare_1 : decode cX12_whyShare 1 = .ok (.getfield 33, 3) := by decide +kernel
theorem dX12_whyShare_4 : decode cX12_whyShare 4 = .ok (.sipush 212, 3) := by decide +kernel
theorem dX12_whyShare_7 : decode cX12_whyShare 7 = .ok (.iaload, 1) := by decide +kernel
theorem dX12_whyShare_8 : decode cX12_whyShare 8 = .ok (.ifCond .ne 7, 3) := by decide +kernel
theorem dX12_whyShare_11 : decode cX12_whyShare 11 = .ok (.iconst 1, 1) := by decide +kernel
theorem dX12_whyShare_12 : decode cX12_whyShare 12 = .ok (.goto 21, 3) := by decide +kernel
theorem dX12_whyShare_15 : decode cX12_whyShare 15 = .ok (.aload_n 0, 1) := by decide +kernel
theorem dX12_whyShare_16 : decode cX12_whyShare 16 = .ok (.getfield 33, 3) := by decide +kernel
theorem dX12_whyShare_19 : decode cX12_whyShare 19 = .ok (.sipush 211, 3) := by decide +kernel
theorem dX12_whyShare_22 : decode cX12_whyShare 22 = .ok (.iaload, 1) := by decide +kernel
theorem dX12_whyShare_23 : decode cX12_whyShare 23 = .ok (.bipush 99, 2) := by decide +kernel
theorem dX12_whyShare_25 : decode cX12_whyShare 25 = .ok (.if_icmp .ne 7, 3) := by decide +kernel
theorem dX12_whyShare_28 : decode cX12_whyShare 28 = .ok (.iconst 2, 1) := by decide +kernel
theorem dX12_whyShare_29 : decode cX12_whyShare 29 = .ok (.goto 4, 3) := by decide +kernel
theorem dX12_whyShare_32 : decode cX12_whyShare 32 = .ok (.iconst 0, 1) := by decide +kernel
theorem dX12_whyShare_33 : decode cX12_whyShare 33 = .ok (.ireturn, 1) := by decide +kernel
theorem dX12_ends_0 : decode cX12_ends 0 = .ok (.iconst 0, 1) := by decide +kernel
theorem dX12_ends_1 : decode cX12_ends 1 = .ok (.istore_n 1, 1) := by decide +kernel
theorem dX12_ends_2 : decode cX12_ends 2 = .ok (.iload_n 1, 1) := by decide +kernel
theorem dX12_ends_3 : decode cX12_ends 3 = .ok (.bipush 8, 2) := by decide +kernel
theorem dX12_ends_5 : decode cX12_ends 5 = .ok (.if_icmp .ge 39, 3) := by decide +kernel
theorem dX12_ends_8 : decode cX12_ends 8 = .ok (.aload_n 0, 1) := by decide +kernel
theorem dX12_ends_9 : decode cX12_ends 9 = .ok (.getfield 33, 3) := by decide +kernel
theorem dX12_ends_12 : decode cX12_ends 12 = .ok (.sipush 238, 3) := by decide +kernel
theorem dX12_ends_15 : decode cX12_ends 15 = .ok (.iload_n 1, 1) := by decide +kernel
theorem dX12_ends_16 : decode cX12_ends 16 = .ok (.iadd, 1) := by decide +kernel
theorem dX12_ends_17 : decode cX12_ends 17 = .ok (.dup2, 1) := by decide +kernel
theorem dX12_ends_18 : decode cX12_ends 18 = .ok (.iaload, 1) := by decide +kernel
theorem dX12_ends_19 : decode cX12_ends 19 = .ok (.aload_n 0, 1) := by decide +kernel
theorem dX12_ends_20 : decode cX12_ends 20 = .ok (.getfield 59, 3) := by decide +kernel
theorem dX12_ends_23 : decode cX12_ends 23 = .ok (.iload_n 1, 1) := by decide +kernel
theorem dX12_ends_24 : decode cX12_ends 24 = .ok (.iaload, 1) := by decide +kernel
theorem dX12_ends_25 : decode cX12_ends 25 = .ok (.iadd, 1) := by decide +kernel
theorem dX12_ends_26 : decode cX12_ends 26 = .ok (.iastore, 1) := by decide +kernel
theorem dX12_ends_27 : decode cX12_ends 27 = .ok (.aload_n 0, 1) := by decide +kernel
theorem dX12_ends_28 : decode cX12_ends 28 = .ok (.getfield 33, 3) := by decide +kernel
theorem dX12_ends_31 : decode cX12_ends 31 = .ok (.sipush 230, 3) := by decide +kernel
theorem dX12_ends_34 : decode cX12_ends 34 = .ok (.iload_n 1, 1) := by decide +kernel
theorem dX12_ends_35 : decode cX12_ends 35 = .ok (.iadd, 1) := by decide +kernel
theorem dX12_ends_36 : decode cX12_ends 36 = .ok (.iconst 0, 1) := by decide +kernel
theorem dX12_ends_37 : decode cX12_ends 37 = .ok (.iastore, 1) := by decide +kernel
theorem dX12_ends_38 : decode cX12_ends 38 = .ok (.iinc 1 1, 3) := by decide +kernel
theorem dX12_ends_41 : decode cX12_ends 41 = .ok (.goto (-39), 3) := by decide +kernel
theorem dX12_ends_44 : decode cX12_ends 44 = .ok (.aload_n 0, 1) := by decide +kernel
theorem dX12_ends_45 : decode cX12_ends 45 = .ok (.getfield 33, 3) := by decide +kernel
theorem dX12_ends_48 : decode cX12_ends 48 = .ok (.sipush 211, 3) := by decide +kernel
theorem dX12_ends_51 : decode cX12_ends 51 = .ok (.dup2, 1) := by decide +kernel
theorem dX12_ends_52 : decode cX12_ends 52 = .ok (.iaload, 1) := by decide +kernel
theorem dX12_ends_53 : decode cX12_ends 53 = .ok (.iconst 1, 1) := by decide +kernel
theorem dX12_ends_54 : decode cX12_ends 54 = .ok (.iadd, 1) := by decide +kernel
theorem dX12_ends_55 : decode cX12_ends 55 = .ok (.iastore, 1) := by decide +kernel
theorem dX12_ends_56 : decode cX12_ends 56 = .ok (.aload_n 0, 1) := by decide +kernel
theorem dX12_ends_57 : decode cX12_ends 57 = .ok (.getfield 33, 3) := by decide +kernel
theorem dX12_ends_60 : decode cX12_ends 60 = .ok (.sipush 212, 3) := by decide +kernel
theorem dX12_ends_63 : decode cX12_ends 63 = .ok (.iconst 0, 1) := by decide +kernel
theorem dX12_ends_64 : decode cX12_ends 64 = .ok (.iastore, 1) := by decide +kernel
theorem dX12_ends_65 : decode cX12_ends 65 = .ok (.aload_n 0, 1) := by decide +kernel
theorem dX12_ends_66 : decode cX12_ends 66 = .ok (.getfield 33, 3) := by decide +kernel
theorem dX12_ends_69 : decode cX12_ends 69 = .ok (.sipush 213, 3) := by decide +kernel
theorem dX12_ends_72 : decode cX12_ends 72 = .ok (.iconst 0, 1) := by decide +kernel
theorem dX12_ends_73 : decode cX12_ends 73 = .ok (.iastore, 1) := by decide +kernel
theorem dX12_ends_74 : decode cX12_ends 74 = .ok (.return_, 1) := by decide +kernel
set_option maxRecDepth 20000 in
theorem ggX12_comes_X12_isFlight : GoodIn wsX12_comes wsX12_isFlight := goodIn_r _ [7, 2, 8, 9, 6, 10, 17, 18, 19, 20, 21, 22, 23, 24, 25, 26, 27, 28, 29, 30, 31, 32, 33, 34, 35, 36, 37, 38, 39, 40, 41, 42, 43, 44, 45, 46, 47, 48, 49, 50, 51, 52, 53, 54, 55, 56, 57, 58, 59, 60, 61, 62, 63] rfl (by decide +kernel)
set_option maxRecDepth 20000 in
theorem gX12_comes_X12_isFlight : GoodIn wsX12_comes (wsV RX12 259 RX12 yX12_isFlight wsX12_isFlight) := goodIn_app (goodIn_of _ (by decide +kernel)) ggX12_comes_X12_isFlight
set_option maxRecDepth 20000 in
theorem ggX12_comes_X12_keep : GoodIn wsX12_comes wsX12_keep := goodIn_r _ [14, 15, 16, 2, 17, 18, 19, 20, 21, 22, 23, 24, 25, 26, 27, 28, 29, 30, 31, 32, 33, 34, 35, 36, 37, 38, 39, 40, 41, 42, 43, 44, 45, 46, 47, 48, 49, 50, 51, 52, 53, 54, 55, 56, 57, 58, 59, 60, 61, 62, 63] rfl (by decide +kernel)
set_option maxRecDepth 20000 in
theorem gX12_comes_X12_keep : GoodIn wsX12_comes (wsV RX12 336 RX12 yX12_keep wsX12_keep) := goodIn_app (goodIn_of _ (by decide +kernel)) ggX12_comes_X12_keep
theorem dX12_comes_0 : decode cX12_comes 0 = .ok (.aload_n 0, 1) := by decide +kernel
theorem dX12_comes_1 : decode cX12_comes 1 = .ok (.iconst 0, 1) := by decide +kernel
theorem dX12_comes_2 : decode cX12_comes 2 = .ok (.putfield 1, 3) := by decide +kernel
theorem dX12_comes_5 : decode cX12_comes 5 = .ok (.aload_n 0, 1) := by decide +kernel
theorem dX12_comes_6 : decode cX12_comes 6 = .ok (.iload_n 1, 1) := by decide +kernel
theorem dX12_comes_7 : decode cX12_comes 7 = .ok (.invokevirtual 259, 3) := by decide +kernel
theorem dX12_comes_10 : decode cX12_comes 10 = .ok (.ifCond .ne 5, 3) := by decide +kernel
theorem dX12_comes_13 : decode cX12_comes 13 = .ok (.iconst (-1), 1) := by decide +kernel
theorem dX12_comes_14 : decode cX12_comes 14 = .ok (.ireturn, 1) := by decide +kernel
theorem dX12_comes_15 : decode cX12_comes 15 = .ok (.aload_n 0, 1) := by decide +kernel
theorem dX12_comes_16 : decode cX12_comes 16 = .ok (.getfield 33, 3) := by decide +kernel
theorem dX12_comes_19 : decode cX12_comes 19 = .ok (.sipush 212, 3) := by decide +kernel
theorem dX12_comes_22 : decode cX12_comes 22 = .ok (.iaload, 1) := by decide +kernel
theorem dX12_comes_23 : decode cX12_comes 23 = .ok (.ifCond .le 5, 3) := by decide +kernel
theorem dX12_comes_26 : decode cX12_comes 26 = .ok (.iconst 1, 1) := by decide +kernel
theorem dX12_comes_27 : decode cX12_comes 27 = .ok (.ireturn, 1) := by decide +kernel
theorem dX12_comes_28 : decode cX12_comes 28 = .ok (.aload_n 0, 1) := by decide +kernel
theorem dX12_comes_29 : decode cX12_comes 29 = .ok (.invokevirtual 336, 3) := by decide +kernel
theorem dX12_comes_32 : decode cX12_comes 32 = .ok (.aload_n 0, 1) := by decide +kernel
theorem dX12_comes_33 : decode cX12_comes 33 = .ok (.getfield 33, 3) := by decide +kernel
theorem dX12_comes_36 : decode cX12_comes 36 = .ok (.sipush 212, 3) := by decide +kernel
theorem dX12_comes_39 : decode cX12_comes 39 = .ok (.iload_n 1, 1) := by decide +kernel
theorem dX12_comes_40 : decode cX12_comes 40 = .ok (.iconst 1, 1) := by decide +kernel
theorem dX12_comes_41 : decode cX12_comes 41 = .ok (.iadd, 1) := by decide +kernel
theorem dX12_comes_42 : decode cX12_comes 42 = .ok (.iastore, 1) := by decide +kernel
theorem dX12_comes_43 : decode cX12_comes 43 = .ok (.iconst 0, 1) := by decide +kernel
theorem dX12_comes_44 : decode cX12_comes 44 = .ok (.ireturn, 1) := by decide +kernel
set_option maxRecDepth 20000 in
theorem ggX12_hours_X12_isIn : GoodIn wsX12_hours wsX12_isIn := goodIn_r _ [6] rfl (by decide +kernel)
set_option maxRecDepth 20000 in
theorem gX12_hours_X12_isIn : GoodIn wsX12_hours (va_wsS RX12 191 yX12_isIn wsX12_isIn) := goodIn_app (goodIn_of _ (by decide +kernel)) ggX12_hours_X12_isIn
set_option maxRecDepth 20000 in
theorem ggX12_hours_X12_keep : GoodIn wsX12_hours wsX12_keep := goodIn_r _ [10, 11, 12, 2, 16, 17, 18, 19, 20, 21, 22, 23, 24, 25, 26, 27, 28, 29, 30, 31, 32, 33, 34, 35, 36, 37, 38, 39, 40, 41, 42, 43, 44, 45, 46, 47, 48, 49, 50, 51, 52, 53, 54, 55, 56, 57, 58, 59, 60, 61, 62] rfl (by decide +kernel)
set_option maxRecDepth 20000 in
theorem gX12_hours_X12_keep : GoodIn wsX12_hours (wsV RX12 336 RX12 yX12_keep wsX12_keep) := goodIn_app (goodIn_of _ (by decide +kernel)) ggX12_hours_X12_keep
set_option maxRecDepth 20000 in
theorem ggX12_hours_X12_lesser : GoodIn wsX12_hours wsX12_lesser := goodIn_r _ [15] rfl (by decide +kernel)
set_option maxRecDepth 20000 in
theorem gX12_hours_X12_lesser : GoodIn wsX12_hours (va_wsS RX12 339 yX12_lesser wsX12_lesser) := goodIn_app (goodIn_of _ (by decide +kernel)) ggX12_hours_X12_lesser
theorem dX12_hours_0 : decode cX12_hours 0 = .ok (.aload_n 0, 1) := by decide +kernel
theorem dX12_hours_1 : decode cX12_hours 1 = .ok (.iconst 0, 1) := by decide +kernel
theorem dX12_hours_2 : decode cX12_hours 2 = .ok (.putfield 1, 3) := by decide +kernel
theorem dX12_hours_5 : decode cX12_hours 5 = .ok (.iload_n 1, 1) := by decide +kernel
theorem dX12_hours_6 : decode cX12_hours 6 = .ok (.iconst 1, 1) := by decide +kernel
theorem dX12_hours_7 : decode cX12_hours 7 = .ok (.bipush 99, 2) := by decide +kernel
theorem dX12_hours_9 : decode cX12_hours 9 = .ok (.invokestatic 191, 3) := by decide +kernel
theorem dX12_hours_12 : decode cX12_hours 12 = .ok (.ifCond .ne 5, 3) := by decide +kernel
theorem dX12_hours_15 : decode cX12_hours 15 = .ok (.iconst (-1), 1) := by decide +kernel
theorem dX12_hours_16 : decode cX12_hours 16 = .ok (.ireturn, 1) := by decide +kernel
theorem dX12_hours_17 : decode cX12_hours 17 = .ok (.aload_n 0, 1) := by decide +kernel
theorem dX12_hours_18 : decode cX12_hours 18 = .ok (.invokevirtual 336, 3) := by decide +kernel
theorem dX12_hours_21 : decode cX12_hours 21 = .ok (.aload_n 0, 1) := by decide +kernel
theorem dX12_hours_22 : decode cX12_hours 22 = .ok (.getfield 33, 3) := by decide +kernel
theorem dX12_hours_25 : decode cX12_hours 25 = .ok (.sipush 213, 3) := by decide +kernel
theorem dX12_hours_28 : decode cX12_hours 28 = .ok (.bipush 99, 2) := by decide +kernel
theorem dX12_hours_30 : decode cX12_hours 30 = .ok (.aload_n 0, 1) := by decide +kernel
theorem dX12_hours_31 : decode cX12_hours 31 = .ok (.getfield 33, 3) := by decide +kernel
theorem dX12_hours_34 : decode cX12_hours 34 = .ok (.sipush 213, 3) := by decide +kernel
theorem dX12_hours_37 : decode cX12_hours 37 = .ok (.iaload, 1) := by decide +kernel
theorem dX12_hours_38 : decode cX12_hours 38 = .ok (.iload_n 1, 1) := by decide +kernel
theorem dX12_hours_39 : decode cX12_hours 39 = .ok (.iadd, 1) := by decide +kernel
theorem dX12_hours_40 : decode cX12_hours 40 = .ok (.invokestatic 339, 3) := by decide +kernel
theorem dX12_hours_43 : decode cX12_hours 43 = .ok (.iastore, 1) := by decide +kernel
theorem dX12_hours_44 : decode cX12_hours 44 = .ok (.aload_n 0, 1) := by decide +kernel
theorem dX12_hours_45 : decode cX12_hours 45 = .ok (.getfield 33, 3) := by decide +kernel
theorem dX12_hours_48 : decode cX12_hours 48 = .ok (.sipush 213, 3) := by decide +kernel
theorem dX12_hours_51 : decode cX12_hours 51 = .ok (.iaload, 1) := by decide +kernel
theorem dX12_hours_52 : decode cX12_hours 52 = .ok (.ireturn, 1) := by decide +kernel
set_option maxRecDepth 20000 in
theorem ggX12_move_X12_isMan : GoodIn wsX12_move wsX12_isMan := goodIn_r _ [7, 2, 8, 9, 6, 10, 33, 34, 35, 36, 37, 38, 39, 40, 41, 42, 43, 44, 45, 46, 47, 48, 49, 50, 51, 52, 53, 54, 55, 56, 57, 58, 59, 60, 61, 62, 63, 64, 65, 66, 67, 68, 69, 70, 71, 72, 73, 74, 75, 76, 77, 78, 79] rfl (by decide +kernel)
set_option maxRecDepth 20000 in
theorem gX12_move_X12_isMan : GoodIn wsX12_move (wsV RX12 269 RX12 yX12_isMan wsX12_isMan) := goodIn_app (goodIn_of _ (by decide +kernel)) ggX12_move_X12_isMan
set_option maxRecDepth 20000 in
theorem ggX12_move_X12_isHill : GoodIn wsX12_move wsX12_isHill := goodIn_r _ [14, 2, 8, 9, 6, 10, 33, 34, 35, 36, 37, 38, 39, 40, 41, 42, 43, 44, 45, 46, 47, 48, 49, 50, 51, 52, 53, 54, 55, 56, 57, 58, 59, 60, 61, 62, 63, 64, 65, 66, 67, 68, 69, 70, 71, 72, 73, 74, 75, 76, 77, 78, 79] rfl (by decide +kernel)
set_option maxRecDepth 20000 in
theorem gX12_move_X12_isHill : GoodIn wsX12_move (wsV RX12 262 RX12 yX12_isHill wsX12_isHill) := goodIn_app (goodIn_of _ (by decide +kernel)) ggX12_move_X12_isHill
set_option maxRecDepth 20000 in
theorem ggX12_move_X12_whyMove : GoodIn wsX12_move wsX12_whyMove := goodIn_r _ [18, 2, 19, 20, 21, 6, 22, 23, 24, 25, 26, 33, 34, 35, 36, 37, 38, 39, 40, 41, 42, 43, 44, 45, 46, 47, 48, 49, 50, 51, 52, 53, 54, 55, 56, 57, 58, 59, 60, 61, 62, 63, 64, 65, 66, 67, 68, 69, 70, 71, 72, 73, 74, 75, 76, 77, 78, 79] rfl (by decide +kernel)
set_option maxRecDepth 20000 in
theorem gX12_move_X12_whyMove : GoodIn wsX12_move (wsV RX12 342 RX12 yX12_whyMove wsX12_whyMove) := goodIn_app (goodIn_of _ (by decide +kernel)) ggX12_move_X12_whyMove
set_option maxRecDepth 20000 in
theorem ggX12_move_X12_keep : GoodIn wsX12_move wsX12_keep := goodIn_r _ [30, 31, 32, 2, 33, 34, 35, 36, 37, 38, 39, 40, 41, 42, 43, 44, 45, 46, 47, 48, 49, 50, 51, 52, 53, 54, 55, 56, 57, 58, 59, 60, 61, 62, 63, 64, 65, 66, 67, 68, 69, 70, 71, 72, 73, 74, 75, 76, 77, 78, 79] rfl (by decide +kernel)
set_option maxRecDepth 20000 in
theorem gX12_move_X12_keep : GoodIn wsX12_move (wsV RX12 336 RX12 yX12_keep wsX12_keep) := goodIn_app (goodIn_of _ (by decide +kernel)) ggX12_move_X12_keep
theorem dX12_move_0 : decode cX12_move 0 = .ok (.aload_n 0, 1) := by decide +kernel
theorem dX12_move_1 : decode cX12_move 1 = .ok (.iconst 0, 1) := by decide +kernel
theorem dX12_move_2 : decode cX12_move 2 = .ok (.putfield 1, 3) := by decide +kernel
theorem dX12_move_5 : decode cX12_move 5 = .ok (.aload_n 0, 1) := by decide +kernel
theorem dX12_move_6 : decode cX12_move 6 = .ok (.iload_n 1, 1) := by decide +kernel
theorem dX12_move_7 : decode cX12_move 7 = .ok (.invokevirtual 269, 3) := by decide +kernel
theorem dX12_move_10 : decode cX12_move 10 = .ok (.ifCond .eq 11, 3) := by decide +kernel
theorem dX12_move_13 : decode cX12_move 13 = .ok (.aload_n 0, 1) := by decide +kernel
theorem dX12_move_14 : decode cX12_move 14 = .ok (.iload_n 2, 1) := by decide +kernel
theorem dX12_move_15 : decode cX12_move 15 = .ok (.invokevirtual 262, 3) := by decide +kernel
theorem dX12_move_18 : decode cX12_move 18 = .ok (.ifCond .ne 5, 3) := by decide +kernel
theorem dX12_move_21 : decode cX12_move 21 = .ok (.iconst (-1), 1) := by decide +kernel
theorem dX12_move_22 : decode cX12_move 22 = .ok (.ireturn, 1) := by decide +kernel
theorem dX12_move_23 : decode cX12_move 23 = .ok (.aload_n 0, 1) := by decide +kernel
theorem dX12_move_24 : decode cX12_move 24 = .ok (.iload_n 1, 1) := by decide +kernel
theorem dX12_move_25 : decode cX12_move 25 = .ok (.iload_n 2, 1) := by decide +kernel
theorem dX12_move_26 : decode cX12_move 26 = .ok (.invokevirtual 342, 3) := by decide +kernel
theorem dX12_move_29 : decode cX12_move 29 = .ok (.istore_n 3, 1) := by decide +kernel
theorem dX12_move_30 : decode cX12_move 30 = .ok (.iload_n 3, 1) := by decide +kernel
theorem dX12_move_31 : decode cX12_move 31 = .ok (.ifCond .le 5, 3) := by decide +kernel
theorem dX12_move_34 : decode cX12_move 34 = .ok (.iload_n 3, 1) := by decide +kernel
theorem dX12_move_35 : decode cX12_move 35 = .ok (.ireturn, 1) := by decide +kernel
theorem dX12_move_36 : decode cX12_move 36 = .ok (.aload_n 0, 1) := by decide +kernel
theorem dX12_move_37 : decode cX12_move 37 = .ok (.invokevirtual 336, 3) := by decide +kernel
theorem dX12_move_40 : decode cX12_move 40 = .ok (.aload_n 0, 1) := by decide +kernel
theorem dX12_move_41 : decode cX12_move 41 = .ok (.getfield 33, 3) := by decide +kernel
theorem dX12_move_44 : decode cX12_move 44 = .ok (.sipush 214, 3) := by decide +kernel
theorem dX12_move_47 : decode cX12_move 47 = .ok (.iload_n 1, 1) := by decide +kernel
theorem dX12_move_48 : decode cX12_move 48 = .ok (.iadd, 1) := by decide +kernel
theorem dX12_move_49 : decode cX12_move 49 = .ok (.iload_n 2, 1) := by decide +kernel
theorem dX12_move_50 : decode cX12_move 50 = .ok (.iastore, 1) := by decide +kernel
theorem dX12_move_51 : decode cX12_move 51 = .ok (.iconst 0, 1) := by decide +kernel
theorem dX12_move_52 : decode cX12_move 52 = .ok (.ireturn, 1) := by decide +kernel
set_option maxRecDepth 20000 in
theorem ggX12_swear_X12_isMan : GoodIn wsX12_swear wsX12_isMan := goodIn_r _ [6, 7, 8, 9, 5, 10, 29, 30, 31, 32, 33, 34, 35, 36, 37, 38, 39, 40, 41, 42, 43, 44, 45, 46, 47, 48, 49, 50, 51, 52, 53, 54, 55, 56, 57, 58, 59, 60, 61, 62, 63, 64, 65, 66, 67, 68, 69, 70, 71, 72, 73, 74, 75] rfl (by decide +kernel)
set_option maxRecDepth 20000 in
theorem gX12_swear_X12_isMan : GoodIn wsX12_swear (wsV RX12 269 RX12 yX12_isMan wsX12_isMan) := goodIn_app (goodIn_of _ (by decide +kernel)) ggX12_swear_X12_isMan
set_option maxRecDepth 20000 in
theorem ggX12_swear_X12_isIn : GoodIn wsX12_swear wsX12_isIn := goodIn_r _ [10] rfl (by decide +kernel)
set_option maxRecDepth 20000 in
theorem gX12_swear_X12_isIn : GoodIn wsX12_swear (va_wsS RX12 191 yX12_isIn wsX12_isIn) := goodIn_app (goodIn_of _ (by decide +kernel)) ggX12_swear_X12_isIn
set_option maxRecDepth 20000 in
theorem ggX12_swear_X12_whySwear : GoodIn wsX12_swear wsX12_whySwear := goodIn_r _ [14, 7, 15, 16, 17, 5, 18, 29, 30, 31, 32, 33, 34, 35, 36, 37, 38, 39, 40, 41, 42, 43, 44, 45, 46, 47, 48, 49, 50, 51, 52, 53, 54, 55, 56, 57, 58, 59, 60, 61, 62, 63, 64, 65, 66, 67, 68, 69, 70, 71, 72, 73, 74, 75] rfl (by decide +kernel)
