theorem dX0_takeOath_40 : decode cX0_takeOath 40 = .ok (.iastore, 1) := by decide +kernel
theorem dX0_takeOath_41 : decode cX0_takeOath 41 = .ok (.aload_n 1, 1) := by decide +kernel
theorem dX0_takeOath_42 : decode cX0_takeOath 42 = .ok (.getfield 58, 3) := by decide +kernel
theorem dX0_takeOath_45 : decode cX0_takeOath 45 = .ok (.iload_n 2, 1) := by decide +kernel
theorem dX0_takeOath_46 : decode cX0_takeOath 46 = .ok (.dup2, 1) := by decide +kernel
theorem dX0_takeOath_47 : decode cX0_takeOath 47 = .ok (.iaload, 1) := by decide +kernel
theorem dX0_takeOath_48 : decode cX0_takeOath 48 = .ok (.iconst 1, 1) := by decide +kernel
theorem dX0_takeOath_49 : decode cX0_takeOath 49 = .ok (.isub, 1) := by decide +kernel
theorem dX0_takeOath_50 : decode cX0_takeOath 50 = .ok (.iastore, 1) := by decide +kernel
theorem dX0_takeOath_51 : decode cX0_takeOath 51 = .ok (.iconst 0, 1) := by decide +kernel
theorem dX0_takeOath_52 : decode cX0_takeOath 52 = .ok (.ireturn, 1) := by decide +kernel
set_option maxRecDepth 20000 in
theorem ggX0_whyNotCalled_X9_hasCall : GoodIn wsX0_whyNotCalled wsX9_hasCall := goodIn_r _ [7, 8, 9, 10, 11, 6, 12, 13, 59, 60, 61, 62, 63, 64, 65, 66, 67, 68, 69, 70, 71, 72] rfl (by decide +kernel)
set_option maxRecDepth 20000 in
theorem gX0_whyNotCalled_X9_hasCall : GoodIn wsX0_whyNotCalled (wsV RX0 61 RX9 yX9_hasCall wsX9_hasCall) := goodIn_app (goodIn_of _ (by decide +kernel)) ggX0_whyNotCalled_X9_hasCall
set_option maxRecDepth 20000 in
theorem ggX0_whyNotCalled_X1_pitch : GoodIn wsX0_whyNotCalled wsX1_pitch := goodIn_r _ [18, 19, 20, 21, 22, 17, 23, 24, 25, 26, 6, 27, 28, 29, 30, 31, 32, 33, 34, 35, 73, 74, 75, 76, 77, 78, 79, 80, 81, 59, 60, 61, 62, 63, 64, 65, 66, 67, 68, 69, 70, 71, 72, 49, 50, 51, 52, 53, 54, 55] rfl (by decide +kernel)
set_option maxRecDepth 20000 in
theorem gX0_whyNotCalled_X1_pitch : GoodIn wsX0_whyNotCalled (wsV RX0 65 RX1 yX1_pitch wsX1_pitch) := goodIn_app (goodIn_of _ (by decide +kernel)) ggX0_whyNotCalled_X1_pitch
set_option maxRecDepth 20000 in
theorem ggX0_whyNotCalled_X1_distance : GoodIn wsX0_whyNotCalled wsX1_distance := goodIn_r _ [39, 19, 33, 40, 41, 42, 43, 34, 44, 45, 46, 6, 47, 48, 73, 74, 75, 76, 77, 78, 79, 80, 81, 59, 60, 61, 62, 63, 64, 65, 66, 67, 68, 69, 70, 71, 72] rfl (by decide +kernel)
set_option maxRecDepth 20000 in
theorem gX0_whyNotCalled_X1_distance : GoodIn wsX0_whyNotCalled (wsV RX0 71 RX1 yX1_distance wsX1_distance) := goodIn_app (goodIn_of _ (by decide +kernel)) ggX0_whyNotCalled_X1_distance
theorem dX0_whyNotCalled_0 : decode cX0_whyNotCalled 0 = .ok (.aload_n 1, 1) := by decide +kernel
theorem dX0_whyNotCalled_1 : decode cX0_whyNotCalled 1 = .ok (.getfield 55, 3) := by decide +kernel
theorem dX0_whyNotCalled_4 : decode cX0_whyNotCalled 4 = .ok (.iload_n 3, 1) := by decide +kernel
theorem dX0_whyNotCalled_5 : decode cX0_whyNotCalled 5 = .ok (.iaload, 1) := by decide +kernel
theorem dX0_whyNotCalled_6 : decode cX0_whyNotCalled 6 = .ok (.istore 4, 2) := by decide +kernel
theorem dX0_whyNotCalled_8 : decode cX0_whyNotCalled 8 = .ok (.aload_n 0, 1) := by decide +kernel
theorem dX0_whyNotCalled_9 : decode cX0_whyNotCalled 9 = .ok (.getfield 9, 3) := by decide +kernel
theorem dX0_whyNotCalled_12 : decode cX0_whyNotCalled 12 = .ok (.aload_n 1, 1) := by decide +kernel
theorem dX0_whyNotCalled_13 : decode cX0_whyNotCalled 13 = .ok (.getfield 19, 3) := by decide +kernel
theorem dX0_whyNotCalled_16 : decode cX0_whyNotCalled 16 = .ok (.iload 4, 2) := by decide +kernel
theorem dX0_whyNotCalled_18 : decode cX0_whyNotCalled 18 = .ok (.invokevirtual 61, 3) := by decide +kernel
theorem dX0_whyNotCalled_21 : decode cX0_whyNotCalled 21 = .ok (.ifCond .ne 5, 3) := by decide +kernel
theorem dX0_whyNotCalled_24 : decode cX0_whyNotCalled 24 = .ok (.iconst 1, 1) := by decide +kernel
theorem dX0_whyNotCalled_25 : decode cX0_whyNotCalled 25 = .ok (.ireturn, 1) := by decide +kernel
theorem dX0_whyNotCalled_26 : decode cX0_whyNotCalled 26 = .ok (.aload_n 0, 1) := by decide +kernel
theorem dX0_whyNotCalled_27 : decode cX0_whyNotCalled 27 = .ok (.getfield 15, 3) := by decide +kernel
theorem dX0_whyNotCalled_30 : decode cX0_whyNotCalled 30 = .ok (.aload_n 1, 1) := by decide +kernel
theorem dX0_whyNotCalled_31 : decode cX0_whyNotCalled 31 = .ok (.invokevirtual 65, 3) := by decide +kernel
theorem dX0_whyNotCalled_34 : decode cX0_whyNotCalled 34 = .ok (.aload_n 0, 1) := by decide +kernel
theorem dX0_whyNotCalled_35 : decode cX0_whyNotCalled 35 = .ok (.getfield 15, 3) := by decide +kernel
theorem dX0_whyNotCalled_38 : decode cX0_whyNotCalled 38 = .ok (.iload_n 2, 1) := by decide +kernel
theorem dX0_whyNotCalled_39 : decode cX0_whyNotCalled 39 = .ok (.aload_n 1, 1) := by decide +kernel
theorem dX0_whyNotCalled_40 : decode cX0_whyNotCalled 40 = .ok (.getfield 19, 3) := by decide +kernel
theorem dX0_whyNotCalled_43 : decode cX0_whyNotCalled 43 = .ok (.iload 4, 2) := by decide +kernel
theorem dX0_whyNotCalled_45 : decode cX0_whyNotCalled 45 = .ok (.invokevirtual 71, 3) := by decide +kernel
theorem dX0_whyNotCalled_48 : decode cX0_whyNotCalled 48 = .ok (.aload_n 0, 1) := by decide +kernel
theorem dX0_whyNotCalled_49 : decode cX0_whyNotCalled 49 = .ok (.getfield 15, 3) := by decide +kernel
theorem dX0_whyNotCalled_52 : decode cX0_whyNotCalled 52 = .ok (.iload_n 3, 1) := by decide +kernel
theorem dX0_whyNotCalled_53 : decode cX0_whyNotCalled 53 = .ok (.aload_n 1, 1) := by decide +kernel
theorem dX0_whyNotCalled_54 : decode cX0_whyNotCalled 54 = .ok (.getfield 19, 3) := by decide +kernel
theorem dX0_whyNotCalled_57 : decode cX0_whyNotCalled 57 = .ok (.iload 4, 2) := by decide +kernel
theorem dX0_whyNotCalled_59 : decode cX0_whyNotCalled 59 = .ok (.invokevirtual 71, 3) := by decide +kernel
theorem dX0_whyNotCalled_62 : decode cX0_whyNotCalled 62 = .ok (.if_icmp .lt 5, 3) := by decide +kernel
theorem dX0_whyNotCalled_65 : decode cX0_whyNotCalled 65 = .ok (.iconst 2, 1) := by decide +kernel
theorem dX0_whyNotCalled_66 : decode cX0_whyNotCalled 66 = .ok (.ireturn, 1) := by decide +kernel
theorem dX0_whyNotCalled_67 : decode cX0_whyNotCalled 67 = .ok (.aload_n 1, 1) := by decide +kernel
theorem dX0_whyNotCalled_68 : decode cX0_whyNotCalled 68 = .ok (.getfield 55, 3) := by decide +kernel
theorem dX0_whyNotCalled_71 : decode cX0_whyNotCalled 71 = .ok (.iload_n 2, 1) := by decide +kernel
theorem dX0_whyNotCalled_72 : decode cX0_whyNotCalled 72 = .ok (.iaload, 1) := by decide +kernel
theorem dX0_whyNotCalled_73 : decode cX0_whyNotCalled 73 = .ok (.iload 4, 2) := by decide +kernel
theorem dX0_whyNotCalled_75 : decode cX0_whyNotCalled 75 = .ok (.if_icmp .ne 5, 3) := by decide +kernel
theorem dX0_whyNotCalled_78 : decode cX0_whyNotCalled 78 = .ok (.iconst 3, 1) := by decide +kernel
theorem dX0_whyNotCalled_79 : decode cX0_whyNotCalled 79 = .ok (.ireturn, 1) := by decide +kernel
theorem dX0_whyNotCalled_80 : decode cX0_whyNotCalled 80 = .ok (.aload_n 1, 1) := by decide +kernel
theorem dX0_whyNotCalled_81 : decode cX0_whyNotCalled 81 = .ok (.getfield 58, 3) := by decide +kernel
theorem dX0_whyNotCalled_84 : decode cX0_whyNotCalled 84 = .ok (.iload_n 2, 1) := by decide +kernel
theorem dX0_whyNotCalled_85 : decode cX0_whyNotCalled 85 = .ok (.iaload, 1) := by decide +kernel
theorem dX0_whyNotCalled_86 : decode cX0_whyNotCalled 86 = .ok (.ifCond .ne 7, 3) := by decide +kernel
theorem dX0_whyNotCalled_89 : decode cX0_whyNotCalled 89 = .ok (.iconst 4, 1) := by decide +kernel
theorem dX0_whyNotCalled_90 : decode cX0_whyNotCalled 90 = .ok (.goto 4, 3) := by decide +kernel
theorem dX0_whyNotCalled_93 : decode cX0_whyNotCalled 93 = .ok (.iconst 0, 1) := by decide +kernel
theorem dX0_whyNotCalled_94 : decode cX0_whyNotCalled 94 = .ok (.ireturn, 1) := by decide +kernel
set_option maxRecDepth 20000 in
theorem ggX0_callOath_X0_whyNotCalled : GoodIn wsX0_callOath wsX0_whyNotCalled := goodIn_r _ [6, 7, 1, 8, 9, 10, 11, 12, 13, 14, 15, 16, 17, 18, 19, 20, 21, 22, 23, 24, 25, 26, 27, 28, 29, 30, 31, 32, 33, 34, 35, 36, 37, 38, 39, 40, 41, 42, 43, 44, 45, 46, 47, 48, 49, 50, 51, 52, 53, 77, 78, 79, 80, 81, 82, 83, 74, 75, 76, 84, 85, 86, 87, 88, 89, 90, 91, 92, 93, 94, 95, 96, 97, 98, 99, 100, 101, 102, 103, 104, 105, 106] rfl (by decide +kernel)
set_option maxRecDepth 20000 in
theorem gX0_callOath_X0_whyNotCalled : GoodIn wsX0_callOath (wsV RX0 75 RX0 yX0_whyNotCalled wsX0_whyNotCalled) := goodIn_app (goodIn_of _ (by decide +kernel)) ggX0_callOath_X0_whyNotCalled
set_option maxRecDepth 20000 in
theorem ggX0_callOath_X1_hearers : GoodIn wsX0_callOath wsX1_hearers := goodIn_r _ [57, 24, 58, 59, 60, 22, 61, 40, 38, 39, 49, 50, 51, 11, 52, 53, 62, 63, 64, 65, 66, 67, 68, 69, 70, 71, 72, 73, 42, 43, 44, 45, 46, 47, 48, 98, 99, 100, 101, 102, 103, 104, 105, 106, 84, 85, 86, 87, 88, 89, 90, 91, 92, 93, 94, 95, 96, 97] rfl (by decide +kernel)
set_option maxRecDepth 20000 in
theorem gX0_callOath_X1_hearers : GoodIn wsX0_callOath (wsV RX0 79 RX1 yX1_hearers wsX1_hearers) := goodIn_app (goodIn_of _ (by decide +kernel)) ggX0_callOath_X1_hearers
theorem dX0_callOath_0 : decode cX0_callOath 0 = .ok (.aload_n 0, 1) := by decide +kernel
theorem dX0_callOath_1 : decode cX0_callOath 1 = .ok (.aload_n 1, 1) := by decide +kernel
theorem dX0_callOath_2 : decode cX0_callOath 2 = .ok (.iload_n 2, 1) := by decide +kernel
theorem dX0_callOath_3 : decode cX0_callOath 3 = .ok (.iload_n 3, 1) := by decide +kernel
theorem dX0_callOath_4 : decode cX0_callOath 4 = .ok (.invokevirtual 75, 3) := by decide +kernel
theorem dX0_callOath_7 : decode cX0_callOath 7 = .ok (.istore 4, 2) := by decide +kernel
theorem dX0_callOath_9 : decode cX0_callOath 9 = .ok (.iload 4, 2) := by decide +kernel
theorem dX0_callOath_11 : decode cX0_callOath 11 = .ok (.ifCond .eq 6, 3) := by decide +kernel
theorem dX0_callOath_14 : decode cX0_callOath 14 = .ok (.iload 4, 2) := by decide +kernel
theorem dX0_callOath_16 : decode cX0_callOath 16 = .ok (.ireturn, 1) := by decide +kernel
theorem dX0_callOath_17 : decode cX0_callOath 17 = .ok (.aload_n 0, 1) := by decide +kernel
theorem dX0_callOath_18 : decode cX0_callOath 18 = .ok (.getfield 15, 3) := by decide +kernel
theorem dX0_callOath_21 : decode cX0_callOath 21 = .ok (.aload_n 1, 1) := by decide +kernel
theorem dX0_callOath_22 : decode cX0_callOath 22 = .ok (.getfield 19, 3) := by decide +kernel
theorem dX0_callOath_25 : decode cX0_callOath 25 = .ok (.aload_n 1, 1) := by decide +kernel
theorem dX0_callOath_26 : decode cX0_callOath 26 = .ok (.getfield 55, 3) := by decide +kernel
theorem dX0_callOath_29 : decode cX0_callOath 29 = .ok (.iload_n 3, 1) := by decide +kernel
theorem dX0_callOath_30 : decode cX0_callOath 30 = .ok (.iaload, 1) := by decide +kernel
theorem dX0_callOath_31 : decode cX0_callOath 31 = .ok (.invokevirtual 79, 3) := by decide +kernel
theorem dX0_callOath_34 : decode cX0_callOath 34 = .ok (.iload_n 3, 1) := by decide +kernel
theorem dX0_callOath_35 : decode cX0_callOath 35 = .ok (.ishr, 1) := by decide +kernel
theorem dX0_callOath_36 : decode cX0_callOath 36 = .ok (.iconst 1, 1) := by decide +kernel
theorem dX0_callOath_37 : decode cX0_callOath 37 = .ok (.iand, 1) := by decide +kernel
theorem dX0_callOath_38 : decode cX0_callOath 38 = .ok (.iconst 1, 1) := by decide +kernel
theorem dX0_callOath_39 : decode cX0_callOath 39 = .ok (.if_icmp .ne 16, 3) := by decide +kernel
theorem dX0_callOath_42 : decode cX0_callOath 42 = .ok (.aload_n 1, 1) := by decide +kernel
theorem dX0_callOath_43 : decode cX0_callOath 43 = .ok (.getfield 58, 3) := by decide +kernel
theorem dX0_callOath_46 : decode cX0_callOath 46 = .ok (.iload_n 2, 1) := by decide +kernel
theorem dX0_callOath_47 : decode cX0_callOath 47 = .ok (.dup2, 1) := by decide +kernel
theorem dX0_callOath_48 : decode cX0_callOath 48 = .ok (.iaload, 1) := by decide +kernel
theorem dX0_callOath_49 : decode cX0_callOath 49 = .ok (.iconst 1, 1) := by decide +kernel
theorem dX0_callOath_50 : decode cX0_callOath 50 = .ok (.isub, 1) := by decide +kernel
theorem dX0_callOath_51 : decode cX0_callOath 51 = .ok (.iastore, 1) := by decide +kernel
theorem dX0_callOath_52 : decode cX0_callOath 52 = .ok (.goto 10, 3) := by decide +kernel
theorem dX0_callOath_55 : decode cX0_callOath 55 = .ok (.aload_n 1, 1) := by decide +kernel
theorem dX0_callOath_56 : decode cX0_callOath 56 = .ok (.getfield 55, 3) := by decide +kernel
theorem dX0_callOath_59 : decode cX0_callOath 59 = .ok (.iload_n 3, 1) := by decide +kernel
theorem dX0_callOath_60 : decode cX0_callOath 60 = .ok (.iconst (-1), 1) := by decide +kernel
theorem dX0_callOath_61 : decode cX0_callOath 61 = .ok (.iastore, 1) := by decide +kernel
theorem dX0_callOath_62 : decode cX0_callOath 62 = .ok (.iconst 0, 1) := by decide +kernel
theorem dX0_callOath_63 : decode cX0_callOath 63 = .ok (.ireturn, 1) := by decide +kernel
set_option maxRecDepth 20000 in
theorem ggX0_liars_X1_pitch : GoodIn wsX0_liars wsX1_pitch := goodIn_r _ [7, 8, 9, 10, 11, 6, 12, 13, 14, 15, 16, 17, 18, 19, 20, 21, 22, 23, 24, 25, 92, 93, 94, 95, 96, 97, 98, 99, 100, 71, 72, 73, 74, 75, 76, 77, 78, 79, 80, 81, 82, 83, 84, 85, 86, 87, 88, 89, 90, 91] rfl (by decide +kernel)
set_option maxRecDepth 20000 in
theorem gX0_liars_X1_pitch : GoodIn wsX0_liars (wsV RX0 65 RX1 yX1_pitch wsX1_pitch) := goodIn_app (goodIn_of _ (by decide +kernel)) ggX0_liars_X1_pitch
set_option maxRecDepth 20000 in
theorem ggX0_liars_X9_hasCall : GoodIn wsX0_liars wsX9_hasCall := goodIn_r _ [29, 30, 31, 32, 33, 16, 34, 35, 71, 72, 73, 74, 75, 76, 77, 78, 79, 80, 81, 82, 83, 84] rfl (by decide +kernel)
set_option maxRecDepth 20000 in
theorem gX0_liars_X9_hasCall : GoodIn wsX0_liars (wsV RX0 61 RX9 yX9_hasCall wsX9_hasCall) := goodIn_app (goodIn_of _ (by decide +kernel)) ggX0_liars_X9_hasCall
set_option maxRecDepth 20000 in
theorem ggX0_liars_X1_hearers : GoodIn wsX0_liars wsX1_hearers := goodIn_r _ [39, 8, 40, 41, 42, 6, 43, 25, 23, 24, 44, 45, 46, 16, 47, 48, 49, 50, 51, 52, 53, 54, 55, 56, 57, 58, 59, 60, 61, 62, 63, 64, 65, 66, 67, 92, 93, 94, 95, 96, 97, 98, 99, 100, 71, 72, 73, 74, 75, 76, 77, 78, 79, 80, 81, 82, 83, 84] rfl (by decide +kernel)
set_option maxRecDepth 20000 in
theorem gX0_liars_X1_hearers : GoodIn wsX0_liars (wsV RX0 79 RX1 yX1_hearers wsX1_hearers) := goodIn_app (goodIn_of _ (by decide +kernel)) ggX0_liars_X1_hearers
theorem dX0_liars_0 : decode cX0_liars 0 = .ok (.aload_n 0, 1) := by decide +kernel
theorem dX0_liars_1 : decode cX0_liars 1 = .ok (.getfield 15, 3) := by decide +kernel
theorem dX0_liars_4 : decode cX0_liars 4 = .ok (.aload_n 1, 1) := by decide +kernel
theorem dX0_liars_5 : decode cX0_liars 5 = .ok (.invokevirtual 65, 3) := by decide +kernel
theorem dX0_liars_8 : decode cX0_liars 8 = .ok (.iconst 0, 1) := by decide +kernel
theorem dX0_liars_9 : decode cX0_liars 9 = .ok (.istore_n 2, 1) := by decide +kernel
theorem dX0_liars_10 : decode cX0_liars 10 = .ok (.iconst 0, 1) := by decide +kernel
theorem dX0_liars_11 : decode cX0_liars 11 = .ok (.istore_n 3, 1) := by decide +kernel
theorem dX0_liars_12 : decode cX0_liars 12 = .ok (.iload_n 3, 1) := by decide +kernel
theorem dX0_liars_13 : decode cX0_liars 13 = .ok (.aload_n 0, 1) := by decide +kernel
theorem dX0_liars_14 : decode cX0_liars 14 = .ok (.getfield 9, 3) := by decide +kernel
theorem dX0_liars_17 : decode cX0_liars 17 = .ok (.getfield 82, 3) := by decide +kernel
theorem dX0_liars_20 : decode cX0_liars 20 = .ok (.if_icmp .ge 59, 3) := by decide +kernel
theorem dX0_liars_23 : decode cX0_liars 23 = .ok (.aload_n 1, 1) := by decide +kernel
theorem dX0_liars_24 : decode cX0_liars 24 = .ok (.getfield 55, 3) := by decide +kernel
theorem dX0_liars_27 : decode cX0_liars 27 = .ok (.iload_n 3, 1) := by decide +kernel
theorem dX0_liars_28 : decode cX0_liars 28 = .ok (.iaload, 1) := by decide +kernel
theorem dX0_liars_29 : decode cX0_liars 29 = .ok (.istore 4, 2) := by decide +kernel
theorem dX0_liars_31 : decode cX0_liars 31 = .ok (.aload_n 0, 1) := by decide +kernel
theorem dX0_liars_32 : decode cX0_liars 32 = .ok (.getfield 9, 3) := by decide +kernel
theorem dX0_liars_35 : decode cX0_liars 35 = .ok (.aload_n 1, 1) := by decide +kernel
theorem dX0_liars_36 : decode cX0_liars 36 = .ok (.getfield 19, 3) := by decide +kernel
theorem dX0_liars_39 : decode cX0_liars 39 = .ok (.iload 4, 2) := by decide +kernel
theorem dX0_liars_41 : decode cX0_liars 41 = .ok (.invokevirtual 61, 3) := by decide +kernel
theorem dX0_liars_44 : decode cX0_liars 44 = .ok (.ifCond .eq 29, 3) := by decide +kernel
theorem dX0_liars_47 : decode cX0_liars 47 = .ok (.aload_n 0, 1) := by decide +kernel
theorem dX0_liars_48 : decode cX0_liars 48 = .ok (.getfield 15, 3) := by decide +kernel
theorem dX0_liars_51 : decode cX0_liars 51 = .ok (.aload_n 1, 1) := by decide +kernel
theorem dX0_liars_52 : decode cX0_liars 52 = .ok (.getfield 19, 3) := by decide +kernel
theorem dX0_liars_55 : decode cX0_liars 55 = .ok (.iload 4, 2) := by decide +kernel
theorem dX0_liars_57 : decode cX0_liars 57 = .ok (.invokevirtual 79, 3) := by decide +kernel
theorem dX0_liars_60 : decode cX0_liars 60 = .ok (.iload_n 3, 1) := by decide +kernel
theorem dX0_liars_61 : decode cX0_liars 61 = .ok (.ishr, 1) := by decide +kernel
theorem dX0_liars_62 : decode cX0_liars 62 = .ok (.iconst 1, 1) := by decide +kernel
theorem dX0_liars_63 : decode cX0_liars 63 = .ok (.iand, 1) := by decide +kernel
theorem dX0_liars_64 : decode cX0_liars 64 = .ok (.ifCond .ne 9, 3) := by decide +kernel
theorem dX0_liars_67 : decode cX0_liars 67 = .ok (.iload_n 2, 1) := by decide +kernel
theorem dX0_liars_68 : decode cX0_liars 68 = .ok (.iconst 1, 1) := by decide +kernel
theorem dX0_liars_69 : decode cX0_liars 69 = .ok (.iload_n 3, 1) := by decide +kernel
theorem dX0_liars_70 : decode cX0_liars 70 = .ok (.ishl, 1) := by decide +kernel
theorem dX0_liars_71 : decode cX0_liars 71 = .ok (.ior, 1) := by decide +kernel
theorem dX0_liars_72 : decode cX0_liars 72 = .ok (.istore_n 2, 1) := by decide +kernel
theorem dX0_liars_73 : decode cX0_liars 73 = .ok (.iinc 3 1, 3) := by decide +kernel
theorem dX0_liars_76 : decode cX0_liars 76 = .ok (.goto (-64), 3) := by decide +kernel
theorem dX0_liars_79 : decode cX0_liars 79 = .ok (.iload_n 2, 1) := by decide +kernel
theorem dX0_liars_80 : decode cX0_liars 80 = .ok (.ireturn, 1) := by decide +kernel
set_option maxRecDepth 20000 in
theorem ggX0_strikers_X0_liars : GoodIn wsX0_strikers wsX0_liars := goodIn_r _ [6, 7, 1, 8, 9, 10, 11, 12, 13, 14, 15, 16, 17, 18, 19, 20, 21, 22, 23, 24, 25, 26, 27, 28, 29, 30, 31, 32, 33, 34, 35, 36, 37, 38, 39, 40, 41, 42, 43, 44, 45, 46, 47, 48, 49, 50, 51, 52, 53, 54, 55, 56, 57, 58, 59, 60, 61, 62, 63, 64, 65, 66, 67, 68, 69, 70, 71, 72, 78, 79, 80, 81, 82, 83, 84, 85, 86, 87, 88, 89, 90, 91, 92, 93, 94, 95, 96, 97, 98, 99, 100, 101, 102, 103, 104, 105, 106, 107, 108, 109, 110] rfl (by decide +kernel)
set_option maxRecDepth 20000 in
theorem gX0_strikers_X0_liars : GoodIn wsX0_strikers (wsV RX0 85 RX0 yX0_liars wsX0_liars) := goodIn_app (goodIn_of _ (by decide +kernel)) ggX0_strikers_X0_liars
set_option maxRecDepth 20000 in
theorem ggX0_strikers_X0_whyNotCalled : GoodIn wsX0_strikers wsX0_whyNotCalled := goodIn_r _ [76, 1, 7, 31, 32, 33, 21, 34, 35, 36, 37, 38, 39, 40, 8, 9, 10, 11, 12, 13, 14, 15, 16, 17, 18, 19, 20, 22, 23, 24, 25, 26, 27, 28, 29, 30, 77, 66, 67, 68, 69, 70, 71, 72, 49, 50, 51, 52, 53, 95, 96, 97, 98, 99, 100, 101, 78, 79, 80, 81, 82, 83, 84, 85, 86, 87, 88, 89, 90, 91, 92, 93, 94, 102, 103, 104, 105, 106, 107, 108, 109, 110] rfl (by decide +kernel)
set_option maxRecDepth 20000 in
theorem gX0_strikers_X0_whyNotCalled : GoodIn wsX0_strikers (wsV RX0 75 RX0 yX0_whyNotCalled wsX0_whyNotCalled) := goodIn_app (goodIn_of _ (by decide +kernel)) ggX0_strikers_X0_whyNotCalled
theorem dX0_strikers_0 : decode cX0_strikers 0 = .ok (.iconst 0, 1) := by decide +kernel
theorem dX0_strikers_1 : decode cX0_strikers 1 = .ok (.istore_n 3, 1) := by decide +kernel
theorem dX0_strikers_2 : decode cX0_strikers 2 = .ok (.aload_n 0, 1) := by decide +kernel
theorem dX0_strikers_3 : decode cX0_strikers 3 = .ok (.aload_n 1, 1) := by decide +kernel
theorem dX0_strikers_4 : decode cX0_strikers 4 = .ok (.invokevirtual 85, 3) := by decide +kernel
theorem dX0_strikers_7 : decode cX0_strikers 7 = .ok (.iload_n 2, 1) := by decide +kernel
theorem dX0_strikers_8 : decode cX0_strikers 8 = .ok (.ishr, 1) := by decide +kernel
theorem dX0_strikers_9 : decode cX0_strikers 9 = .ok (.iconst 1, 1) := by decide +kernel
theorem dX0_strikers_10 : decode cX0_strikers 10 = .ok (.iand, 1) := by decide +kernel
theorem dX0_strikers_11 : decode cX0_strikers 11 = .ok (.iconst 1, 1) := by decide +kernel
theorem dX0_strikers_12 : decode cX0_strikers 12 = .ok (.if_icmp .ne 48, 3) := by decide +kernel
theorem dX0_strikers_15 : decode cX0_strikers 15 = .ok (.iconst 0, 1) := by decide +kernel
theorem dX0_strikers_16 : decode cX0_strikers 16 = .ok (.istore 4, 2) := by decide +kernel
theorem dX0_strikers_18 : decode cX0_strikers 18 = .ok (.iload 4, 2) := by decide +kernel
theorem dX0_strikers_20 : decode cX0_strikers 20 = .ok (.aload_n 0, 1) := by decide +kernel
theorem dX0_strikers_21 : decode cX0_strikers 21 = .ok (.getfield 9, 3) := by decide +kernel
theorem dX0_strikers_24 : decode cX0_strikers 24 = .ok (.getfield 82, 3) := by decide +kernel
theorem dX0_strikers_27 : decode cX0_strikers 27 = .ok (.if_icmp .ge 33, 3) := by decide +kernel
theorem dX0_strikers_30 : decode cX0_strikers 30 = .ok (.iload 4, 2) := by decide +kernel
theorem dX0_strikers_32 : decode cX0_strikers 32 = .ok (.iload_n 2, 1) := by decide +kernel
theorem dX0_strikers_33 : decode cX0_strikers 33 = .ok (.if_icmp .eq 21, 3) := by decide +kernel
theorem dX0_strikers_36 : decode cX0_strikers 36 = .ok (.aload_n 0, 1) := by decide +kernel
theorem dX0_strikers_37 : decode cX0_strikers 37 = .ok (.aload_n 1, 1) := by decide +kernel
theorem dX0_strikers_38 : decode cX0_strikers 38 = .ok (.iload 4, 2) := by decide +kernel
theorem dX0_strikers_40 : decode cX0_strikers 40 = .ok (.iload_n 2, 1) := by decide +kernel
theorem dX0_strikers_41 : decode cX0_strikers 41 = .ok (.invokevirtual 75, 3) := by decide +kernel
theorem dX0_strikers_44 : decode cX0_strikers 44 = .ok (.ifCond .ne 10, 3) := by decide +kernel
theorem dX0_strikers_47 : decode cX0_strikers 47 = .ok (.iload_n 3, 1) := by decide +kernel
theorem dX0_strikers_48 : decode cX0_strikers 48 = .ok (.iconst 1, 1) := by decide +kernel
theorem dX0_strikers_49 : decode cX0_strikers 49 = .ok (.iload 4, 2) := by decide +kernel
theorem dX0_strikers_51 : decode cX0_strikers 51 = .ok (.ishl, 1) := by decide +kernel
theorem dX0_strikers_52 : decode cX0_strikers 52 = .ok (.ior, 1) := by decide +kernel
theorem dX0_strikers_53 : decode cX0_strikers 53 = .ok (.istore_n 3, 1) := by decide +kernel
theorem dX0_strikers_54 : decode cX0_strikers 54 = .ok (.iinc 4 1, 3) := by decide +kernel
theorem dX0_strikers_57 : decode cX0_strikers 57 = .ok (.goto (-39), 3) := by decide +kernel
theorem dX0_strikers_60 : decode cX0_strikers 60 = .ok (.iload_n 3, 1) := by decide +kernel
theorem dX0_strikers_61 : decode cX0_strikers 61 = .ok (.ireturn, 1) := by decide +kernel
set_option maxRecDepth 20000 in
theorem ggX0_hearersSoFar_X1_pitch : GoodIn wsX0_hearersSoFar wsX1_pitch := goodIn_r _ [6, 7, 8, 9, 10, 5, 11, 12, 13, 14, 15, 16, 17, 18, 19, 20, 21, 22, 23, 24, 79, 80, 81, 82, 83, 84, 85, 86, 87, 88, 89, 90, 91, 92, 93, 94, 95, 96, 97, 98, 99, 100, 101, 72, 73, 74, 75, 76, 77, 78] rfl (by decide +kernel)
set_option maxRecDepth 20000 in
theorem gX0_hearersSoFar_X1_pitch : GoodIn wsX0_hearersSoFar (wsV RX0 65 RX1 yX1_pitch wsX1_pitch) := goodIn_app (goodIn_of _ (by decide +kernel)) ggX0_hearersSoFar_X1_pitch
set_option maxRecDepth 20000 in
theorem ggX0_hearersSoFar_X0_past : GoodIn wsX0_hearersSoFar wsX0_past := goodIn_r _ [29, 30, 31, 32, 33, 15, 34, 35, 36, 37, 38, 39, 40, 72, 73, 74, 75, 76, 77, 78, 69, 70, 71, 88, 89, 90, 91, 92, 93, 94, 95, 96, 97, 98, 99, 100, 101] rfl (by decide +kernel)
set_option maxRecDepth 20000 in
theorem gX0_hearersSoFar_X0_past : GoodIn wsX0_hearersSoFar (wsV RX0 51 RX0 yX0_past wsX0_past) := goodIn_app (goodIn_of _ (by decide +kernel)) ggX0_hearersSoFar_X0_past
set_option maxRecDepth 20000 in
theorem ggX0_hearersSoFar_X1_hearers : GoodIn wsX0_hearersSoFar wsX1_hearers := goodIn_r _ [44, 7, 45, 46, 47, 5, 48, 24, 22, 23, 49, 37, 38, 15, 39, 40, 50, 51, 52, 53, 54, 55, 56, 57, 58, 59, 60, 61, 62, 63, 64, 65, 66, 67, 68, 79, 80, 81, 82, 83, 84, 85, 86, 87, 88, 89, 90, 91, 92, 93, 94, 95, 96, 97, 98, 99, 100, 101] rfl (by decide +kernel)
set_option maxRecDepth 20000 in
theorem gX0_hearersSoFar_X1_hearers : GoodIn wsX0_hearersSoFar (wsV RX0 79 RX1 yX1_hearers wsX1_hearers) := goodIn_app (goodIn_of _ (by decide +kernel)) ggX0_hearersSoFar_X1_hearers
theorem dX0_hearersSoFar_0 : decode cX0_hearersSoFar 0 = .ok (.aload_n 0, 1) := by decide +kernel
theorem dX0_hearersSoFar_1 : decode cX0_hearersSoFar 1 = .ok (.getfield 15, 3) := by decide +kernel
theorem dX0_hearersSoFar_4 : decode cX0_hearersSoFar 4 = .ok (.aload_n 1, 1) := by decide +kernel
theorem dX0_hearersSoFar_5 : decode cX0_hearersSoFar 5 = .ok (.invokevirtual 65, 3) := by decide +kernel
theorem dX0_hearersSoFar_8 : decode cX0_hearersSoFar 8 = .ok (.aload_n 0, 1) := by decide +kernel
theorem dX0_hearersSoFar_9 : decode cX0_hearersSoFar 9 = .ok (.aload_n 1, 1) := by decide +kernel
theorem dX0_hearersSoFar_10 : decode cX0_hearersSoFar 10 = .ok (.invokevirtual 51, 3) := by decide +kernel
theorem dX0_hearersSoFar_13 : decode cX0_hearersSoFar 13 = .ok (.istore_n 2, 1) := by decide +kernel
theorem dX0_hearersSoFar_14 : decode cX0_hearersSoFar 14 = .ok (.iconst 0, 1) := by decide +kernel
theorem dX0_hearersSoFar_15 : decode cX0_hearersSoFar 15 = .ok (.istore_n 3, 1) := by decide +kernel
theorem dX0_hearersSoFar_16 : decode cX0_hearersSoFar 16 = .ok (.iconst 0, 1) := by decide +kernel
theorem dX0_hearersSoFar_17 : decode cX0_hearersSoFar 17 = .ok (.istore 4, 2) := by decide +kernel
theorem dX0_hearersSoFar_19 : decode cX0_hearersSoFar 19 = .ok (.iload 4, 2) := by decide +kernel
theorem dX0_hearersSoFar_21 : decode cX0_hearersSoFar 21 = .ok (.iload_n 2, 1) := by decide +kernel
theorem dX0_hearersSoFar_22 : decode cX0_hearersSoFar 22 = .ok (.if_icmp .ge 25, 3) := by decide +kernel
theorem dX0_hearersSoFar_25 : decode cX0_hearersSoFar 25 = .ok (.iload_n 3, 1) := by decide +kernel
theorem dX0_hearersSoFar_26 : decode cX0_hearersSoFar 26 = .ok (.aload_n 0, 1) := by decide +kernel
theorem dX0_hearersSoFar_27 : decode cX0_hearersSoFar 27 = .ok (.getfield 15, 3) := by decide +kernel
theorem dX0_hearersSoFar_30 : decode cX0_hearersSoFar 30 = .ok (.aload_n 1, 1) := by decide +kernel
theorem dX0_hearersSoFar_31 : decode cX0_hearersSoFar 31 = .ok (.getfield 19, 3) := by decide +kernel
theorem dX0_hearersSoFar_34 : decode cX0_hearersSoFar 34 = .ok (.iload 4, 2) := by decide +kernel
theorem dX0_hearersSoFar_36 : decode cX0_hearersSoFar 36 = .ok (.invokevirtual 79, 3) := by decide +kernel
theorem dX0_hearersSoFar_39 : decode cX0_hearersSoFar 39 = .ok (.ior, 1) := by decide +kernel
theorem dX0_hearersSoFar_40 : decode cX0_hearersSoFar 40 = .ok (.istore_n 3, 1) := by decide +kernel
theorem dX0_hearersSoFar_41 : decode cX0_hearersSoFar 41 = .ok (.iinc 4 1, 3) := by decide +kernel
theorem dX0_hearersSoFar_44 : decode cX0_hearersSoFar 44 = .ok (.goto (-25), 3) := by decide +kernel
theorem dX0_hearersSoFar_47 : decode cX0_hearersSoFar 47 = .ok (.iload_n 3, 1) := by decide +kernel
theorem dX0_hearersSoFar_48 : decode cX0_hearersSoFar 48 = .ok (.ireturn, 1) := by decide +kernel
set_option maxRecDepth 20000 in
theorem ggX0_shareOut_X1_pitch : GoodIn wsX0_shareOut wsX1_pitch := goodIn_r _ [6, 7, 8, 9, 10, 5, 11, 12, 13, 14, 15, 16, 17, 18, 19, 20, 21, 22, 23, 24, 83, 84, 85, 86, 87, 88, 89, 90, 91, 92, 93, 94, 95, 96, 97, 98, 99, 100, 101, 102, 103, 104, 105, 73, 74, 75, 76, 77, 78, 79] rfl (by decide +kernel)
set_option maxRecDepth 20000 in
theorem gX0_shareOut_X1_pitch : GoodIn wsX0_shareOut (wsV RX0 65 RX1 yX1_pitch wsX1_pitch) := goodIn_app (goodIn_of _ (by decide +kernel)) ggX0_shareOut_X1_pitch
set_option maxRecDepth 20000 in
theorem ggX0_shareOut_X1_countOaths : GoodIn wsX0_shareOut wsX1_countOaths := goodIn_r _ [28, 7, 29, 30, 31, 5, 32, 22, 33, 34, 35, 15, 36, 37, 38, 39, 40, 41, 42, 43, 44, 45, 46, 47, 48, 49, 83, 84, 85, 86, 87, 88, 89, 90, 91, 92, 93, 94, 95, 96, 97, 98, 99, 100, 101, 102, 103, 104, 105, 73, 74, 75, 76, 77, 78, 79] rfl (by decide +kernel)
set_option maxRecDepth 20000 in
theorem gX0_shareOut_X1_countOaths : GoodIn wsX0_shareOut (wsV RX0 91 RX1 yX1_countOaths wsX1_countOaths) := goodIn_app (goodIn_of _ (by decide +kernel)) ggX0_shareOut_X1_countOaths
set_option maxRecDepth 20000 in
theorem ggX0_shareOut_X0_storeAndEnd : GoodIn wsX0_shareOut wsX0_storeAndEnd := goodIn_r _ [54, 55, 1, 56, 57, 58, 5, 59, 44, 42, 7, 60, 61, 62, 63, 43, 45, 46, 47, 15, 48, 49, 64, 65, 66, 67, 68, 69, 70, 71, 72, 80, 81, 82, 92, 93, 94, 95, 96, 97, 98, 99, 100, 101, 102, 103, 104, 105, 73, 74, 75, 76, 77, 78, 79, 83, 84, 85, 86, 87, 88, 89, 90, 91] rfl (by decide +kernel)
set_option maxRecDepth 20000 in
theorem gX0_shareOut_X0_storeAndEnd : GoodIn wsX0_shareOut (wsV RX0 94 RX0 yX0_storeAndEnd wsX0_storeAndEnd) := goodIn_app (goodIn_of _ (by decide +kernel)) ggX0_shareOut_X0_storeAndEnd
theorem dX0_shareOut_0 : decode cX0_shareOut 0 = .ok (.aload_n 1, 1) := by decide +kernel
theorem dX0_shareOut_1 : decode cX0_shareOut 1 = .ok (.getfield 19, 3) := by decide +kernel
theorem dX0_shareOut_4 : decode cX0_shareOut 4 = .ok (.iconst (-1), 1) := by decide +kernel
theorem dX0_shareOut_5 : decode cX0_shareOut 5 = .ok (.if_icmp .ne 5, 3) := by decide +kernel
theorem dX0_shareOut_8 : decode cX0_shareOut 8 = .ok (.iconst 1, 1) := by decide +kernel
theorem dX0_shareOut_9 : decode cX0_shareOut 9 = .ok (.ireturn, 1) := by decide +kernel
theorem dX0_shareOut_10 : decode cX0_shareOut 10 = .ok (.aload_n 1, 1) := by decide +kernel
theorem dX0_shareOut_11 : decode cX0_shareOut 11 = .ok (.getfield 88, 3) := by decide +kernel
theorem dX0_shareOut_14 : decode cX0_shareOut 14 = .ok (.bipush 99, 2) := by decide +kernel
theorem dX0_shareOut_16 : decode cX0_shareOut 16 = .ok (.if_icmp .lt 5, 3) := by decide +kernel
theorem dX0_shareOut_19 : decode cX0_shareOut 19 = .ok (.iconst 2, 1) := by decide +kernel
theorem dX0_shareOut_20 : decode cX0_shareOut 20 = .ok (.ireturn, 1) := by decide +kernel
theorem dX0_shareOut_21 : decode cX0_shareOut 21 = .ok (.aload_n 0, 1) := by decide +kernel
theorem dX0_shareOut_22 : decode cX0_shareOut 22 = .ok (.getfield 15, 3) := by decide +kernel
theorem dX0_shareOut_25 : decode cX0_shareOut 25 = .ok (.aload_n 1, 1) := by decide +kernel
theorem dX0_shareOut_26 : decode cX0_shareOut 26 = .ok (.invokevirtual 65, 3) := by decide +kernel
theorem dX0_shareOut_29 : decode cX0_shareOut 29 = .ok (.aload_n 0, 1) := by decide +kernel
theorem dX0_shareOut_30 : decode cX0_shareOut 30 = .ok (.getfield 15, 3) := by decide +kernel
theorem dX0_shareOut_33 : decode cX0_shareOut 33 = .ok (.aload_n 1, 1) := by decide +kernel
theorem dX0_shareOut_34 : decode cX0_shareOut 34 = .ok (.invokevirtual 91, 3) := by decide +kernel
theorem dX0_shareOut_37 : decode cX0_shareOut 37 = .ok (.aload_n 0, 1) := by decide +kernel
theorem dX0_shareOut_38 : decode cX0_shareOut 38 = .ok (.aload_n 1, 1) := by decide +kernel
theorem dX0_shareOut_39 : decode cX0_shareOut 39 = .ok (.invokevirtual 94, 3) := by decide +kernel
theorem dX0_shareOut_42 : decode cX0_shareOut 42 = .ok (.iconst 0, 1) := by decide +kernel
theorem dX0_shareOut_43 : decode cX0_shareOut 43 = .ok (.ireturn, 1) := by decide +kernel
set_option maxRecDepth 20000 in
theorem ggX0_storeAndEnd_X1_portion : GoodIn wsX0_storeAndEnd wsX1_portion := goodIn_r _ [7, 8, 9, 10, 11, 12, 13, 6, 14, 15, 16, 17, 18, 19, 20, 21, 55, 56, 57, 58, 59, 60, 61, 62, 63, 34, 35, 36, 37, 38, 39, 40, 41, 42, 43, 44, 45, 46, 47] rfl (by decide +kernel)
set_option maxRecDepth 20000 in
theorem gX0_storeAndEnd_X1_portion : GoodIn wsX0_storeAndEnd (wsV RX0 103 RX1 yX1_portion wsX1_portion) := goodIn_app (goodIn_of _ (by decide +kernel)) ggX0_storeAndEnd_X1_portion
set_option maxRecDepth 20000 in
theorem ggX0_storeAndEnd_X2_endYear : GoodIn wsX0_storeAndEnd wsX2_endYear := goodIn_r _ [26, 27, 28, 29, 30, 48, 49, 50, 51, 52, 53, 54] rfl (by decide +kernel)
set_option maxRecDepth 20000 in
theorem gX0_storeAndEnd_X2_endYear : GoodIn wsX0_storeAndEnd (wsV RX0 106 RX2 yX2_endYear wsX2_endYear) := goodIn_app (goodIn_of _ (by decide +kernel)) ggX0_storeAndEnd_X2_endYear
theorem dX0_storeAndEnd_0 : decode cX0_storeAndEnd 0 = .ok (.iconst 0, 1) := by decide +kernel
theorem dX0_storeAndEnd_1 : decode cX0_storeAndEnd 1 = .ok (.istore_n 2, 1) := by decide +kernel
theorem dX0_storeAndEnd_2 : decode cX0_storeAndEnd 2 = .ok (.iload_n 2, 1) := by decide +kernel
theorem dX0_storeAndEnd_3 : decode cX0_storeAndEnd 3 = .ok (.aload_n 0, 1) := by decide +kernel
theorem dX0_storeAndEnd_4 : decode cX0_storeAndEnd 4 = .ok (.getfield 9, 3) := by decide +kernel
theorem dX0_storeAndEnd_7 : decode cX0_storeAndEnd 7 = .ok (.getfield 82, 3) := by decide +kernel
theorem dX0_storeAndEnd_10 : decode cX0_storeAndEnd 10 = .ok (.if_icmp .ge 33, 3) := by decide +kernel
theorem dX0_storeAndEnd_13 : decode cX0_storeAndEnd 13 = .ok (.aload_n 1, 1) := by decide +kernel
theorem dX0_storeAndEnd_14 : decode cX0_storeAndEnd 14 = .ok (.getfield 97, 3) := by decide +kernel
theorem dX0_storeAndEnd_17 : decode cX0_storeAndEnd 17 = .ok (.iload_n 2, 1) := by decide +kernel
theorem dX0_storeAndEnd_18 : decode cX0_storeAndEnd 18 = .ok (.dup2, 1) := by decide +kernel
theorem dX0_storeAndEnd_19 : decode cX0_storeAndEnd 19 = .ok (.iaload, 1) := by decide +kernel
theorem dX0_storeAndEnd_20 : decode cX0_storeAndEnd 20 = .ok (.aload_n 0, 1) := by decide +kernel
theorem dX0_storeAndEnd_21 : decode cX0_storeAndEnd 21 = .ok (.getfield 15, 3) := by decide +kernel
theorem dX0_storeAndEnd_24 : decode cX0_storeAndEnd 24 = .ok (.iload_n 2, 1) := by decide +kernel
theorem dX0_storeAndEnd_25 : decode cX0_storeAndEnd 25 = .ok (.aload_n 0, 1) := by decide +kernel
theorem dX0_storeAndEnd_26 : decode cX0_storeAndEnd 26 = .ok (.getfield 9, 3) := by decide +kernel
theorem dX0_storeAndEnd_29 : decode cX0_storeAndEnd 29 = .ok (.getfield 100, 3) := by decide +kernel
theorem dX0_storeAndEnd_32 : decode cX0_storeAndEnd 32 = .ok (.invokevirtual 103, 3) := by decide +kernel
theorem dX0_storeAndEnd_35 : decode cX0_storeAndEnd 35 = .ok (.iadd, 1) := by decide +kernel
theorem dX0_storeAndEnd_36 : decode cX0_storeAndEnd 36 = .ok (.iastore, 1) := by decide +kernel
theorem dX0_storeAndEnd_37 : decode cX0_storeAndEnd 37 = .ok (.iinc 2 1, 3) := by decide +kernel
theorem dX0_storeAndEnd_40 : decode cX0_storeAndEnd 40 = .ok (.goto (-38), 3) := by decide +kernel
theorem dX0_storeAndEnd_43 : decode cX0_storeAndEnd 43 = .ok (.aload_n 1, 1) := by decide +kernel
theorem dX0_storeAndEnd_44 : decode cX0_storeAndEnd 44 = .ok (.aload_n 0, 1) := by decide +kernel
theorem dX0_storeAndEnd_45 : decode cX0_storeAndEnd 45 = .ok (.getfield 9, 3) := by decide +kernel
theorem dX0_storeAndEnd_48 : decode cX0_storeAndEnd 48 = .ok (.getfield 82, 3) := by decide +kernel
theorem dX0_storeAndEnd_51 : decode cX0_storeAndEnd 51 = .ok (.invokevirtual 106, 3) := by decide +kernel
theorem dX0_storeAndEnd_54 : decode cX0_storeAndEnd 54 = .ok (.return_, 1) := by decide +kernel
theorem dX0_draw_0 : decode cX0_draw 0 = .ok (.aload_n 0, 1) := by decide +kernel
theorem dX0_draw_1 : decode cX0_draw 1 = .ok (.aload_n 0, 1) := by decide +kernel
theorem dX0_draw_2 : decode cX0_draw 2 = .ok (.getfield 110, 3) := by decide +kernel
theorem dX0_draw_5 : decode cX0_draw 5 = .ok (.ldc 113, 2) := by decide +kernel
theorem dX0_draw_7 : decode cX0_draw 7 = .ok (.imul, 1) := by decide +kernel
theorem dX0_draw_8 : decode cX0_draw 8 = .ok (.sipush 12345, 3) := by decide +kernel
theorem dX0_draw_11 : decode cX0_draw 11 = .ok (.iadd, 1) := by decide +kernel
theorem dX0_draw_12 : decode cX0_draw 12 = .ok (.putfield 110, 3) := by decide +kernel
theorem dX0_draw_15 : decode cX0_draw 15 = .ok (.iload_n 1, 1) := by decide +kernel
theorem dX0_draw_16 : decode cX0_draw 16 = .ok (.ifCond .le 15, 3) := by decide +kernel
theorem dX0_draw_19 : decode cX0_draw 19 = .ok (.aload_n 0, 1) := by decide +kernel
theorem dX0_draw_20 : decode cX0_draw 20 = .ok (.getfield 110, 3) := by decide +kernel
theorem dX0_draw_23 : decode cX0_draw 23 = .ok (.bipush 8, 2) := by decide +kernel
theorem dX0_draw_25 : decode cX0_draw 25 = .ok (.iushr, 1) := by decide +kernel
theorem dX0_draw_26 : decode cX0_draw 26 = .ok (.iload_n 1, 1) := by decide +kernel
theorem dX0_draw_27 : decode cX0_draw 27 = .ok (.irem, 1) := by decide +kernel
theorem dX0_draw_28 : decode cX0_draw 28 = .ok (.goto 4, 3) := by decide +kernel
theorem dX0_draw_31 : decode cX0_draw 31 = .ok (.iconst 0, 1) := by decide +kernel
theorem dX0_draw_32 : decode cX0_draw 32 = .ok (.ireturn, 1) := by decide +kernel
set_option maxRecDepth 20000 in
theorem ggX0_drawYears_X0_drawYear : GoodIn wsX0_drawYears wsX0_drawYear := goodIn_r _ [6, 7, 8, 9, 10, 11, 5, 12, 1, 13, 14, 15, 16, 17, 18, 19, 20, 21, 22, 23, 24, 25, 26, 27, 28, 29, 30, 31, 32, 33, 34, 35, 36, 37, 38, 39, 40, 41, 42, 43, 44, 45, 46, 47, 48, 49, 50, 51, 52, 53, 54, 55, 56, 57, 58, 59, 60, 61, 62, 63, 64, 65, 66, 67, 68, 69, 70, 71, 72, 73, 74, 75, 76, 77, 78, 79, 80, 81, 82, 83, 84, 85, 86, 87, 88, 89, 90, 91, 92, 93, 94, 95, 96, 97, 98, 99, 100, 101, 102, 103, 104, 105, 106, 107, 108, 109, 110, 111, 112, 113, 114, 115, 116, 117, 118, 119, 120, 121, 122, 123, 124, 125, 126, 127, 128, 129, 130, 131, 132, 133, 134, 135, 136, 137, 138, 139, 140, 141, 142, 143, 144, 152, 153, 154, 155, 156, 157, 158, 159, 160, 161, 162, 163, 164, 165, 145, 146, 147, 148, 149, 150, 151, 166, 167, 168, 169, 170, 171, 172, 173, 174] rfl (by decide +kernel)
set_option maxRecDepth 20000 in
theorem gX0_drawYears_X0_drawYear : GoodIn wsX0_drawYears (wsV RX0 114 RX0 yX0_drawYear wsX0_drawYear) := goodIn_app (goodIn_of _ (by decide +kernel)) ggX0_drawYears_X0_drawYear
theorem dX0_drawYears_0 : decode cX0_drawYears 0 = .ok (.aload_n 0, 1) := by decide +kernel
theorem dX0_drawYears_1 : decode cX0_drawYears 1 = .ok (.iload_n 3, 1) := by decide +kernel
theorem dX0_drawYears_2 : decode cX0_drawYears 2 = .ok (.putfield 110, 3) := by decide +kernel
theorem dX0_drawYears_5 : decode cX0_drawYears 5 = .ok (.iconst 0, 1) := by decide +kernel
theorem dX0_drawYears_6 : decode cX0_drawYears 6 = .ok (.istore 4, 2) := by decide +kernel
theorem dX0_drawYears_8 : decode cX0_drawYears 8 = .ok (.iload 4, 2) := by decide +kernel
theorem dX0_drawYears_10 : decode cX0_drawYears 10 = .ok (.iload_n 2, 1) := by decide +kernel
theorem dX0_drawYears_11 : decode cX0_drawYears 11 = .ok (.if_icmp .ge 23, 3) := by decide +kernel
theorem dX0_drawYears_14 : decode cX0_drawYears 14 = .ok (.aload_n 1, 1) := by decide +kernel
theorem dX0_drawYears_15 : decode cX0_drawYears 15 = .ok (.getfield 88, 3) := by decide +kernel
theorem dX0_drawYears_18 : decode cX0_drawYears 18 = .ok (.bipush 99, 2) := by decide +kernel
theorem dX0_drawYears_20 : decode cX0_drawYears 20 = .ok (.if_icmp .ge 14, 3) := by decide +kernel
theorem dX0_drawYears_23 : decode cX0_drawYears 23 = .ok (.aload_n 0, 1) := by decide +kernel
theorem dX0_drawYears_24 : decode cX0_drawYears 24 = .ok (.aload_n 1, 1) := by decide +kernel
theorem dX0_drawYears_25 : decode cX0_drawYears 25 = .ok (.invokevirtual 114, 3) := by decide +kernel
theorem dX0_drawYears_28 : decode cX0_drawYears 28 = .ok (.iinc 4 1, 3) := by decide +kernel
theorem dX0_drawYears_31 : decode cX0_drawYears 31 = .ok (.goto (-23), 3) := by decide +kernel
theorem dX0_drawYears_34 : decode cX0_drawYears 34 = .ok (.iload 4, 2) := by decide +kernel
theorem dX0_drawYears_36 : decode cX0_drawYears 36 = .ok (.ireturn, 1) := by decide +kernel
set_option maxRecDepth 20000 in
theorem ggX0_drawYear_X0_draw : GoodIn wsX0_drawYear wsX0_draw := goodIn_r _ [7, 8, 9, 138, 139, 140] rfl (by decide +kernel)
set_option maxRecDepth 20000 in
theorem gX0_drawYear_X0_draw : GoodIn wsX0_drawYear (wsV RX0 117 RX0 yX0_draw wsX0_draw) := goodIn_app (goodIn_of _ (by decide +kernel)) ggX0_drawYear_X0_draw
set_option maxRecDepth 20000 in
theorem ggX0_drawYear_X0_walk : GoodIn wsX0_drawYear wsX0_walk := goodIn_r _ [13, 14, 15, 16, 6, 17, 1, 18, 19, 20, 21, 22, 23, 24, 25, 26, 27, 28, 155, 156, 157, 158, 159, 160, 161, 138, 139, 140, 141, 142, 143, 144, 145, 146, 147, 148, 149, 150, 151, 152, 153, 154] rfl (by decide +kernel)
set_option maxRecDepth 20000 in
theorem gX0_drawYear_X0_walk : GoodIn wsX0_drawYear (wsV RX0 124 RX0 yX0_walk wsX0_walk) := goodIn_app (goodIn_of _ (by decide +kernel)) ggX0_drawYear_X0_walk
set_option maxRecDepth 20000 in
theorem ggX0_drawYear_X9_chances : GoodIn wsX0_drawYear wsX9_chances := goodIn_r _ [32, 23, 33, 141, 142, 143, 144, 145, 146, 147, 148, 149, 150, 151, 152, 153, 154] rfl (by decide +kernel)
set_option maxRecDepth 20000 in
theorem gX0_drawYear_X9_chances : GoodIn wsX0_drawYear (wsV RX0 127 RX9 yX9_chances wsX9_chances) := goodIn_app (goodIn_of _ (by decide +kernel)) ggX0_drawYear_X9_chances
set_option maxRecDepth 20000 in
theorem ggX0_drawYear_X9_flightDrawn : GoodIn wsX0_drawYear wsX9_flightDrawn := goodIn_r _ [37, 23, 33, 141, 142, 143, 144, 145, 146, 147, 148, 149, 150, 151, 152, 153, 154] rfl (by decide +kernel)
set_option maxRecDepth 20000 in
theorem gX0_drawYear_X9_flightDrawn : GoodIn wsX0_drawYear (wsV RX0 131 RX9 yX9_flightDrawn wsX9_flightDrawn) := goodIn_app (goodIn_of _ (by decide +kernel)) ggX0_drawYear_X9_flightDrawn
set_option maxRecDepth 20000 in
theorem ggX0_drawYear_X9_hasFlight : GoodIn wsX0_drawYear wsX9_hasFlight := goodIn_r _ [22, 23, 141, 142, 143, 144, 145, 146, 147, 148, 149, 150, 151, 152, 153, 154] rfl (by decide +kernel)
set_option maxRecDepth 20000 in
theorem gX0_drawYear_X9_hasFlight : GoodIn wsX0_drawYear (wsV RX0 25 RX9 yX9_hasFlight wsX9_hasFlight) := goodIn_app (goodIn_of _ (by decide +kernel)) ggX0_drawYear_X9_hasFlight
set_option maxRecDepth 20000 in
theorem ggX0_drawYear_X1_pitch : GoodIn wsX0_drawYear wsX1_pitch := goodIn_r _ [42, 43, 44, 45, 46, 41, 47, 48, 49, 50, 21, 51, 52, 53, 54, 55, 56, 57, 58, 59, 162, 163, 164, 165, 166, 167, 168, 169, 170, 141, 142, 143, 144, 145, 146, 147, 148, 149, 150, 151, 152, 153, 154, 155, 156, 157, 158, 159, 160, 161] rfl (by decide +kernel)
set_option maxRecDepth 20000 in
theorem gX0_drawYear_X1_pitch : GoodIn wsX0_drawYear (wsV RX0 65 RX1 yX1_pitch wsX1_pitch) := goodIn_app (goodIn_of _ (by decide +kernel)) ggX0_drawYear_X1_pitch
set_option maxRecDepth 20000 in
theorem ggX0_drawYear_X1_listen : GoodIn wsX0_drawYear wsX1_listen := goodIn_r _ [63, 43, 64, 65, 66, 67, 41, 68, 69, 70, 71, 72, 59, 57, 58, 73, 25, 26, 21, 27, 28, 74, 75, 76, 77, 78, 79, 80, 81, 82, 83, 84, 85, 86, 87, 88, 89, 90, 91, 92, 162, 163, 164, 165, 166, 167, 168, 169, 170, 141, 142, 143, 144, 145, 146, 147, 148, 149, 150, 151, 152, 153, 154] rfl (by decide +kernel)
set_option maxRecDepth 20000 in
theorem gX0_drawYear_X1_listen : GoodIn wsX0_drawYear (wsV RX0 134 RX1 yX1_listen wsX1_listen) := goodIn_app (goodIn_of _ (by decide +kernel)) ggX0_drawYear_X1_listen
set_option maxRecDepth 20000 in
theorem ggX0_drawYear_X1_countHonest : GoodIn wsX0_drawYear wsX1_countHonest := goodIn_r _ [96, 64, 97, 98, 99, 41, 100, 43, 101, 102, 103, 104, 57, 80, 81, 82, 21, 83, 84, 105, 106, 107, 108, 109, 110, 111, 112, 113, 114, 115, 116, 162, 163, 164, 165, 166, 167, 168, 169, 170, 141, 142, 143, 144, 145, 146, 147, 148, 149, 150, 151, 152, 153, 154] rfl (by decide +kernel)
set_option maxRecDepth 20000 in
theorem gX0_drawYear_X1_countHonest : GoodIn wsX0_drawYear (wsV RX0 137 RX1 yX1_countHonest wsX1_countHonest) := goodIn_app (goodIn_of _ (by decide +kernel)) ggX0_drawYear_X1_countHonest
set_option maxRecDepth 20000 in
theorem ggX0_drawYear_X0_storeAndEnd : GoodIn wsX0_drawYear wsX0_storeAndEnd := goodIn_r _ [120, 1, 2, 121, 122, 123, 41, 124, 111, 109, 43, 125, 126, 127, 128, 110, 112, 113, 114, 21, 115, 116, 129, 130, 131, 132, 133, 134, 135, 136, 137, 138, 139, 140, 141, 142, 143, 144, 145, 146, 147, 148, 149, 150, 151, 152, 153, 154, 155, 156, 157, 158, 159, 160, 161, 162, 163, 164, 165, 166, 167, 168, 169, 170] rfl (by decide +kernel)
set_option maxRecDepth 20000 in
theorem gX0_drawYear_X0_storeAndEnd : GoodIn wsX0_drawYear (wsV RX0 94 RX0 yX0_storeAndEnd wsX0_storeAndEnd) := goodIn_app (goodIn_of _ (by decide +kernel)) ggX0_drawYear_X0_storeAndEnd
theorem dX0_drawYear_0 : decode cX0_drawYear 0 = .ok (.iconst 0, 1) := by decide +kernel
theorem dX0_drawYear_1 : decode cX0_drawYear 1 = .ok (.istore_n 2, 1) := by decide +kernel
theorem dX0_drawYear_2 : decode cX0_drawYear 2 = .ok (.iload_n 2, 1) := by decide +kernel
theorem dX0_drawYear_3 : decode cX0_drawYear 3 = .ok (.aload_n 0, 1) := by decide +kernel
theorem dX0_drawYear_4 : decode cX0_drawYear 4 = .ok (.getfield 9, 3) := by decide +kernel
theorem dX0_drawYear_7 : decode cX0_drawYear 7 = .ok (.getfield 82, 3) := by decide +kernel
theorem dX0_drawYear_10 : decode cX0_drawYear 10 = .ok (.if_icmp .ge 35, 3) := by decide +kernel
theorem dX0_drawYear_13 : decode cX0_drawYear 13 = .ok (.aload_n 0, 1) := by decide +kernel
theorem dX0_drawYear_14 : decode cX0_drawYear 14 = .ok (.iconst 4, 1) := by decide +kernel
theorem dX0_drawYear_15 : decode cX0_drawYear 15 = .ok (.invokevirtual 117, 3) := by decide +kernel
theorem dX0_drawYear_18 : decode cX0_drawYear 18 = .ok (.ifCond .ne 21, 3) := by decide +kernel
theorem dX0_drawYear_21 : decode cX0_drawYear 21 = .ok (.aload_n 0, 1) := by decide +kernel
theorem dX0_drawYear_22 : decode cX0_drawYear 22 = .ok (.aload_n 1, 1) := by decide +kernel
theorem dX0_drawYear_23 : decode cX0_drawYear 23 = .ok (.iload_n 2, 1) := by decide +kernel
theorem dX0_drawYear_24 : decode cX0_drawYear 24 = .ok (.aload_n 0, 1) := by decide +kernel
theorem dX0_drawYear_25 : decode cX0_drawYear 25 = .ok (.aload_n 0, 1) := by decide +kernel
theorem dX0_drawYear_26 : decode cX0_drawYear 26 = .ok (.getfield 9, 3) := by decide +kernel
theorem dX0_drawYear_29 : decode cX0_drawYear 29 = .ok (.getfield 121, 3) := by decide +kernel
theorem dX0_drawYear_32 : decode cX0_drawYear 32 = .ok (.invokevirtual 117, 3) := by decide +kernel
theorem dX0_drawYear_35 : decode cX0_drawYear 35 = .ok (.invokevirtual 124, 3) := by decide +kernel
theorem dX0_drawYear_38 : decode cX0_drawYear 38 = .ok (.pop, 1) := by decide +kernel
theorem dX0_drawYear_39 : decode cX0_drawYear 39 = .ok (.iinc 2 1, 3) := by decide +kernel
theorem dX0_drawYear_42 : decode cX0_drawYear 42 = .ok (.goto (-40), 3) := by decide +kernel
theorem dX0_drawYear_45 : decode cX0_drawYear 45 = .ok (.aload_n 0, 1) := by decide +kernel
theorem dX0_drawYear_46 : decode cX0_drawYear 46 = .ok (.getfield 9, 3) := by decide +kernel
theorem dX0_drawYear_49 : decode cX0_drawYear 49 = .ok (.aload_n 0, 1) := by decide +kernel
theorem dX0_drawYear_50 : decode cX0_drawYear 50 = .ok (.aload_n 0, 1) := by decide +kernel
theorem dX0_drawYear_51 : decode cX0_drawYear 51 = .ok (.getfield 9, 3) := by decide +kernel
theorem dX0_drawYear_54 : decode cX0_drawYear 54 = .ok (.invokevirtual 127, 3) := by decide +kernel
theorem dX0_drawYear_57 : decode cX0_drawYear 57 = .ok (.invokevirtual 117, 3) := by decide +kernel
theorem dX0_drawYear_60 : decode cX0_drawYear 60 = .ok (.invokevirtual 131, 3) := by decide +kernel
theorem dX0_drawYear_63 : decode cX0_drawYear 63 = .ok (.istore_n 2, 1) := by decide +kernel
theorem dX0_drawYear_64 : decode cX0_drawYear 64 = .ok (.aload_n 0, 1) := by decide +kernel
theorem dX0_drawYear_65 : decode cX0_drawYear 65 = .ok (.getfield 9, 3) := by decide +kernel
theorem dX0_drawYear_68 : decode cX0_drawYear 68 = .ok (.iload_n 2, 1) := by decide +kernel
theorem dX0_drawYear_69 : decode cX0_drawYear 69 = .ok (.invokevirtual 25, 3) := by decide +kernel
theorem dX0_drawYear_72 : decode cX0_drawYear 72 = .ok (.ifCond .ne 4, 3) := by decide +kernel
theorem dX0_drawYear_75 : decode cX0_drawYear 75 = .ok (.return_, 1) := by decide +kernel
theorem dX0_drawYear_76 : decode cX0_drawYear 76 = .ok (.aload_n 0, 1) := by decide +kernel
theorem dX0_drawYear_77 : decode cX0_drawYear 77 = .ok (.getfield 15, 3) := by decide +kernel
theorem dX0_drawYear_80 : decode cX0_drawYear 80 = .ok (.aload_n 1, 1) := by decide +kernel
theorem dX0_drawYear_81 : decode cX0_drawYear 81 = .ok (.invokevirtual 65, 3) := by decide +kernel
theorem dX0_drawYear_84 : decode cX0_drawYear 84 = .ok (.aload_n 0, 1) := by decide +kernel
theorem dX0_drawYear_85 : decode cX0_drawYear 85 = .ok (.getfield 15, 3) := by decide +kernel
theorem dX0_drawYear_88 : decode cX0_drawYear 88 = .ok (.iload_n 2, 1) := by decide +kernel
theorem dX0_drawYear_89 : decode cX0_drawYear 89 = .ok (.invokevirtual 134, 3) := by decide +kernel
theorem dX0_drawYear_92 : decode cX0_drawYear 92 = .ok (.aload_n 0, 1) := by decide +kernel
theorem dX0_drawYear_93 : decode cX0_drawYear 93 = .ok (.getfield 15, 3) := by decide +kernel
theorem dX0_drawYear_96 : decode cX0_drawYear 96 = .ok (.iload_n 2, 1) := by decide +kernel
theorem dX0_drawYear_97 : decode cX0_drawYear 97 = .ok (.invokevirtual 137, 3) := by decide +kernel
theorem dX0_drawYear_100 : decode cX0_drawYear 100 = .ok (.aload_n 0, 1) := by decide +kernel
theorem dX0_drawYear_101 : decode cX0_drawYear 101 = .ok (.aload_n 1, 1) := by decide +kernel
theorem dX0_drawYear_102 : decode cX0_drawYear 102 = .ok (.invokevirtual 94, 3) := by decide +kernel
theorem dX0_drawYear_105 : decode cX0_drawYear 105 = .ok (.return_, 1) := by decide +kernel
theorem dX10_init_0 : decode cX10_init 0 = .ok (.aload_n 0, 1) := by decide +kernel
theorem dX10_init_1 : decode cX10_init 1 = .ok (.invokespecial 3, 3) := by decide +kernel
theorem dX10_init_4 : decode cX10_init 4 = .ok (.aload_n 0, 1) := by decide +kernel
theorem dX10_init_5 : decode cX10_init 5 = .ok (.aload_n 1, 1) := by decide +kernel
theorem dX10_init_6 : decode cX10_init 6 = .ok (.putfield 9, 3) := by decide +kernel
theorem dX10_init_9 : decode cX10_init 9 = .ok (.aload_n 0, 1) := by decide +kernel
theorem dX10_init_10 : decode cX10_init 10 = .ok (.aload_n 2, 1) := by decide +kernel
theorem dX10_init_11 : decode cX10_init 11 = .ok (.putfield 15, 3) := by decide +kernel
theorem dX10_init_14 : decode cX10_init 14 = .ok (.return_, 1) := by decide +kernel
set_option maxRecDepth 20000 in
theorem ggX10_read_X9_clear : GoodIn wsX10_read wsX9_clear := goodIn_r _ [10, 11, 12, 13, 14, 15, 16, 17, 169, 170, 171, 172, 173, 174, 175, 176, 177, 178, 179, 180, 181, 182] rfl (by decide +kernel)
set_option maxRecDepth 20000 in
theorem gX10_read_X9_clear : GoodIn wsX10_read (wsV RX10 19 RX9 yX9_clear wsX9_clear) := goodIn_app (goodIn_of _ (by decide +kernel)) ggX10_read_X9_clear
set_option maxRecDepth 20000 in
theorem ggX10_read_X10_readLine : GoodIn wsX10_read wsX10_readLine := goodIn_r _ [22, 5, 23, 24, 25, 21, 26, 1, 27, 28, 29, 30, 3, 31, 32, 33, 34, 35, 36, 37, 38, 39, 40, 41, 42, 43, 44, 45, 46, 47, 48, 49, 50, 51, 52, 53, 54, 55, 56, 57, 58, 59, 60, 61, 62, 63, 64, 65, 66, 67, 68, 69, 70, 71, 72, 73, 74, 75, 76, 77, 9, 78, 79, 15, 80, 16, 81, 82, 83, 84, 85, 86, 87, 88, 89, 90, 91, 92, 4, 93, 94, 95, 96, 97, 98, 99, 100, 101, 102, 103, 104, 105, 106, 107, 108, 109, 110, 111, 112, 113, 114, 115, 116, 117, 118, 119, 120, 121, 122, 123, 124, 125, 126, 127, 128, 129, 130, 131, 132, 133, 134, 149, 150, 151, 152, 153, 154, 155, 156, 157, 158, 159, 160, 161, 162, 163, 164, 165, 166, 167, 168, 169, 170, 171, 172, 173, 174, 175, 176, 177, 178, 179, 180, 181, 182] rfl (by decide +kernel)
set_option maxRecDepth 20000 in
theorem gX10_read_X10_readLine : GoodIn wsX10_read (wsV RX10 39 RX10 yX10_readLine wsX10_readLine) := goodIn_app (goodIn_of _ (by decide +kernel)) ggX10_read_X10_readLine
set_option maxRecDepth 20000 in
theorem ggX10_read_X8_take : GoodIn wsX10_read wsX8_take := goodIn_r _ [138, 46, 57, 32, 33, 34, 35, 36, 37, 38, 58, 40, 41, 42, 43, 44, 45, 47, 48, 49, 50, 51, 154, 155, 156, 157, 158, 159, 160, 161, 162, 163, 164, 165, 166, 167, 168] rfl (by decide +kernel)
set_option maxRecDepth 20000 in
theorem gX10_read_X8_take : GoodIn wsX10_read (wsV RX10 43 RX8 yX8_take wsX8_take) := goodIn_app (goodIn_of _ (by decide +kernel)) ggX10_read_X8_take
set_option maxRecDepth 20000 in
theorem ggX10_read_X9_noteEchoes : GoodIn wsX10_read wsX9_noteEchoes := goodIn_r _ [142, 16, 143, 144, 145, 146, 147, 9, 148, 169, 170, 171, 172, 173, 174, 175, 176, 177, 178, 179, 180, 181, 182] rfl (by decide +kernel)
set_option maxRecDepth 20000 in
theorem gX10_read_X9_noteEchoes : GoodIn wsX10_read (wsV RX10 47 RX9 yX9_noteEchoes wsX9_noteEchoes) := goodIn_app (goodIn_of _ (by decide +kernel)) ggX10_read_X9_noteEchoes
theorem dX10_read_0 : decode cX10_read 0 = .ok (.aload_n 0, 1) := by decide +kernel
theorem dX10_read_1 : decode cX10_read 1 = .ok (.getfield 15, 3) := by decide +kernel
theorem dX10_read_4 : decode cX10_read 4 = .ok (.invokevirtual 19, 3) := by decide +kernel
theorem dX10_read_7 : decode cX10_read 7 = .ok (.aload_n 0, 1) := by decide +kernel
theorem dX10_read_8 : decode cX10_read 8 = .ok (.iconst 0, 1) := by decide +kernel
theorem dX10_read_9 : decode cX10_read 9 = .ok (.putfield 24, 3) := by decide +kernel
theorem dX10_read_12 : decode cX10_read 12 = .ok (.aload_n 0, 1) := by decide +kernel
theorem dX10_read_13 : decode cX10_read 13 = .ok (.iconst 0, 1) := by decide +kernel
theorem dX10_read_14 : decode cX10_read 14 = .ok (.putfield 28, 3) := by decide +kernel
theorem dX10_read_17 : decode cX10_read 17 = .ok (.aload_n 0, 1) := by decide +kernel
theorem dX10_read_18 : decode cX10_read 18 = .ok (.iconst 0, 1) := by decide +kernel
theorem dX10_read_19 : decode cX10_read 19 = .ok (.putfield 31, 3) := by decide +kernel
theorem dX10_read_22 : decode cX10_read 22 = .ok (.aload_n 0, 1) := by decide +kernel
theorem dX10_read_23 : decode cX10_read 23 = .ok (.getfield 9, 3) := by decide +kernel
theorem dX10_read_26 : decode cX10_read 26 = .ok (.getfield 34, 3) := by decide +kernel
theorem dX10_read_29 : decode cX10_read 29 = .ok (.bipush 48, 2) := by decide +kernel
theorem dX10_read_31 : decode cX10_read 31 = .ok (.if_icmp .eq 47, 3) := by decide +kernel
theorem dX10_read_34 : decode cX10_read 34 = .ok (.aload_n 0, 1) := by decide +kernel
theorem dX10_read_35 : decode cX10_read 35 = .ok (.getfield 24, 3) := by decide +kernel
theorem dX10_read_38 : decode cX10_read 38 = .ok (.sipush 940, 3) := by decide +kernel
theorem dX10_read_41 : decode cX10_read 41 = .ok (.if_icmp .ge 37, 3) := by decide +kernel
theorem dX10_read_44 : decode cX10_read 44 = .ok (.aload_n 0, 1) := by decide +kernel
theorem dX10_read_45 : decode cX10_read 45 = .ok (.invokevirtual 39, 3) := by decide +kernel
theorem dX10_read_48 : decode cX10_read 48 = .ok (.ifCond .eq 15, 3) := by decide +kernel
theorem dX10_read_51 : decode cX10_read 51 = .ok (.aload_n 0, 1) := by decide +kernel
theorem dX10_read_52 : decode cX10_read 52 = .ok (.getfield 9, 3) := by decide +kernel
theorem dX10_read_55 : decode cX10_read 55 = .ok (.bipush 40, 2) := by decide +kernel
theorem dX10_read_57 : decode cX10_read 57 = .ok (.invokevirtual 43, 3) := by decide +kernel
theorem dX10_read_60 : decode cX10_read 60 = .ok (.ifCond .ne 5, 3) := by decide +kernel
theorem dX10_read_63 : decode cX10_read 63 = .ok (.iconst 0, 1) := by decide +kernel
theorem dX10_read_64 : decode cX10_read 64 = .ok (.ireturn, 1) := by decide +kernel
theorem dX10_read_65 : decode cX10_read 65 = .ok (.aload_n 0, 1) := by decide +kernel
theorem dX10_read_66 : decode cX10_read 66 = .ok (.dup, 1) := by decide +kernel
theorem dX10_read_67 : decode cX10_read 67 = .ok (.getfield 24, 3) := by decide +kernel
theorem dX10_read_70 : decode cX10_read 70 = .ok (.iconst 1, 1) := by decide +kernel
theorem dX10_read_71 : decode cX10_read 71 = .ok (.iadd, 1) := by decide +kernel
theorem dX10_read_72 : decode cX10_read 72 = .ok (.putfield 24, 3) := by decide +kernel
theorem dX10_read_75 : decode cX10_read 75 = .ok (.goto (-53), 3) := by decide +kernel
theorem dX10_read_78 : decode cX10_read 78 = .ok (.aload_n 0, 1) := by decide +kernel
theorem dX10_read_79 : decode cX10_read 79 = .ok (.getfield 15, 3) := by decide +kernel
theorem dX10_read_82 : decode cX10_read 82 = .ok (.invokevirtual 47, 3) := by decide +kernel
theorem dX10_read_85 : decode cX10_read 85 = .ok (.iconst 1, 1) := by decide +kernel
theorem dX10_read_86 : decode cX10_read 86 = .ok (.ireturn, 1) := by decide +kernel
set_option maxRecDepth 20000 in
theorem ggX10_readLine_X10_readRidge : GoodIn wsX10_readLine wsX10_readRidge := goodIn_r _ [6, 1, 7, 8, 9, 10, 5, 11, 12, 13, 14, 15, 16, 17, 18, 19, 20, 21, 22, 23, 24, 25, 26, 27, 28, 29, 30, 31, 32, 33, 34, 35, 36, 37, 38, 39, 40, 121, 122, 123, 124, 125, 126, 127, 128, 129, 130, 131, 132, 133, 134, 135, 136, 137, 138, 139, 140, 141, 142, 143, 144, 145, 146, 147, 148, 149, 150, 151, 152, 153, 154] rfl (by decide +kernel)
set_option maxRecDepth 20000 in
theorem gX10_readLine_X10_readRidge : GoodIn wsX10_readLine (wsV RX10 50 RX10 yX10_readRidge wsX10_readRidge) := goodIn_app (goodIn_of _ (by decide +kernel)) ggX10_readLine_X10_readRidge
set_option maxRecDepth 20000 in
theorem ggX10_readLine_X10_readWheat : GoodIn wsX10_readLine wsX10_readWheat := goodIn_r _ [44, 1, 7, 8, 9, 10, 5, 11, 12, 13, 14, 15, 16, 17, 18, 19, 20, 21, 22, 23, 24, 25, 26, 27, 28, 29, 30, 31, 32, 33, 34, 35, 36, 37, 38, 39, 40, 121, 122, 123, 124, 125, 126, 127, 128, 129, 130, 131, 132, 133, 134, 135, 136, 137, 138, 139, 140, 141, 142, 143, 144, 145, 146, 147, 148, 149, 150, 151, 152, 153, 154] rfl (by decide +kernel)
set_option maxRecDepth 20000 in
theorem gX10_readLine_X10_readWheat : GoodIn wsX10_readLine (wsV RX10 53 RX10 yX10_readWheat wsX10_readWheat) := goodIn_app (goodIn_of _ (by decide +kernel)) ggX10_readLine_X10_readWheat
set_option maxRecDepth 20000 in
theorem ggX10_readLine_X10_readWind : GoodIn wsX10_readLine wsX10_readWind := goodIn_r _ [48, 1, 7, 8, 9, 10, 5, 11, 12, 13, 14, 15, 16, 17, 18, 19, 20, 21, 22, 23, 24, 25, 26, 27, 28, 29, 30, 31, 32, 33, 34, 35, 36, 37, 38, 39, 40, 121, 122, 123, 124, 125, 126, 127, 128, 129, 130, 131, 132, 133, 134, 135, 136, 137, 138, 139, 140, 141, 142, 143, 144, 145, 146, 147, 148, 149, 150, 151, 152, 153, 154] rfl (by decide +kernel)
set_option maxRecDepth 20000 in
theorem gX10_readLine_X10_readWind : GoodIn wsX10_readLine (wsV RX10 56 RX10 yX10_readWind wsX10_readWind) := goodIn_app (goodIn_of _ (by decide +kernel)) ggX10_readLine_X10_readWind
set_option maxRecDepth 20000 in
theorem ggX10_readLine_X10_readHill : GoodIn wsX10_readLine wsX10_readHill := goodIn_r _ [52, 7, 1, 13, 14, 15, 16, 17, 18, 19, 20, 21, 22, 23, 24, 25, 26, 27, 28, 29, 30, 31, 32, 33, 53, 54, 55, 5, 56, 57, 58, 59, 60, 61, 62, 63, 64, 65, 66, 67, 68, 69, 70, 71, 72, 73, 34, 35, 36, 37, 38, 39, 40, 121, 122, 123, 124, 125, 141, 142, 143, 144, 145, 146, 147, 148, 149, 150, 151, 152, 153, 154, 126, 127, 128, 129, 130, 131, 132, 133, 134, 135, 136, 137, 138, 139, 140] rfl (by decide +kernel)
set_option maxRecDepth 20000 in
theorem gX10_readLine_X10_readHill : GoodIn wsX10_readLine (wsV RX10 59 RX10 yX10_readHill wsX10_readHill) := goodIn_app (goodIn_of _ (by decide +kernel)) ggX10_readLine_X10_readHill
set_option maxRecDepth 20000 in
theorem ggX10_readLine_X10_readFall : GoodIn wsX10_readLine wsX10_readFall := goodIn_r _ [77, 1, 7, 78, 21, 22, 23, 16, 24, 25, 26, 27, 28, 29, 19, 30, 31, 32, 33, 79, 80, 81, 82, 83, 67, 68, 60, 69, 84, 85, 86, 87, 39, 14, 15, 17, 18, 20, 13, 70, 71, 72, 5, 73, 34, 35, 36, 37, 38, 40, 121, 122, 123, 124, 125, 141, 142, 143, 144, 145, 146, 147, 148, 149, 150, 151, 152, 153, 154, 126, 127, 128, 129, 130, 131, 132, 133, 134, 135, 136, 137, 138, 139, 140] rfl (by decide +kernel)
set_option maxRecDepth 20000 in
theorem gX10_readLine_X10_readFall : GoodIn wsX10_readLine (wsV RX10 62 RX10 yX10_readFall wsX10_readFall) := goodIn_app (goodIn_of _ (by decide +kernel)) ggX10_readLine_X10_readFall
set_option maxRecDepth 20000 in
theorem ggX10_readLine_X10_readMan : GoodIn wsX10_readLine wsX10_readMan := goodIn_r _ [91, 7, 1, 13, 14, 15, 16, 17, 18, 19, 20, 21, 22, 23, 24, 25, 26, 27, 28, 29, 30, 31, 32, 33, 53, 54, 55, 5, 56, 57, 58, 59, 60, 61, 62, 63, 64, 65, 66, 67, 68, 69, 79, 80, 81, 82, 83, 84, 85, 86, 87, 39, 70, 71, 72, 73, 34, 35, 36, 37, 38, 40, 121, 122, 123, 124, 125, 141, 142, 143, 144, 145, 146, 147, 148, 149, 150, 151, 152, 153, 154, 126, 127, 128, 129, 130, 131, 132, 133, 134, 135, 136, 137, 138, 139, 140] rfl (by decide +kernel)
set_option maxRecDepth 20000 in
theorem gX10_readLine_X10_readMan : GoodIn wsX10_readLine (wsV RX10 65 RX10 yX10_readMan wsX10_readMan) := goodIn_app (goodIn_of _ (by decide +kernel)) ggX10_readLine_X10_readMan
set_option maxRecDepth 20000 in
theorem ggX10_readLine_X10_readOld : GoodIn wsX10_readLine wsX10_readOld := goodIn_r _ [95, 7, 96, 97, 98, 5, 99, 1, 21, 22, 23, 16, 24, 25, 26, 27, 28, 29, 19, 30, 31, 32, 33, 100, 101, 102, 103, 83, 67, 68, 60, 69, 84, 85, 86, 87, 39, 14, 15, 17, 18, 20, 13, 121, 122, 123, 124, 125, 141, 142, 143, 144, 145, 146, 147, 148, 149, 150, 151, 152, 153, 154, 126, 127, 128, 129, 130, 131, 132, 133, 134, 135, 136, 137, 138, 139, 140] rfl (by decide +kernel)
set_option maxRecDepth 20000 in
theorem gX10_readLine_X10_readOld : GoodIn wsX10_readLine (wsV RX10 68 RX10 yX10_readOld wsX10_readOld) := goodIn_app (goodIn_of _ (by decide +kernel)) ggX10_readLine_X10_readOld
set_option maxRecDepth 20000 in
theorem ggX10_readLine_X10_readDeaf : GoodIn wsX10_readLine wsX10_readDeaf := goodIn_r _ [107, 1, 7, 96, 97, 98, 5, 99, 21, 22, 23, 16, 24, 25, 26, 27, 28, 29, 19, 30, 31, 32, 33, 100, 101, 102, 103, 83, 67, 68, 60, 69, 84, 85, 86, 87, 39, 14, 15, 17, 18, 20, 13, 121, 122, 123, 124, 125, 141, 142, 143, 144, 145, 146, 147, 148, 149, 150, 151, 152, 153, 154, 126, 127, 128, 129, 130, 131, 132, 133, 134, 135, 136, 137, 138, 139, 140] rfl (by decide +kernel)
set_option maxRecDepth 20000 in
theorem gX10_readLine_X10_readDeaf : GoodIn wsX10_readLine (wsV RX10 71 RX10 yX10_readDeaf wsX10_readDeaf) := goodIn_app (goodIn_of _ (by decide +kernel)) ggX10_readLine_X10_readDeaf
set_option maxRecDepth 20000 in
theorem ggX10_readLine_X10_readNeeds : GoodIn wsX10_readLine wsX10_readNeeds := goodIn_r _ [111, 7, 96, 97, 98, 5, 99, 1, 21, 22, 23, 16, 24, 25, 26, 27, 28, 29, 19, 30, 31, 32, 33, 100, 101, 102, 103, 83, 67, 68, 60, 69, 84, 85, 86, 87, 39, 14, 15, 17, 18, 20, 13, 70, 71, 72, 73, 34, 35, 36, 37, 38, 40, 121, 122, 123, 124, 125, 141, 142, 143, 144, 145, 146, 147, 148, 149, 150, 151, 152, 153, 154, 126, 127, 128, 129, 130, 131, 132, 133, 134, 135, 136, 137, 138, 139, 140] rfl (by decide +kernel)
set_option maxRecDepth 20000 in
theorem gX10_readLine_X10_readNeeds : GoodIn wsX10_readLine (wsV RX10 74 RX10 yX10_readNeeds wsX10_readNeeds) := goodIn_app (goodIn_of _ (by decide +kernel)) ggX10_readLine_X10_readNeeds
set_option maxRecDepth 20000 in
theorem ggX10_readLine_X10_readFlight : GoodIn wsX10_readLine wsX10_readFlight := goodIn_r _ [115, 7, 1, 13, 14, 15, 16, 17, 18, 19, 20, 21, 22, 23, 24, 25, 26, 27, 28, 29, 30, 31, 32, 33, 70, 71, 72, 5, 73, 34, 35, 36, 37, 38, 39, 40, 116, 117, 118, 60, 119, 120, 121, 122, 123, 124, 125, 141, 142, 143, 144, 145, 146, 147, 148, 149, 150, 151, 152, 153, 154, 126, 127, 128, 129, 130, 131, 132, 133, 134, 135, 136, 137, 138, 139, 140] rfl (by decide +kernel)
set_option maxRecDepth 20000 in
theorem gX10_readLine_X10_readFlight : GoodIn wsX10_readLine (wsV RX10 77 RX10 yX10_readFlight wsX10_readFlight) := goodIn_app (goodIn_of _ (by decide +kernel)) ggX10_readLine_X10_readFlight
set_option maxRecDepth 20000 in
theorem ggX10_readLine_X8_blame : GoodIn wsX10_readLine wsX8_blame := goodIn_r _ [17, 18, 19, 20, 126, 127, 128, 129, 130, 131, 132, 133, 134, 135, 136, 137, 138, 139, 140] rfl (by decide +kernel)
set_option maxRecDepth 20000 in
theorem gX10_readLine_X8_blame : GoodIn wsX10_readLine (wsV RX10 80 RX8 yX8_blame wsX8_blame) := goodIn_app (goodIn_of _ (by decide +kernel)) ggX10_readLine_X8_blame
theorem dX10_readLine_0 : decode cX10_readLine 0 = .ok (.aload_n 0, 1) := by decide +kernel
theorem dX10_readLine_1 : decode cX10_readLine 1 = .ok (.getfield 9, 3) := by decide +kernel
theorem dX10_readLine_4 : decode cX10_readLine 4 = .ok (.getfield 34, 3) := by decide +kernel
theorem dX10_readLine_7 : decode cX10_readLine 7 = .ok (.tableswitch 119 0 13 #[69, 74, 79, 119, 119, 119, 119, 84, 89, 94, 99, 104, 109, 114], 69) := by decide +kernel
theorem dX10_readLine_76 : decode cX10_readLine 76 = .ok (.aload_n 0, 1) := by decide +kernel
theorem dX10_readLine_77 : decode cX10_readLine 77 = .ok (.invokevirtual 50, 3) := by decide +kernel
theorem dX10_readLine_80 : decode cX10_readLine 80 = .ok (.ireturn, 1) := by decide +kernel
theorem dX10_readLine_81 : decode cX10_readLine 81 = .ok (.aload_n 0, 1) := by decide +kernel
theorem dX10_readLine_82 : decode cX10_readLine 82 = .ok (.invokevirtual 53, 3) := by decide +kernel
theorem dX10_readLine_85 : decode cX10_readLine 85 = .ok (.ireturn, 1) := by decide +kernel
theorem dX10_readLine_86 : decode cX10_readLine 86 = .ok (.aload_n 0, 1) := by decide +kernel
theorem dX10_readLine_87 : decode cX10_readLine 87 = .ok (.invokevirtual 56, 3) := by decide +kernel
theorem dX10_readLine_90 : decode cX10_readLine 90 = .ok (.ireturn, 1) := by decide +kernel
theorem dX10_readLine_91 : decode cX10_readLine 91 = .ok (.aload_n 0, 1) := by decide +kernel
theorem dX10_readLine_92 : decode cX10_readLine 92 = .ok (.invokevirtual 59, 3) := by decide +kernel
theorem dX10_readLine_95 : decode cX10_readLine 95 = .ok (.ireturn, 1) := by decide +kernel
theorem dX10_readLine_96 : decode cX10_readLine 96 = .ok (.aload_n 0, 1) := by decide +kernel
theorem dX10_readLine_97 : decode cX10_readLine 97 = .ok (.invokevirtual 62, 3) := by decide +kernel
theorem dX10_readLine_100 : decode cX10_readLine 100 = .ok (.ireturn, 1) := by decide +kernel
theorem dX10_readLine_101 : decode cX10_readLine 101 = .ok (.aload_n 0, 1) := by decide +kernel
theorem dX10_readLine_102 : decode cX10_readLine 102 = .ok (.invokevirtual 65, 3) := by decide +kernel
theorem dX10_readLine_105 : decode cX10_readLine 105 = .ok (.ireturn, 1) := by decide +kernel
theorem dX10_readLine_106 : decode cX10_readLine 106 = .ok (.aload_n 0, 1) := by decide +kernel
theorem dX10_readLine_107 : decode cX10_readLine 107 = .ok (.invokevirtual 68, 3) := by decide +kernel
theorem dX10_readLine_110 : decode cX10_readLine 110 = .ok (.ireturn, 1) := by decide +kernel
theorem dX10_readLine_111 : decode cX10_readLine 111 = .ok (.aload_n 0, 1) := by decide +kernel
theorem dX10_readLine_112 : decode cX10_readLine 112 = .ok (.invokevirtual 71, 3) := by decide +kernel
theorem dX10_readLine_115 : decode cX10_readLine 115 = .ok (.ireturn, 1) := by decide +kernel
theorem dX10_readLine_116 : decode cX10_readLine 116 = .ok (.aload_n 0, 1) := by decide +kernel
theorem dX10_readLine_117 : decode cX10_readLine 117 = .ok (.invokevirtual 74, 3) := by decide +kernel
theorem dX10_readLine_120 : decode cX10_readLine 120 = .ok (.ireturn, 1) := by decide +kernel
theorem dX10_readLine_121 : decode cX10_readLine 121 = .ok (.aload_n 0, 1) := by decide +kernel
theorem dX10_readLine_122 : decode cX10_readLine 122 = .ok (.invokevirtual 77, 3) := by decide +kernel
theorem dX10_readLine_125 : decode cX10_readLine 125 = .ok (.ireturn, 1) := by decide +kernel
theorem dX10_readLine_126 : decode cX10_readLine 126 = .ok (.aload_n 0, 1) := by decide +kernel
theorem dX10_readLine_127 : decode cX10_readLine 127 = .ok (.getfield 9, 3) := by decide +kernel
theorem dX10_readLine_130 : decode cX10_readLine 130 = .ok (.iconst 1, 1) := by decide +kernel
theorem dX10_readLine_131 : decode cX10_readLine 131 = .ok (.invokevirtual 80, 3) := by decide +kernel
theorem dX10_readLine_134 : decode cX10_readLine 134 = .ok (.ireturn, 1) := by decide +kernel
set_option maxRecDepth 20000 in
theorem ggX10_takeOnce_X8_blame : GoodIn wsX10_takeOnce wsX8_blame := goodIn_r _ [7, 8, 9, 10, 29, 30, 31, 32, 33, 34, 35, 36, 37, 38, 39, 40, 41, 42, 43] rfl (by decide +kernel)
set_option maxRecDepth 20000 in
theorem gX10_takeOnce_X8_blame : GoodIn wsX10_takeOnce (wsV RX10 80 RX8 yX8_blame wsX8_blame) := goodIn_app (goodIn_of _ (by decide +kernel)) ggX10_takeOnce_X8_blame
set_option maxRecDepth 20000 in
theorem ggX10_takeOnce_X8_next : GoodIn wsX10_takeOnce wsX8_next := goodIn_r _ [14, 15, 16, 17, 18, 19, 9, 20, 21, 22, 23, 29, 30, 31, 32, 33, 34, 35, 36, 37, 38, 39, 40, 41, 42, 43] rfl (by decide +kernel)
set_option maxRecDepth 20000 in
theorem gX10_takeOnce_X8_next : GoodIn wsX10_takeOnce (wsV RX10 83 RX8 yX8_next wsX8_next) := goodIn_app (goodIn_of _ (by decide +kernel)) ggX10_takeOnce_X8_next
theorem dX10_takeOnce_0 : decode cX10_takeOnce 0 = .ok (.iconst 1, 1) := by decide +kernel
theorem dX10_takeOnce_1 : decode cX10_takeOnce 1 = .ok (.aload_n 0, 1) := by decide +kernel
theorem dX10_takeOnce_2 : decode cX10_takeOnce 2 = .ok (.getfield 9, 3) := by decide +kernel
theorem dX10_takeOnce_5 : decode cX10_takeOnce 5 = .ok (.getfield 34, 3) := by decide +kernel
theorem dX10_takeOnce_8 : decode cX10_takeOnce 8 = .ok (.ishl, 1) := by decide +kernel
theorem dX10_takeOnce_9 : decode cX10_takeOnce 9 = .ok (.istore_n 1, 1) := by decide +kernel
theorem dX10_takeOnce_10 : decode cX10_takeOnce 10 = .ok (.aload_n 0, 1) := by decide +kernel
theorem dX10_takeOnce_11 : decode cX10_takeOnce 11 = .ok (.getfield 28, 3) := by decide +kernel
theorem dX10_takeOnce_14 : decode cX10_takeOnce 14 = .ok (.iload_n 1, 1) := by decide +kernel
theorem dX10_takeOnce_15 : decode cX10_takeOnce 15 = .ok (.iand, 1) := by decide +kernel
theorem dX10_takeOnce_16 : decode cX10_takeOnce 16 = .ok (.ifCond .eq 12, 3) := by decide +kernel
theorem dX10_takeOnce_19 : decode cX10_takeOnce 19 = .ok (.aload_n 0, 1) := by decide +kernel
theorem dX10_takeOnce_20 : decode cX10_takeOnce 20 = .ok (.getfield 9, 3) := by decide +kernel
theorem dX10_takeOnce_23 : decode cX10_takeOnce 23 = .ok (.iconst 3, 1) := by decide +kernel
theorem dX10_takeOnce_24 : decode cX10_takeOnce 24 = .ok (.invokevirtual 80, 3) := by decide +kernel
theorem dX10_takeOnce_27 : decode cX10_takeOnce 27 = .ok (.ireturn, 1) := by decide +kernel
theorem dX10_takeOnce_28 : decode cX10_takeOnce 28 = .ok (.aload_n 0, 1) := by decide +kernel
theorem dX10_takeOnce_29 : decode cX10_takeOnce 29 = .ok (.dup, 1) := by decide +kernel
theorem dX10_takeOnce_30 : decode cX10_takeOnce 30 = .ok (.getfield 28, 3) := by decide +kernel
theorem dX10_takeOnce_33 : decode cX10_takeOnce 33 = .ok (.iload_n 1, 1) := by decide +kernel
theorem dX10_takeOnce_34 : decode cX10_takeOnce 34 = .ok (.ior, 1) := by decide +kernel
theorem dX10_takeOnce_35 : decode cX10_takeOnce 35 = .ok (.putfield 28, 3) := by decide +kernel
theorem dX10_takeOnce_38 : decode cX10_takeOnce 38 = .ok (.aload_n 0, 1) := by decide +kernel
theorem dX10_takeOnce_39 : decode cX10_takeOnce 39 = .ok (.getfield 9, 3) := by decide +kernel
theorem dX10_takeOnce_42 : decode cX10_takeOnce 42 = .ok (.invokevirtual 83, 3) := by decide +kernel
theorem dX10_takeOnce_45 : decode cX10_takeOnce 45 = .ok (.iconst 1, 1) := by decide +kernel
theorem dX10_takeOnce_46 : decode cX10_takeOnce 46 = .ok (.ireturn, 1) := by decide +kernel
set_option maxRecDepth 20000 in
theorem ggX10_readRidge_X10_takeOnce : GoodIn wsX10_readRidge wsX10_takeOnce := goodIn_r _ [7, 1, 8, 9, 10, 11, 12, 13, 14, 15, 16, 17, 18, 19, 20, 21, 22, 23, 24, 25, 26, 27, 28, 29, 37, 38, 39, 40, 41, 42, 43, 44, 45, 46, 47, 48, 49, 50, 51, 52, 53, 54, 55, 56] rfl (by decide +kernel)
set_option maxRecDepth 20000 in
theorem gX10_readRidge_X10_takeOnce : GoodIn wsX10_readRidge (wsV RX10 86 RX10 yX10_takeOnce wsX10_takeOnce) := goodIn_app (goodIn_of _ (by decide +kernel)) ggX10_readRidge_X10_takeOnce
set_option maxRecDepth 20000 in
theorem ggX10_readRidge_X8_takeNumber : GoodIn wsX10_readRidge wsX8_takeNumber := goodIn_r _ [33, 24, 27, 34, 35, 10, 11, 12, 13, 14, 15, 16, 36, 18, 19, 20, 21, 22, 23, 25, 26, 28, 29, 42, 43, 44, 45, 46, 47, 48, 49, 50, 51, 52, 53, 54, 55, 56] rfl (by decide +kernel)
set_option maxRecDepth 20000 in
theorem gX10_readRidge_X8_takeNumber : GoodIn wsX10_readRidge (wsV RX10 89 RX8 yX8_takeNumber wsX8_takeNumber) := goodIn_app (goodIn_of _ (by decide +kernel)) ggX10_readRidge_X8_takeNumber
theorem dX10_readRidge_0 : decode cX10_readRidge 0 = .ok (.aload_n 0, 1) := by decide +kernel
theorem dX10_readRidge_1 : decode cX10_readRidge 1 = .ok (.invokevirtual 86, 3) := by decide +kernel
theorem dX10_readRidge_4 : decode cX10_readRidge 4 = .ok (.ifCond .eq 16, 3) := by decide +kernel
theorem dX10_readRidge_7 : decode cX10_readRidge 7 = .ok (.aload_n 0, 1) := by decide +kernel
theorem dX10_readRidge_8 : decode cX10_readRidge 8 = .ok (.getfield 9, 3) := by decide +kernel
theorem dX10_readRidge_11 : decode cX10_readRidge 11 = .ok (.iconst 0, 1) := by decide +kernel
theorem dX10_readRidge_12 : decode cX10_readRidge 12 = .ok (.bipush 20, 2) := by decide +kernel
theorem dX10_readRidge_14 : decode cX10_readRidge 14 = .ok (.invokevirtual 89, 3) := by decide +kernel
theorem dX10_readRidge_17 : decode cX10_readRidge 17 = .ok (.ifCond .ne 5, 3) := by decide +kernel
theorem dX10_readRidge_20 : decode cX10_readRidge 20 = .ok (.iconst 0, 1) := by decide +kernel
theorem dX10_readRidge_21 : decode cX10_readRidge 21 = .ok (.ireturn, 1) := by decide +kernel
theorem dX10_readRidge_22 : decode cX10_readRidge 22 = .ok (.aload_n 0, 1) := by decide +kernel
theorem dX10_readRidge_23 : decode cX10_readRidge 23 = .ok (.getfield 15, 3) := by decide +kernel
theorem dX10_readRidge_26 : decode cX10_readRidge 26 = .ok (.aload_n 0, 1) := by decide +kernel
theorem dX10_readRidge_27 : decode cX10_readRidge 27 = .ok (.getfield 9, 3) := by decide +kernel
theorem dX10_readRidge_30 : decode cX10_readRidge 30 = .ok (.getfield 93, 3) := by decide +kernel
theorem dX10_readRidge_33 : decode cX10_readRidge 33 = .ok (.putfield 96, 3) := by decide +kernel
theorem dX10_readRidge_36 : decode cX10_readRidge 36 = .ok (.iconst 1, 1) := by decide +kernel
theorem dX10_readRidge_37 : decode cX10_readRidge 37 = .ok (.ireturn, 1) := by decide +kernel
set_option maxRecDepth 20000 in
theorem ggX10_readWheat_X10_takeOnce : GoodIn wsX10_readWheat wsX10_takeOnce := goodIn_r _ [7, 1, 8, 9, 10, 11, 12, 13, 14, 15, 16, 17, 18, 19, 20, 21, 22, 23, 24, 25, 26, 27, 28, 29, 37, 38, 39, 40, 41, 42, 43, 44, 45, 46, 47, 48, 49, 50, 51, 52, 53, 54, 55, 56] rfl (by decide +kernel)
set_option maxRecDepth 20000 in
theorem gX10_readWheat_X10_takeOnce : GoodIn wsX10_readWheat (wsV RX10 86 RX10 yX10_takeOnce wsX10_takeOnce) := goodIn_app (goodIn_of _ (by decide +kernel)) ggX10_readWheat_X10_takeOnce
set_option maxRecDepth 20000 in
theorem ggX10_readWheat_X8_takeNumber : GoodIn wsX10_readWheat wsX8_takeNumber := goodIn_r _ [33, 24, 27, 34, 35, 10, 11, 12, 13, 14, 15, 16, 36, 18, 19, 20, 21, 22, 23, 25, 26, 28, 29, 42, 43, 44, 45, 46, 47, 48, 49, 50, 51, 52, 53, 54, 55, 56] rfl (by decide +kernel)
set_option maxRecDepth 20000 in
theorem gX10_readWheat_X8_takeNumber : GoodIn wsX10_readWheat (wsV RX10 89 RX8 yX8_takeNumber wsX8_takeNumber) := goodIn_app (goodIn_of _ (by decide +kernel)) ggX10_readWheat_X8_takeNumber
theorem dX10_readWheat_0 : decode cX10_readWheat 0 = .ok (.aload_n 0, 1) := by decide +kernel
theorem dX10_readWheat_1 : decode cX10_readWheat 1 = .ok (.invokevirtual 86, 3) := by decide +kernel
theorem dX10_readWheat_4 : decode cX10_readWheat 4 = .ok (.ifCond .eq 17, 3) := by decide +kernel
theorem dX10_readWheat_7 : decode cX10_readWheat 7 = .ok (.aload_n 0, 1) := by decide +kernel
theorem dX10_readWheat_8 : decode cX10_readWheat 8 = .ok (.getfield 9, 3) := by decide +kernel
theorem dX10_readWheat_11 : decode cX10_readWheat 11 = .ok (.iconst 0, 1) := by decide +kernel
theorem dX10_readWheat_12 : decode cX10_readWheat 12 = .ok (.sipush 999, 3) := by decide +kernel
theorem dX10_readWheat_15 : decode cX10_readWheat 15 = .ok (.invokevirtual 89, 3) := by decide +kernel
theorem dX10_readWheat_18 : decode cX10_readWheat 18 = .ok (.ifCond .ne 5, 3) := by decide +kernel
theorem dX10_readWheat_21 : decode cX10_readWheat 21 = .ok (.iconst 0, 1) := by decide +kernel
theorem dX10_readWheat_22 : decode cX10_readWheat 22 = .ok (.ireturn, 1) := by decide +kernel
theorem dX10_readWheat_23 : decode cX10_readWheat 23 = .ok (.aload_n 0, 1) := by decide +kernel
theorem dX10_readWheat_24 : decode cX10_readWheat 24 = .ok (.getfield 15, 3) := by decide +kernel
theorem dX10_readWheat_27 : decode cX10_readWheat 27 = .ok (.aload_n 0, 1) := by decide +kernel
theorem dX10_readWheat_28 : decode cX10_readWheat 28 = .ok (.getfield 9, 3) := by decide +kernel
theorem dX10_readWheat_31 : decode cX10_readWheat 31 = .ok (.getfield 93, 3) := by decide +kernel
theorem dX10_readWheat_34 : decode cX10_readWheat 34 = .ok (.putfield 99, 3) := by decide +kernel
theorem dX10_readWheat_37 : decode cX10_readWheat 37 = .ok (.iconst 1, 1) := by decide +kernel
theorem dX10_readWheat_38 : decode cX10_readWheat 38 = .ok (.ireturn, 1) := by decide +kernel
set_option maxRecDepth 20000 in
theorem ggX10_readWind_X10_takeOnce : GoodIn wsX10_readWind wsX10_takeOnce := goodIn_r _ [7, 1, 8, 9, 10, 11, 12, 13, 14, 15, 16, 17, 18, 19, 20, 21, 22, 23, 24, 25, 26, 27, 28, 29, 37, 38, 39, 40, 41, 42, 43, 44, 45, 46, 47, 48, 49, 50, 51, 52, 53, 54, 55, 56] rfl (by decide +kernel)
set_option maxRecDepth 20000 in
theorem gX10_readWind_X10_takeOnce : GoodIn wsX10_readWind (wsV RX10 86 RX10 yX10_takeOnce wsX10_takeOnce) := goodIn_app (goodIn_of _ (by decide +kernel)) ggX10_readWind_X10_takeOnce
set_option maxRecDepth 20000 in
theorem ggX10_readWind_X8_blame : GoodIn wsX10_readWind wsX8_blame := goodIn_r _ [13, 14, 15, 16, 42, 43, 44, 45, 46, 47, 48, 49, 50, 51, 52, 53, 54, 55, 56] rfl (by decide +kernel)
set_option maxRecDepth 20000 in
theorem gX10_readWind_X8_blame : GoodIn wsX10_readWind (wsV RX10 80 RX8 yX8_blame wsX8_blame) := goodIn_app (goodIn_of _ (by decide +kernel)) ggX10_readWind_X8_blame
set_option maxRecDepth 20000 in
theorem ggX10_readWind_X8_next : GoodIn wsX10_readWind wsX8_next := goodIn_r _ [20, 21, 22, 23, 24, 25, 15, 26, 27, 28, 29, 42, 43, 44, 45, 46, 47, 48, 49, 50, 51, 52, 53, 54, 55, 56] rfl (by decide +kernel)
set_option maxRecDepth 20000 in
theorem gX10_readWind_X8_next : GoodIn wsX10_readWind (wsV RX10 83 RX8 yX8_next wsX8_next) := goodIn_app (goodIn_of _ (by decide +kernel)) ggX10_readWind_X8_next
set_option maxRecDepth 20000 in
theorem ggX10_readWind_X8_takeNumber : GoodIn wsX10_readWind wsX8_takeNumber := goodIn_r _ [33, 24, 27, 34, 35, 10, 11, 12, 13, 14, 15, 16, 36, 18, 19, 20, 21, 22, 23, 25, 26, 28, 29, 42, 43, 44, 45, 46, 47, 48, 49, 50, 51, 52, 53, 54, 55, 56] rfl (by decide +kernel)
set_option maxRecDepth 20000 in
theorem gX10_readWind_X8_takeNumber : GoodIn wsX10_readWind (wsV RX10 89 RX8 yX8_takeNumber wsX8_takeNumber) := goodIn_app (goodIn_of _ (by decide +kernel)) ggX10_readWind_X8_takeNumber
theorem dX10_readWind_0 : decode cX10_readWind 0 = .ok (.aload_n 0, 1) := by decide +kernel
theorem dX10_readWind_1 : decode cX10_readWind 1 = .ok (.invokevirtual 86, 3) := by decide +kernel
theorem dX10_readWind_4 : decode cX10_readWind 4 = .ok (.ifCond .ne 5, 3) := by decide +kernel
theorem dX10_readWind_7 : decode cX10_readWind 7 = .ok (.iconst 0, 1) := by decide +kernel
theorem dX10_readWind_8 : decode cX10_readWind 8 = .ok (.ireturn, 1) := by decide +kernel
theorem dX10_readWind_9 : decode cX10_readWind 9 = .ok (.aload_n 0, 1) := by decide +kernel
theorem dX10_readWind_10 : decode cX10_readWind 10 = .ok (.getfield 9, 3) := by decide +kernel
theorem dX10_readWind_13 : decode cX10_readWind 13 = .ok (.getfield 34, 3) := by decide +kernel
theorem dX10_readWind_16 : decode cX10_readWind 16 = .ok (.iconst 3, 1) := by decide +kernel
theorem dX10_readWind_17 : decode cX10_readWind 17 = .ok (.if_icmp .lt 15, 3) := by decide +kernel
theorem dX10_readWind_20 : decode cX10_readWind 20 = .ok (.aload_n 0, 1) := by decide +kernel
theorem dX10_readWind_21 : decode cX10_readWind 21 = .ok (.getfield 9, 3) := by decide +kernel
theorem dX10_readWind_24 : decode cX10_readWind 24 = .ok (.getfield 34, 3) := by decide +kernel
theorem dX10_readWind_27 : decode cX10_readWind 27 = .ok (.bipush 6, 2) := by decide +kernel
theorem dX10_readWind_29 : decode cX10_readWind 29 = .ok (.if_icmp .le 12, 3) := by decide +kernel
theorem dX10_readWind_32 : decode cX10_readWind 32 = .ok (.aload_n 0, 1) := by decide +kernel
theorem dX10_readWind_33 : decode cX10_readWind 33 = .ok (.getfield 9, 3) := by decide +kernel
theorem dX10_readWind_36 : decode cX10_readWind 36 = .ok (.iconst 1, 1) := by decide +kernel
theorem dX10_readWind_37 : decode cX10_readWind 37 = .ok (.invokevirtual 80, 3) := by decide +kernel
theorem dX10_readWind_40 : decode cX10_readWind 40 = .ok (.ireturn, 1) := by decide +kernel
theorem dX10_readWind_41 : decode cX10_readWind 41 = .ok (.aload_n 0, 1) := by decide +kernel
theorem dX10_readWind_42 : decode cX10_readWind 42 = .ok (.getfield 15, 3) := by decide +kernel
theorem dX10_readWind_45 : decode cX10_readWind 45 = .ok (.aload_n 0, 1) := by decide +kernel
theorem dX10_readWind_46 : decode cX10_readWind 46 = .ok (.getfield 9, 3) := by decide +kernel
theorem dX10_readWind_49 : decode cX10_readWind 49 = .ok (.getfield 34, 3) := by decide +kernel
theorem dX10_readWind_52 : decode cX10_readWind 52 = .ok (.putfield 102, 3) := by decide +kernel
theorem dX10_readWind_55 : decode cX10_readWind 55 = .ok (.aload_n 0, 1) := by decide +kernel
theorem dX10_readWind_56 : decode cX10_readWind 56 = .ok (.getfield 9, 3) := by decide +kernel
theorem dX10_readWind_59 : decode cX10_readWind 59 = .ok (.invokevirtual 83, 3) := by decide +kernel
theorem dX10_readWind_62 : decode cX10_readWind 62 = .ok (.aload_n 0, 1) := by decide +kernel
theorem dX10_readWind_63 : decode cX10_readWind 63 = .ok (.getfield 9, 3) := by decide +kernel
theorem dX10_readWind_66 : decode cX10_readWind 66 = .ok (.iconst 0, 1) := by decide +kernel
theorem dX10_readWind_67 : decode cX10_readWind 67 = .ok (.bipush 9, 2) := by decide +kernel
theorem dX10_readWind_69 : decode cX10_readWind 69 = .ok (.invokevirtual 89, 3) := by decide +kernel
theorem dX10_readWind_72 : decode cX10_readWind 72 = .ok (.ifCond .ne 5, 3) := by decide +kernel
theorem dX10_readWind_75 : decode cX10_readWind 75 = .ok (.iconst 0, 1) := by decide +kernel
theorem dX10_readWind_76 : decode cX10_readWind 76 = .ok (.ireturn, 1) := by decide +kernel
theorem dX10_readWind_77 : decode cX10_readWind 77 = .ok (.aload_n 0, 1) := by decide +kernel
theorem dX10_readWind_78 : decode cX10_readWind 78 = .ok (.getfield 15, 3) := by decide +kernel
theorem dX10_readWind_81 : decode cX10_readWind 81 = .ok (.aload_n 0, 1) := by decide +kernel
theorem dX10_readWind_82 : decode cX10_readWind 82 = .ok (.getfield 9, 3) := by decide +kernel
theorem dX10_readWind_85 : decode cX10_readWind 85 = .ok (.getfield 93, 3) := by decide +kernel
theorem dX10_readWind_88 : decode cX10_readWind 88 = .ok (.putfield 105, 3) := by decide +kernel
theorem dX10_readWind_91 : decode cX10_readWind 91 = .ok (.iconst 1, 1) := by decide +kernel
theorem dX10_readWind_92 : decode cX10_readWind 92 = .ok (.ireturn, 1) := by decide +kernel
set_option maxRecDepth 20000 in
theorem ggX10_isNewName_X8_blame : GoodIn wsX10_isNewName wsX8_blame := goodIn_r _ [7, 8, 9, 10, 29, 30, 31, 32, 33, 34, 35, 36, 37, 38, 39, 40, 41, 42, 43] rfl (by decide +kernel)
set_option maxRecDepth 20000 in
theorem gX10_isNewName_X8_blame : GoodIn wsX10_isNewName (wsV RX10 80 RX8 yX8_blame wsX8_blame) := goodIn_app (goodIn_of _ (by decide +kernel)) ggX10_isNewName_X8_blame
set_option maxRecDepth 20000 in
theorem ggX10_isNewName_X9_isTold : GoodIn wsX10_isNewName wsX9_isTold := goodIn_r _ [15, 16, 17, 18, 19, 20, 21, 22, 14, 23, 44, 45, 46, 47, 48, 49, 50, 51, 52, 53, 54, 55, 56, 57] rfl (by decide +kernel)
set_option maxRecDepth 20000 in
theorem gX10_isNewName_X9_isTold : GoodIn wsX10_isNewName (wsV RX10 112 RX9 yX9_isTold wsX9_isTold) := goodIn_app (goodIn_of _ (by decide +kernel)) ggX10_isNewName_X9_isTold
theorem dX10_isNewName_0 : decode cX10_isNewName 0 = .ok (.aload_n 0, 1) := by decide +kernel
theorem dX10_isNewName_1 : decode cX10_isNewName 1 = .ok (.getfield 9, 3) := by decide +kernel
theorem dX10_isNewName_4 : decode cX10_isNewName 4 = .ok (.getfield 34, 3) := by decide +kernel
theorem dX10_isNewName_7 : decode cX10_isNewName 7 = .ok (.bipush 47, 2) := by decide +kernel
theorem dX10_isNewName_9 : decode cX10_isNewName 9 = .ok (.if_icmp .eq 12, 3) := by decide +kernel
theorem dX10_isNewName_12 : decode cX10_isNewName 12 = .ok (.aload_n 0, 1) := by decide +kernel
theorem dX10_isNewName_13 : decode cX10_isNewName 13 = .ok (.getfield 9, 3) := by decide +kernel
theorem dX10_isNewName_16 : decode cX10_isNewName 16 = .ok (.iconst 1, 1) := by decide +kernel
theorem dX10_isNewName_17 : decode cX10_isNewName 17 = .ok (.invokevirtual 80, 3) := by decide +kernel
theorem dX10_isNewName_20 : decode cX10_isNewName 20 = .ok (.ireturn, 1) := by decide +kernel
theorem dX10_isNewName_21 : decode cX10_isNewName 21 = .ok (.aload_n 0, 1) := by decide +kernel
theorem dX10_isNewName_22 : decode cX10_isNewName 22 = .ok (.getfield 15, 3) := by decide +kernel
theorem dX10_isNewName_25 : decode cX10_isNewName 25 = .ok (.aload_n 0, 1) := by decide +kernel
theorem dX10_isNewName_26 : decode cX10_isNewName 26 = .ok (.getfield 9, 3) := by decide +kernel
theorem dX10_isNewName_29 : decode cX10_isNewName 29 = .ok (.getfield 108, 3) := by decide +kernel
theorem dX10_isNewName_32 : decode cX10_isNewName 32 = .ok (.invokevirtual 112, 3) := by decide +kernel
theorem dX10_isNewName_35 : decode cX10_isNewName 35 = .ok (.ifCond .eq 14, 3) := by decide +kernel
theorem dX10_isNewName_38 : decode cX10_isNewName 38 = .ok (.aload_n 0, 1) := by decide +kernel
theorem dX10_isNewName_39 : decode cX10_isNewName 39 = .ok (.getfield 9, 3) := by decide +kernel
theorem dX10_isNewName_42 : decode cX10_isNewName 42 = .ok (.iconst 3, 1) := by decide +kernel
theorem dX10_isNewName_43 : decode cX10_isNewName 43 = .ok (.invokevirtual 80, 3) := by decide +kernel
theorem dX10_isNewName_46 : decode cX10_isNewName 46 = .ok (.ifCond .eq 7, 3) := by decide +kernel
theorem dX10_isNewName_49 : decode cX10_isNewName 49 = .ok (.iconst 1, 1) := by decide +kernel
theorem dX10_isNewName_50 : decode cX10_isNewName 50 = .ok (.goto 4, 3) := by decide +kernel
theorem dX10_isNewName_53 : decode cX10_isNewName 53 = .ok (.iconst 0, 1) := by decide +kernel
theorem dX10_isNewName_54 : decode cX10_isNewName 54 = .ok (.ireturn, 1) := by decide +kernel
set_option maxRecDepth 20000 in
theorem ggX10_readHill_X8_blame : GoodIn wsX10_readHill wsX8_blame := goodIn_r _ [7, 8, 9, 10, 72, 73, 74, 75, 76, 77, 78, 79, 80, 81, 82, 83, 84, 85, 86] rfl (by decide +kernel)
set_option maxRecDepth 20000 in
theorem gX10_readHill_X8_blame : GoodIn wsX10_readHill (wsV RX10 80 RX8 yX8_blame wsX8_blame) := goodIn_app (goodIn_of _ (by decide +kernel)) ggX10_readHill_X8_blame
set_option maxRecDepth 20000 in
theorem ggX10_readHill_X8_next : GoodIn wsX10_readHill wsX8_next := goodIn_r _ [14, 15, 16, 17, 18, 19, 9, 20, 21, 22, 23, 72, 73, 74, 75, 76, 77, 78, 79, 80, 81, 82, 83, 84, 85, 86] rfl (by decide +kernel)
set_option maxRecDepth 20000 in
theorem gX10_readHill_X8_next : GoodIn wsX10_readHill (wsV RX10 83 RX8 yX8_next wsX8_next) := goodIn_app (goodIn_of _ (by decide +kernel)) ggX10_readHill_X8_next
set_option maxRecDepth 20000 in
theorem ggX10_readHill_X10_isNewName : GoodIn wsX10_readHill wsX10_isNewName := goodIn_r _ [28, 2, 1, 3, 4, 5, 6, 7, 8, 9, 10, 29, 30, 31, 32, 33, 34, 35, 36, 37, 38, 39, 40, 41, 53, 54, 55, 56, 57, 72, 73, 74, 75, 76, 77, 78, 79, 80, 81, 82, 83, 84, 85, 86, 58, 59, 60, 61, 62, 63, 64, 65, 66, 67, 68, 69, 70, 71] rfl (by decide +kernel)
set_option maxRecDepth 20000 in
theorem gX10_readHill_X10_isNewName : GoodIn wsX10_readHill (wsV RX10 119 RX10 yX10_isNewName wsX10_isNewName) := goodIn_app (goodIn_of _ (by decide +kernel)) ggX10_readHill_X10_isNewName
set_option maxRecDepth 20000 in
theorem ggX10_readHill_X10_readInto : GoodIn wsX10_readHill wsX10_readInto := goodIn_r _ [45, 2, 46, 47, 48, 6, 49, 18, 21, 50, 51, 4, 5, 7, 8, 9, 10, 52, 12, 13, 14, 15, 16, 17, 19, 20, 22, 23, 53, 54, 55, 56, 57, 72, 73, 74, 75, 76, 77, 78, 79, 80, 81, 82, 83, 84, 85, 86] rfl (by decide +kernel)
set_option maxRecDepth 20000 in
theorem gX10_readHill_X10_readInto : GoodIn wsX10_readHill (wsV RX10 130 RX10 yX10_readInto wsX10_readInto) := goodIn_app (goodIn_of _ (by decide +kernel)) ggX10_readHill_X10_readInto
theorem dX10_readHill_0 : decode cX10_readHill 0 = .ok (.aload_n 0, 1) := by decide +kernel
theorem dX10_readHill_1 : decode cX10_readHill 1 = .ok (.getfield 15, 3) := by decide +kernel
theorem dX10_readHill_4 : decode cX10_readHill 4 = .ok (.getfield 116, 3) := by decide +kernel
theorem dX10_readHill_7 : decode cX10_readHill 7 = .ok (.istore_n 1, 1) := by decide +kernel
theorem dX10_readHill_8 : decode cX10_readHill 8 = .ok (.iload_n 1, 1) := by decide +kernel
theorem dX10_readHill_9 : decode cX10_readHill 9 = .ok (.bipush 8, 2) := by decide +kernel
theorem dX10_readHill_11 : decode cX10_readHill 11 = .ok (.if_icmp .lt 12, 3) := by decide +kernel
theorem dX10_readHill_14 : decode cX10_readHill 14 = .ok (.aload_n 0, 1) := by decide +kernel
theorem dX10_readHill_15 : decode cX10_readHill 15 = .ok (.getfield 9, 3) := by decide +kernel
theorem dX10_readHill_18 : decode cX10_readHill 18 = .ok (.iconst 4, 1) := by decide +kernel
theorem dX10_readHill_19 : decode cX10_readHill 19 = .ok (.invokevirtual 80, 3) := by decide +kernel
theorem dX10_readHill_22 : decode cX10_readHill 22 = .ok (.ireturn, 1) := by decide +kernel
theorem dX10_readHill_23 : decode cX10_readHill 23 = .ok (.aload_n 0, 1) := by decide +kernel
theorem dX10_readHill_24 : decode cX10_readHill 24 = .ok (.getfield 9, 3) := by decide +kernel
theorem dX10_readHill_27 : decode cX10_readHill 27 = .ok (.invokevirtual 83, 3) := by decide +kernel
theorem dX10_readHill_30 : decode cX10_readHill 30 = .ok (.aload_n 0, 1) := by decide +kernel
theorem dX10_readHill_31 : decode cX10_readHill 31 = .ok (.invokevirtual 119, 3) := by decide +kernel
theorem dX10_readHill_34 : decode cX10_readHill 34 = .ok (.ifCond .ne 5, 3) := by decide +kernel
theorem dX10_readHill_37 : decode cX10_readHill 37 = .ok (.iconst 0, 1) := by decide +kernel
theorem dX10_readHill_38 : decode cX10_readHill 38 = .ok (.ireturn, 1) := by decide +kernel
theorem dX10_readHill_39 : decode cX10_readHill 39 = .ok (.aload_n 0, 1) := by decide +kernel
theorem dX10_readHill_40 : decode cX10_readHill 40 = .ok (.getfield 15, 3) := by decide +kernel
theorem dX10_readHill_43 : decode cX10_readHill 43 = .ok (.getfield 122, 3) := by decide +kernel
theorem dX10_readHill_46 : decode cX10_readHill 46 = .ok (.iload_n 1, 1) := by decide +kernel
theorem dX10_readHill_47 : decode cX10_readHill 47 = .ok (.aload_n 0, 1) := by decide +kernel
theorem dX10_readHill_48 : decode cX10_readHill 48 = .ok (.getfield 9, 3) := by decide +kernel
theorem dX10_readHill_51 : decode cX10_readHill 51 = .ok (.getfield 108, 3) := by decide +kernel
theorem dX10_readHill_54 : decode cX10_readHill 54 = .ok (.lastore, 1) := by decide +kernel
theorem dX10_readHill_55 : decode cX10_readHill 55 = .ok (.aload_n 0, 1) := by decide +kernel
theorem dX10_readHill_56 : decode cX10_readHill 56 = .ok (.getfield 15, 3) := by decide +kernel
theorem dX10_readHill_59 : decode cX10_readHill 59 = .ok (.dup, 1) := by decide +kernel
theorem dX10_readHill_60 : decode cX10_readHill 60 = .ok (.getfield 116, 3) := by decide +kernel
theorem dX10_readHill_63 : decode cX10_readHill 63 = .ok (.iconst 1, 1) := by decide +kernel
theorem dX10_readHill_64 : decode cX10_readHill 64 = .ok (.iadd, 1) := by decide +kernel
theorem dX10_readHill_65 : decode cX10_readHill 65 = .ok (.putfield 116, 3) := by decide +kernel
theorem dX10_readHill_68 : decode cX10_readHill 68 = .ok (.aload_n 0, 1) := by decide +kernel
theorem dX10_readHill_69 : decode cX10_readHill 69 = .ok (.getfield 9, 3) := by decide +kernel
theorem dX10_readHill_72 : decode cX10_readHill 72 = .ok (.invokevirtual 83, 3) := by decide +kernel
theorem dX10_readHill_75 : decode cX10_readHill 75 = .ok (.aload_n 0, 1) := by decide +kernel
theorem dX10_readHill_76 : decode cX10_readHill 76 = .ok (.getfield 15, 3) := by decide +kernel
theorem dX10_readHill_79 : decode cX10_readHill 79 = .ok (.getfield 126, 3) := by decide +kernel
theorem dX10_readHill_82 : decode cX10_readHill 82 = .ok (.iload_n 1, 1) := by decide +kernel
theorem dX10_readHill_83 : decode cX10_readHill 83 = .ok (.aaload, 1) := by decide +kernel
theorem dX10_readHill_84 : decode cX10_readHill 84 = .ok (.iconst 2, 1) := by decide +kernel
theorem dX10_readHill_85 : decode cX10_readHill 85 = .ok (.iconst 0, 1) := by decide +kernel
theorem dX10_readHill_86 : decode cX10_readHill 86 = .ok (.iastore, 1) := by decide +kernel
theorem dX10_readHill_87 : decode cX10_readHill 87 = .ok (.aload_n 0, 1) := by decide +kernel
theorem dX10_readHill_88 : decode cX10_readHill 88 = .ok (.aload_n 0, 1) := by decide +kernel
theorem dX10_readHill_89 : decode cX10_readHill 89 = .ok (.getfield 15, 3) := by decide +kernel
theorem dX10_readHill_92 : decode cX10_readHill 92 = .ok (.getfield 126, 3) := by decide +kernel
theorem dX10_readHill_95 : decode cX10_readHill 95 = .ok (.iload_n 1, 1) := by decide +kernel
theorem dX10_readHill_96 : decode cX10_readHill 96 = .ok (.aaload, 1) := by decide +kernel
theorem dX10_readHill_97 : decode cX10_readHill 97 = .ok (.iconst 0, 1) := by decide +kernel
theorem dX10_readHill_98 : decode cX10_readHill 98 = .ok (.iconst 0, 1) := by decide +kernel
theorem dX10_readHill_99 : decode cX10_readHill 99 = .ok (.bipush 20, 2) := by decide +kernel
theorem dX10_readHill_101 : decode cX10_readHill 101 = .ok (.invokevirtual 130, 3) := by decide +kernel
theorem dX10_readHill_104 : decode cX10_readHill 104 = .ok (.ifCond .eq 27, 3) := by decide +kernel
theorem dX10_readHill_107 : decode cX10_readHill 107 = .ok (.aload_n 0, 1) := by decide +kernel
theorem dX10_readHill_108 : decode cX10_readHill 108 = .ok (.aload_n 0, 1) := by decide +kernel
theorem dX10_readHill_109 : decode cX10_readHill 109 = .ok (.getfield 15, 3) := by decide +kernel
theorem dX10_readHill_112 : decode cX10_readHill 112 = .ok (.getfield 126, 3) := by decide +kernel
theorem dX10_readHill_115 : decode cX10_readHill 115 = .ok (.iload_n 1, 1) := by decide +kernel
theorem dX10_readHill_116 : decode cX10_readHill 116 = .ok (.aaload, 1) := by decide +kernel
theorem dX10_readHill_117 : decode cX10_readHill 117 = .ok (.iconst 1, 1) := by decide +kernel
theorem dX10_readHill_118 : decode cX10_readHill 118 = .ok (.iconst 0, 1) := by decide +kernel
theorem dX10_readHill_119 : decode cX10_readHill 119 = .ok (.bipush 20, 2) := by decide +kernel
theorem dX10_readHill_121 : decode cX10_readHill 121 = .ok (.invokevirtual 130, 3) := by decide +kernel
theorem dX10_readHill_124 : decode cX10_readHill 124 = .ok (.ifCond .eq 7, 3) := by decide +kernel
theorem dX10_readHill_127 : decode cX10_readHill 127 = .ok (.iconst 1, 1) := by decide +kernel
theorem dX10_readHill_128 : decode cX10_readHill 128 = .ok (.goto 4, 3) := by decide +kernel
theorem dX10_readHill_131 : decode cX10_readHill 131 = .ok (.iconst 0, 1) := by decide +kernel
theorem dX10_readHill_132 : decode cX10_readHill 132 = .ok (.ireturn, 1) := by decide +kernel
set_option maxRecDepth 20000 in
theorem ggX10_readFall_X8_next : GoodIn wsX10_readFall wsX8_next := goodIn_r _ [8, 9, 10, 11, 12, 13, 14, 15, 16, 17, 18, 69, 70, 71, 72, 73, 74, 75, 76, 77, 78, 79, 80, 81, 82, 83] rfl (by decide +kernel)
set_option maxRecDepth 20000 in
theorem gX10_readFall_X8_next : GoodIn wsX10_readFall (wsV RX10 83 RX8 yX8_next wsX8_next) := goodIn_app (goodIn_of _ (by decide +kernel)) ggX10_readFall_X8_next
set_option maxRecDepth 20000 in
theorem ggX10_readFall_X8_hillHere : GoodIn wsX10_readFall wsX8_hillHere := goodIn_r _ [22, 18, 23, 24, 25, 26, 27, 28, 29, 30, 7, 31, 12, 32, 33, 34, 35, 36, 14, 37, 69, 70, 71, 72, 73, 74, 75, 76, 77, 78, 79, 80, 81, 82, 83, 55, 56, 57, 58, 59, 60, 61, 62, 63, 64, 65, 66, 67, 68] rfl (by decide +kernel)
set_option maxRecDepth 20000 in
theorem gX10_readFall_X8_hillHere : GoodIn wsX10_readFall (wsV RX10 134 RX8 yX8_hillHere wsX8_hillHere) := goodIn_app (goodIn_of _ (by decide +kernel)) ggX10_readFall_X8_hillHere
set_option maxRecDepth 20000 in
theorem ggX10_readFall_X8_blame : GoodIn wsX10_readFall wsX8_blame := goodIn_r _ [35, 36, 14, 37, 69, 70, 71, 72, 73, 74, 75, 76, 77, 78, 79, 80, 81, 82, 83] rfl (by decide +kernel)
set_option maxRecDepth 20000 in
theorem gX10_readFall_X8_blame : GoodIn wsX10_readFall (wsV RX10 80 RX8 yX8_blame wsX8_blame) := goodIn_app (goodIn_of _ (by decide +kernel)) ggX10_readFall_X8_blame
set_option maxRecDepth 20000 in
theorem ggX10_readFall_X10_readInto : GoodIn wsX10_readFall wsX10_readInto := goodIn_r _ [43, 1, 44, 45, 46, 7, 47, 12, 16, 48, 32, 33, 34, 35, 36, 14, 37, 49, 5, 6, 8, 9, 10, 11, 13, 15, 17, 18, 50, 51, 52, 53, 54, 69, 70, 71, 72, 73, 74, 75, 76, 77, 78, 79, 80, 81, 82, 83] rfl (by decide +kernel)
set_option maxRecDepth 20000 in
theorem gX10_readFall_X10_readInto : GoodIn wsX10_readFall (wsV RX10 130 RX10 yX10_readInto wsX10_readInto) := goodIn_app (goodIn_of _ (by decide +kernel)) ggX10_readFall_X10_readInto
theorem dX10_readFall_0 : decode cX10_readFall 0 = .ok (.aload_n 0, 1) := by decide +kernel
theorem dX10_readFall_1 : decode cX10_readFall 1 = .ok (.getfield 9, 3) := by decide +kernel
theorem dX10_readFall_4 : decode cX10_readFall 4 = .ok (.invokevirtual 83, 3) := by decide +kernel
theorem dX10_readFall_7 : decode cX10_readFall 7 = .ok (.aload_n 0, 1) := by decide +kernel
theorem dX10_readFall_8 : decode cX10_readFall 8 = .ok (.getfield 9, 3) := by decide +kernel
theorem dX10_readFall_11 : decode cX10_readFall 11 = .ok (.aload_n 0, 1) := by decide +kernel
theorem dX10_readFall_12 : decode cX10_readFall 12 = .ok (.getfield 15, 3) := by decide +kernel
theorem dX10_readFall_15 : decode cX10_readFall 15 = .ok (.invokevirtual 134, 3) := by decide +kernel
theorem dX10_readFall_18 : decode cX10_readFall 18 = .ok (.istore_n 1, 1) := by decide +kernel
theorem dX10_readFall_19 : decode cX10_readFall 19 = .ok (.iload_n 1, 1) := by decide +kernel
theorem dX10_readFall_20 : decode cX10_readFall 20 = .ok (.iconst (-1), 1) := by decide +kernel
theorem dX10_readFall_21 : decode cX10_readFall 21 = .ok (.if_icmp .ne 5, 3) := by decide +kernel
theorem dX10_readFall_24 : decode cX10_readFall 24 = .ok (.iconst 0, 1) := by decide +kernel
theorem dX10_readFall_25 : decode cX10_readFall 25 = .ok (.ireturn, 1) := by decide +kernel
theorem dX10_readFall_26 : decode cX10_readFall 26 = .ok (.aload_n 0, 1) := by decide +kernel
theorem dX10_readFall_27 : decode cX10_readFall 27 = .ok (.getfield 31, 3) := by decide +kernel
theorem dX10_readFall_30 : decode cX10_readFall 30 = .ok (.iload_n 1, 1) := by decide +kernel
theorem dX10_readFall_31 : decode cX10_readFall 31 = .ok (.ishr, 1) := by decide +kernel
theorem dX10_readFall_32 : decode cX10_readFall 32 = .ok (.iconst 1, 1) := by decide +kernel
theorem dX10_readFall_33 : decode cX10_readFall 33 = .ok (.iand, 1) := by decide +kernel
theorem dX10_readFall_34 : decode cX10_readFall 34 = .ok (.iconst 1, 1) := by decide +kernel
theorem dX10_readFall_35 : decode cX10_readFall 35 = .ok (.if_icmp .ne 12, 3) := by decide +kernel
theorem dX10_readFall_38 : decode cX10_readFall 38 = .ok (.aload_n 0, 1) := by decide +kernel
theorem dX10_readFall_39 : decode cX10_readFall 39 = .ok (.getfield 9, 3) := by decide +kernel
theorem dX10_readFall_42 : decode cX10_readFall 42 = .ok (.iconst 3, 1) := by decide +kernel
theorem dX10_readFall_43 : decode cX10_readFall 43 = .ok (.invokevirtual 80, 3) := by decide +kernel
theorem dX10_readFall_46 : decode cX10_readFall 46 = .ok (.ireturn, 1) := by decide +kernel
theorem dX10_readFall_47 : decode cX10_readFall 47 = .ok (.aload_n 0, 1) := by decide +kernel
theorem dX10_readFall_48 : decode cX10_readFall 48 = .ok (.dup, 1) := by decide +kernel
theorem dX10_readFall_49 : decode cX10_readFall 49 = .ok (.getfield 31, 3) := by decide +kernel
theorem dX10_readFall_52 : decode cX10_readFall 52 = .ok (.iconst 1, 1) := by decide +kernel
theorem dX10_readFall_53 : decode cX10_readFall 53 = .ok (.iload_n 1, 1) := by decide +kernel
theorem dX10_readFall_54 : decode cX10_readFall 54 = .ok (.ishl, 1) := by decide +kernel
theorem dX10_readFall_55 : decode cX10_readFall 55 = .ok (.ior, 1) := by decide +kernel
theorem dX10_readFall_56 : decode cX10_readFall 56 = .ok (.putfield 31, 3) := by decide +kernel
theorem dX10_readFall_59 : decode cX10_readFall 59 = .ok (.aload_n 0, 1) := by decide +kernel
theorem dX10_readFall_60 : decode cX10_readFall 60 = .ok (.getfield 9, 3) := by decide +kernel
theorem dX10_readFall_63 : decode cX10_readFall 63 = .ok (.invokevirtual 83, 3) := by decide +kernel
theorem dX10_readFall_66 : decode cX10_readFall 66 = .ok (.aload_n 0, 1) := by decide +kernel
theorem dX10_readFall_67 : decode cX10_readFall 67 = .ok (.aload_n 0, 1) := by decide +kernel
theorem dX10_readFall_68 : decode cX10_readFall 68 = .ok (.getfield 15, 3) := by decide +kernel
theorem dX10_readFall_71 : decode cX10_readFall 71 = .ok (.getfield 126, 3) := by decide +kernel
theorem dX10_readFall_74 : decode cX10_readFall 74 = .ok (.iload_n 1, 1) := by decide +kernel
theorem dX10_readFall_75 : decode cX10_readFall 75 = .ok (.aaload, 1) := by decide +kernel
theorem dX10_readFall_76 : decode cX10_readFall 76 = .ok (.iconst 2, 1) := by decide +kernel
theorem dX10_readFall_77 : decode cX10_readFall 77 = .ok (.iconst 0, 1) := by decide +kernel
theorem dX10_readFall_78 : decode cX10_readFall 78 = .ok (.bipush 9, 2) := by decide +kernel
theorem dX10_readFall_80 : decode cX10_readFall 80 = .ok (.invokevirtual 130, 3) := by decide +kernel
theorem dX10_readFall_83 : decode cX10_readFall 83 = .ok (.ireturn, 1) := by decide +kernel
set_option maxRecDepth 20000 in
theorem ggX10_readMan_X8_blame : GoodIn wsX10_readMan wsX8_blame := goodIn_r _ [7, 8, 9, 10, 81, 82, 83, 84, 85, 86, 87, 88, 89, 90, 91, 92, 93, 94, 95] rfl (by decide +kernel)
set_option maxRecDepth 20000 in
theorem gX10_readMan_X8_blame : GoodIn wsX10_readMan (wsV RX10 80 RX8 yX8_blame wsX8_blame) := goodIn_app (goodIn_of _ (by decide +kernel)) ggX10_readMan_X8_blame
set_option maxRecDepth 20000 in
theorem ggX10_readMan_X8_next : GoodIn wsX10_readMan wsX8_next := goodIn_r _ [14, 15, 16, 17, 18, 19, 9, 20, 21, 22, 23, 81, 82, 83, 84, 85, 86, 87, 88, 89, 90, 91, 92, 93, 94, 95] rfl (by decide +kernel)
set_option maxRecDepth 20000 in
theorem gX10_readMan_X8_next : GoodIn wsX10_readMan (wsV RX10 83 RX8 yX8_next wsX8_next) := goodIn_app (goodIn_of _ (by decide +kernel)) ggX10_readMan_X8_next
set_option maxRecDepth 20000 in
theorem ggX10_readMan_X10_isNewName : GoodIn wsX10_readMan wsX10_isNewName := goodIn_r _ [28, 2, 1, 3, 4, 5, 6, 7, 8, 9, 10, 29, 30, 31, 32, 33, 34, 35, 36, 37, 38, 39, 40, 41, 62, 63, 64, 65, 66, 81, 82, 83, 84, 85, 86, 87, 88, 89, 90, 91, 92, 93, 94, 95, 67, 68, 69, 70, 71, 72, 73, 74, 75, 76, 77, 78, 79, 80] rfl (by decide +kernel)
set_option maxRecDepth 20000 in
theorem gX10_readMan_X10_isNewName : GoodIn wsX10_readMan (wsV RX10 119 RX10 yX10_isNewName wsX10_isNewName) := goodIn_app (goodIn_of _ (by decide +kernel)) ggX10_readMan_X10_isNewName
set_option maxRecDepth 20000 in
theorem ggX10_readMan_X8_hillHere : GoodIn wsX10_readMan wsX8_hillHere := goodIn_r _ [45, 23, 46, 39, 40, 32, 41, 47, 48, 49, 6, 50, 18, 51, 4, 5, 7, 8, 9, 10, 81, 82, 83, 84, 85, 86, 87, 88, 89, 90, 91, 92, 93, 94, 95, 67, 68, 69, 70, 71, 72, 73, 74, 75, 76, 77, 78, 79, 80] rfl (by decide +kernel)
set_option maxRecDepth 20000 in
theorem gX10_readMan_X8_hillHere : GoodIn wsX10_readMan (wsV RX10 134 RX8 yX8_hillHere wsX8_hillHere) := goodIn_app (goodIn_of _ (by decide +kernel)) ggX10_readMan_X8_hillHere
set_option maxRecDepth 20000 in
theorem ggX10_readMan_X10_readInto : GoodIn wsX10_readMan wsX10_readInto := goodIn_r _ [55, 2, 56, 57, 58, 6, 59, 18, 21, 60, 51, 4, 5, 7, 8, 9, 10, 61, 12, 13, 14, 15, 16, 17, 19, 20, 22, 23, 62, 63, 64, 65, 66, 81, 82, 83, 84, 85, 86, 87, 88, 89, 90, 91, 92, 93, 94, 95] rfl (by decide +kernel)
set_option maxRecDepth 20000 in
theorem gX10_readMan_X10_readInto : GoodIn wsX10_readMan (wsV RX10 130 RX10 yX10_readInto wsX10_readInto) := goodIn_app (goodIn_of _ (by decide +kernel)) ggX10_readMan_X10_readInto
theorem dX10_readMan_0 : decode cX10_readMan 0 = .ok (.aload_n 0, 1) := by decide +kernel
theorem dX10_readMan_1 : decode cX10_readMan 1 = .ok (.getfield 15, 3) := by decide +kernel
theorem dX10_readMan_4 : decode cX10_readMan 4 = .ok (.getfield 138, 3) := by decide +kernel
theorem dX10_readMan_7 : decode cX10_readMan 7 = .ok (.istore_n 1, 1) := by decide +kernel
theorem dX10_readMan_8 : decode cX10_readMan 8 = .ok (.iload_n 1, 1) := by decide +kernel
theorem dX10_readMan_9 : decode cX10_readMan 9 = .ok (.bipush 8, 2) := by decide +kernel
theorem dX10_readMan_11 : decode cX10_readMan 11 = .ok (.if_icmp .lt 12, 3) := by decide +kernel
theorem dX10_readMan_14 : decode cX10_readMan 14 = .ok (.aload_n 0, 1) := by decide +kernel
theorem dX10_readMan_15 : decode cX10_readMan 15 = .ok (.getfield 9, 3) := by decide +kernel
theorem dX10_readMan_18 : decode cX10_readMan 18 = .ok (.iconst 4, 1) := by decide +kernel
theorem dX10_readMan_19 : decode cX10_readMan 19 = .ok (.invokevirtual 80, 3) := by decide +kernel
theorem dX10_readMan_22 : decode cX10_readMan 22 = .ok (.ireturn, 1) := by decide +kernel
theorem dX10_readMan_23 : decode cX10_readMan 23 = .ok (.aload_n 0, 1) := by decide +kernel
theorem dX10_readMan_24 : decode cX10_readMan 24 = .ok (.getfield 9, 3) := by decide +kernel
theorem dX10_readMan_27 : decode cX10_readMan 27 = .ok (.invokevirtual 83, 3) := by decide +kernel
theorem dX10_readMan_30 : decode cX10_readMan 30 = .ok (.aload_n 0, 1) := by decide +kernel
theorem dX10_readMan_31 : decode cX10_readMan 31 = .ok (.invokevirtual 119, 3) := by decide +kernel
theorem dX10_readMan_34 : decode cX10_readMan 34 = .ok (.ifCond .ne 5, 3) := by decide +kernel
theorem dX10_readMan_37 : decode cX10_readMan 37 = .ok (.iconst 0, 1) := by decide +kernel
theorem dX10_readMan_38 : decode cX10_readMan 38 = .ok (.ireturn, 1) := by decide +kernel
theorem dX10_readMan_39 : decode cX10_readMan 39 = .ok (.aload_n 0, 1) := by decide +kernel
theorem dX10_readMan_40 : decode cX10_readMan 40 = .ok (.getfield 15, 3) := by decide +kernel
theorem dX10_readMan_43 : decode cX10_readMan 43 = .ok (.getfield 141, 3) := by decide +kernel
theorem dX10_readMan_46 : decode cX10_readMan 46 = .ok (.iload_n 1, 1) := by decide +kernel
theorem dX10_readMan_47 : decode cX10_readMan 47 = .ok (.aload_n 0, 1) := by decide +kernel
theorem dX10_readMan_48 : decode cX10_readMan 48 = .ok (.getfield 9, 3) := by decide +kernel
theorem dX10_readMan_51 : decode cX10_readMan 51 = .ok (.getfield 108, 3) := by decide +kernel
theorem dX10_readMan_54 : decode cX10_readMan 54 = .ok (.lastore, 1) := by decide +kernel
theorem dX10_readMan_55 : decode cX10_readMan 55 = .ok (.aload_n 0, 1) := by decide +kernel
theorem dX10_readMan_56 : decode cX10_readMan 56 = .ok (.getfield 15, 3) := by decide +kernel
theorem dX10_readMan_59 : decode cX10_readMan 59 = .ok (.dup, 1) := by decide +kernel
theorem dX10_readMan_60 : decode cX10_readMan 60 = .ok (.getfield 138, 3) := by decide +kernel
theorem dX10_readMan_63 : decode cX10_readMan 63 = .ok (.iconst 1, 1) := by decide +kernel
theorem dX10_readMan_64 : decode cX10_readMan 64 = .ok (.iadd, 1) := by decide +kernel
theorem dX10_readMan_65 : decode cX10_readMan 65 = .ok (.putfield 138, 3) := by decide +kernel
theorem dX10_readMan_68 : decode cX10_readMan 68 = .ok (.aload_n 0, 1) := by decide +kernel
theorem dX10_readMan_69 : decode cX10_readMan 69 = .ok (.getfield 9, 3) := by decide +kernel
theorem dX10_readMan_72 : decode cX10_readMan 72 = .ok (.invokevirtual 83, 3) := by decide +kernel
theorem dX10_readMan_75 : decode cX10_readMan 75 = .ok (.aload_n 0, 1) := by decide +kernel
theorem dX10_readMan_76 : decode cX10_readMan 76 = .ok (.getfield 15, 3) := by decide +kernel
theorem dX10_readMan_79 : decode cX10_readMan 79 = .ok (.getfield 144, 3) := by decide +kernel
theorem dX10_readMan_82 : decode cX10_readMan 82 = .ok (.iload_n 1, 1) := by decide +kernel
theorem dX10_readMan_83 : decode cX10_readMan 83 = .ok (.aaload, 1) := by decide +kernel
theorem dX10_readMan_84 : decode cX10_readMan 84 = .ok (.astore_n 2, 1) := by decide +kernel
theorem dX10_readMan_85 : decode cX10_readMan 85 = .ok (.aload_n 2, 1) := by decide +kernel
theorem dX10_readMan_86 : decode cX10_readMan 86 = .ok (.iconst 3, 1) := by decide +kernel
theorem dX10_readMan_87 : decode cX10_readMan 87 = .ok (.iconst 0, 1) := by decide +kernel
theorem dX10_readMan_88 : decode cX10_readMan 88 = .ok (.iastore, 1) := by decide +kernel
theorem dX10_readMan_89 : decode cX10_readMan 89 = .ok (.aload_n 2, 1) := by decide +kernel
theorem dX10_readMan_90 : decode cX10_readMan 90 = .ok (.iconst 4, 1) := by decide +kernel
theorem dX10_readMan_91 : decode cX10_readMan 91 = .ok (.iconst (-1), 1) := by decide +kernel
theorem dX10_readMan_92 : decode cX10_readMan 92 = .ok (.iastore, 1) := by decide +kernel
theorem dX10_readMan_93 : decode cX10_readMan 93 = .ok (.aload_n 2, 1) := by decide +kernel
theorem dX10_readMan_94 : decode cX10_readMan 94 = .ok (.iconst 5, 1) := by decide +kernel
theorem dX10_readMan_95 : decode cX10_readMan 95 = .ok (.iconst (-1), 1) := by decide +kernel
theorem dX10_readMan_96 : decode cX10_readMan 96 = .ok (.iastore, 1) := by decide +kernel
theorem dX10_readMan_97 : decode cX10_readMan 97 = .ok (.aload_n 2, 1) := by decide +kernel
theorem dX10_readMan_98 : decode cX10_readMan 98 = .ok (.iconst 0, 1) := by decide +kernel
theorem dX10_readMan_99 : decode cX10_readMan 99 = .ok (.aload_n 0, 1) := by decide +kernel
theorem dX10_readMan_100 : decode cX10_readMan 100 = .ok (.getfield 9, 3) := by decide +kernel
theorem dX10_readMan_103 : decode cX10_readMan 103 = .ok (.aload_n 0, 1) := by decide +kernel
theorem dX10_readMan_104 : decode cX10_readMan 104 = .ok (.getfield 15, 3) := by decide +kernel
theorem dX10_readMan_107 : decode cX10_readMan 107 = .ok (.invokevirtual 134, 3) := by decide +kernel
theorem dX10_readMan_110 : decode cX10_readMan 110 = .ok (.iastore, 1) := by decide +kernel
theorem dX10_readMan_111 : decode cX10_readMan 111 = .ok (.aload_n 2, 1) := by decide +kernel
theorem dX10_readMan_112 : decode cX10_readMan 112 = .ok (.iconst 0, 1) := by decide +kernel
theorem dX10_readMan_113 : decode cX10_readMan 113 = .ok (.iaload, 1) := by decide +kernel
theorem dX10_readMan_114 : decode cX10_readMan 114 = .ok (.iconst (-1), 1) := by decide +kernel
theorem dX10_readMan_115 : decode cX10_readMan 115 = .ok (.if_icmp .ne 5, 3) := by decide +kernel
theorem dX10_readMan_118 : decode cX10_readMan 118 = .ok (.iconst 0, 1) := by decide +kernel
theorem dX10_readMan_119 : decode cX10_readMan 119 = .ok (.ireturn, 1) := by decide +kernel
theorem dX10_readMan_120 : decode cX10_readMan 120 = .ok (.aload_n 0, 1) := by decide +kernel
theorem dX10_readMan_121 : decode cX10_readMan 121 = .ok (.getfield 9, 3) := by decide +kernel
theorem dX10_readMan_124 : decode cX10_readMan 124 = .ok (.invokevirtual 83, 3) := by decide +kernel
theorem dX10_readMan_127 : decode cX10_readMan 127 = .ok (.aload_n 0, 1) := by decide +kernel
theorem dX10_readMan_128 : decode cX10_readMan 128 = .ok (.aload_n 2, 1) := by decide +kernel
theorem dX10_readMan_129 : decode cX10_readMan 129 = .ok (.iconst 1, 1) := by decide +kernel
theorem dX10_readMan_130 : decode cX10_readMan 130 = .ok (.iconst 0, 1) := by decide +kernel
theorem dX10_readMan_131 : decode cX10_readMan 131 = .ok (.bipush 9, 2) := by decide +kernel
theorem dX10_readMan_133 : decode cX10_readMan 133 = .ok (.invokevirtual 130, 3) := by decide +kernel
theorem dX10_readMan_136 : decode cX10_readMan 136 = .ok (.ifCond .eq 19, 3) := by decide +kernel
theorem dX10_readMan_139 : decode cX10_readMan 139 = .ok (.aload_n 0, 1) := by decide +kernel
theorem dX10_readMan_140 : decode cX10_readMan 140 = .ok (.aload_n 2, 1) := by decide +kernel
theorem dX10_readMan_141 : decode cX10_readMan 141 = .ok (.iconst 2, 1) := by decide +kernel
theorem dX10_readMan_142 : decode cX10_readMan 142 = .ok (.iconst 0, 1) := by decide +kernel
theorem dX10_readMan_143 : decode cX10_readMan 143 = .ok (.bipush 9, 2) := by decide +kernel
theorem dX10_readMan_145 : decode cX10_readMan 145 = .ok (.invokevirtual 130, 3) := by decide +kernel
theorem dX10_readMan_148 : decode cX10_readMan 148 = .ok (.ifCond .eq 7, 3) := by decide +kernel
theorem dX10_readMan_151 : decode cX10_readMan 151 = .ok (.iconst 1, 1) := by decide +kernel
theorem dX10_readMan_152 : decode cX10_readMan 152 = .ok (.goto 4, 3) := by decide +kernel
theorem dX10_readMan_155 : decode cX10_readMan 155 = .ok (.iconst 0, 1) := by decide +kernel
theorem dX10_readMan_156 : decode cX10_readMan 156 = .ok (.ireturn, 1) := by decide +kernel
set_option maxRecDepth 20000 in
theorem ggX10_takeManOnce_X8_next : GoodIn wsX10_takeManOnce wsX8_next := goodIn_r _ [7, 8, 9, 10, 11, 12, 13, 14, 15, 16, 17, 57, 58, 59, 60, 61, 62, 63, 64, 65, 66, 67, 68, 69, 70, 71] rfl (by decide +kernel)
set_option maxRecDepth 20000 in
theorem gX10_takeManOnce_X8_next : GoodIn wsX10_takeManOnce (wsV RX10 83 RX8 yX8_next wsX8_next) := goodIn_app (goodIn_of _ (by decide +kernel)) ggX10_takeManOnce_X8_next
set_option maxRecDepth 20000 in
theorem ggX10_takeManOnce_X8_manHere : GoodIn wsX10_takeManOnce wsX8_manHere := goodIn_r _ [21, 17, 22, 23, 24, 25, 26, 27, 28, 29, 6, 30, 11, 31, 32, 33, 34, 35, 13, 36, 57, 58, 59, 60, 61, 62, 63, 64, 65, 66, 67, 68, 69, 70, 71, 43, 44, 45, 46, 47, 48, 49, 50, 51, 52, 53, 54, 55, 56] rfl (by decide +kernel)
set_option maxRecDepth 20000 in
theorem gX10_takeManOnce_X8_manHere : GoodIn wsX10_takeManOnce (wsV RX10 147 RX8 yX8_manHere wsX8_manHere) := goodIn_app (goodIn_of _ (by decide +kernel)) ggX10_takeManOnce_X8_manHere
set_option maxRecDepth 20000 in
theorem ggX10_takeManOnce_X8_blame : GoodIn wsX10_takeManOnce wsX8_blame := goodIn_r _ [34, 35, 13, 36, 57, 58, 59, 60, 61, 62, 63, 64, 65, 66, 67, 68, 69, 70, 71] rfl (by decide +kernel)
set_option maxRecDepth 20000 in
theorem gX10_takeManOnce_X8_blame : GoodIn wsX10_takeManOnce (wsV RX10 80 RX8 yX8_blame wsX8_blame) := goodIn_app (goodIn_of _ (by decide +kernel)) ggX10_takeManOnce_X8_blame
theorem dX10_takeManOnce_0 : decode cX10_takeManOnce 0 = .ok (.aload_n 0, 1) := by decide +kernel
theorem dX10_takeManOnce_1 : decode cX10_takeManOnce 1 = .ok (.getfield 9, 3) := by decide +kernel
theorem dX10_takeManOnce_4 : decode cX10_takeManOnce 4 = .ok (.invokevirtual 83, 3) := by decide +kernel
theorem dX10_takeManOnce_7 : decode cX10_takeManOnce 7 = .ok (.aload_n 0, 1) := by decide +kernel
theorem dX10_takeManOnce_8 : decode cX10_takeManOnce 8 = .ok (.getfield 9, 3) := by decide +kernel
theorem dX10_takeManOnce_11 : decode cX10_takeManOnce 11 = .ok (.aload_n 0, 1) := by decide +kernel
theorem dX10_takeManOnce_12 : decode cX10_takeManOnce 12 = .ok (.getfield 15, 3) := by decide +kernel
theorem dX10_takeManOnce_15 : decode cX10_takeManOnce 15 = .ok (.invokevirtual 147, 3) := by decide +kernel
theorem dX10_takeManOnce_18 : decode cX10_takeManOnce 18 = .ok (.istore_n 3, 1) := by decide +kernel
theorem dX10_takeManOnce_19 : decode cX10_takeManOnce 19 = .ok (.iload_n 3, 1) := by decide +kernel
theorem dX10_takeManOnce_20 : decode cX10_takeManOnce 20 = .ok (.iconst (-1), 1) := by decide +kernel
theorem dX10_takeManOnce_21 : decode cX10_takeManOnce 21 = .ok (.if_icmp .ne 5, 3) := by decide +kernel
theorem dX10_takeManOnce_24 : decode cX10_takeManOnce 24 = .ok (.iconst (-1), 1) := by decide +kernel
theorem dX10_takeManOnce_25 : decode cX10_takeManOnce 25 = .ok (.ireturn, 1) := by decide +kernel
theorem dX10_takeManOnce_26 : decode cX10_takeManOnce 26 = .ok (.aload_n 0, 1) := by decide +kernel
theorem dX10_takeManOnce_27 : decode cX10_takeManOnce 27 = .ok (.getfield 15, 3) := by decide +kernel
theorem dX10_takeManOnce_30 : decode cX10_takeManOnce 30 = .ok (.getfield 144, 3) := by decide +kernel
theorem dX10_takeManOnce_33 : decode cX10_takeManOnce 33 = .ok (.iload_n 3, 1) := by decide +kernel
theorem dX10_takeManOnce_34 : decode cX10_takeManOnce 34 = .ok (.aaload, 1) := by decide +kernel
theorem dX10_takeManOnce_35 : decode cX10_takeManOnce 35 = .ok (.iload_n 1, 1) := by decide +kernel
theorem dX10_takeManOnce_36 : decode cX10_takeManOnce 36 = .ok (.iaload, 1) := by decide +kernel
theorem dX10_takeManOnce_37 : decode cX10_takeManOnce 37 = .ok (.iload_n 2, 1) := by decide +kernel
theorem dX10_takeManOnce_38 : decode cX10_takeManOnce 38 = .ok (.if_icmp .eq 14, 3) := by decide +kernel
theorem dX10_takeManOnce_41 : decode cX10_takeManOnce 41 = .ok (.aload_n 0, 1) := by decide +kernel
theorem dX10_takeManOnce_42 : decode cX10_takeManOnce 42 = .ok (.getfield 9, 3) := by decide +kernel
theorem dX10_takeManOnce_45 : decode cX10_takeManOnce 45 = .ok (.iconst 3, 1) := by decide +kernel
theorem dX10_takeManOnce_46 : decode cX10_takeManOnce 46 = .ok (.invokevirtual 80, 3) := by decide +kernel
theorem dX10_takeManOnce_49 : decode cX10_takeManOnce 49 = .ok (.pop, 1) := by decide +kernel
theorem dX10_takeManOnce_50 : decode cX10_takeManOnce 50 = .ok (.iconst (-1), 1) := by decide +kernel
theorem dX10_takeManOnce_51 : decode cX10_takeManOnce 51 = .ok (.ireturn, 1) := by decide +kernel
theorem dX10_takeManOnce_52 : decode cX10_takeManOnce 52 = .ok (.aload_n 0, 1) := by decide +kernel
theorem dX10_takeManOnce_53 : decode cX10_takeManOnce 53 = .ok (.getfield 9, 3) := by decide +kernel
theorem dX10_takeManOnce_56 : decode cX10_takeManOnce 56 = .ok (.invokevirtual 83, 3) := by decide +kernel
theorem dX10_takeManOnce_59 : decode cX10_takeManOnce 59 = .ok (.iload_n 3, 1) := by decide +kernel
theorem dX10_takeManOnce_60 : decode cX10_takeManOnce 60 = .ok (.ireturn, 1) := by decide +kernel
set_option maxRecDepth 20000 in
theorem ggX10_readOld_X10_takeManOnce : GoodIn wsX10_readOld wsX10_takeManOnce := goodIn_r _ [6, 7, 1, 8, 9, 10, 11, 12, 13, 14, 15, 16, 17, 18, 19, 20, 21, 22, 23, 24, 25, 26, 27, 28, 29, 30, 31, 32, 33, 34, 35, 36, 37, 38, 39, 40, 41, 42, 43, 44, 45, 46, 47, 48, 49, 50, 51, 52, 53, 54, 55, 56, 57, 58, 59, 60, 61, 62, 63, 64, 65, 66, 67, 68, 69, 70, 71, 72, 73, 74, 75, 76] rfl (by decide +kernel)
set_option maxRecDepth 20000 in
theorem gX10_readOld_X10_takeManOnce : GoodIn wsX10_readOld (wsV RX10 150 RX10 yX10_takeManOnce wsX10_takeManOnce) := goodIn_app (goodIn_of _ (by decide +kernel)) ggX10_readOld_X10_takeManOnce
theorem dX10_readOld_0 : decode cX10_readOld 0 = .ok (.aload_n 0, 1) := by decide +kernel
theorem dX10_readOld_1 : decode cX10_readOld 1 = .ok (.iconst 3, 1) := by decide +kernel
theorem dX10_readOld_2 : decode cX10_readOld 2 = .ok (.iconst 0, 1) := by decide +kernel
theorem dX10_readOld_3 : decode cX10_readOld 3 = .ok (.invokevirtual 150, 3) := by decide +kernel
theorem dX10_readOld_6 : decode cX10_readOld 6 = .ok (.istore_n 1, 1) := by decide +kernel
theorem dX10_readOld_7 : decode cX10_readOld 7 = .ok (.iload_n 1, 1) := by decide +kernel
theorem dX10_readOld_8 : decode cX10_readOld 8 = .ok (.iconst (-1), 1) := by decide +kernel
theorem dX10_readOld_9 : decode cX10_readOld 9 = .ok (.if_icmp .ne 5, 3) := by decide +kernel
theorem dX10_readOld_12 : decode cX10_readOld 12 = .ok (.iconst 0, 1) := by decide +kernel
theorem dX10_readOld_13 : decode cX10_readOld 13 = .ok (.ireturn, 1) := by decide +kernel
theorem dX10_readOld_14 : decode cX10_readOld 14 = .ok (.aload_n 0, 1) := by decide +kernel
theorem dX10_readOld_15 : decode cX10_readOld 15 = .ok (.getfield 15, 3) := by decide +kernel
theorem dX10_readOld_18 : decode cX10_readOld 18 = .ok (.getfield 144, 3) := by decide +kernel
theorem dX10_readOld_21 : decode cX10_readOld 21 = .ok (.iload_n 1, 1) := by decide +kernel
theorem dX10_readOld_22 : decode cX10_readOld 22 = .ok (.aaload, 1) := by decide +kernel
theorem dX10_readOld_23 : decode cX10_readOld 23 = .ok (.iconst 3, 1) := by decide +kernel
theorem dX10_readOld_24 : decode cX10_readOld 24 = .ok (.iconst 1, 1) := by decide +kernel
theorem dX10_readOld_25 : decode cX10_readOld 25 = .ok (.iastore, 1) := by decide +kernel
theorem dX10_readOld_26 : decode cX10_readOld 26 = .ok (.iconst 1, 1) := by decide +kernel
theorem dX10_readOld_27 : decode cX10_readOld 27 = .ok (.ireturn, 1) := by decide +kernel
set_option maxRecDepth 20000 in
theorem ggX10_readDeaf_X10_takeManOnce : GoodIn wsX10_readDeaf wsX10_takeManOnce := goodIn_r _ [7, 1, 2, 8, 9, 10, 11, 12, 13, 14, 15, 16, 17, 18, 19, 20, 21, 22, 23, 24, 25, 26, 27, 28, 29, 30, 31, 32, 33, 34, 35, 36, 37, 38, 39, 40, 41, 42, 43, 44, 45, 46, 47, 48, 49, 50, 51, 52, 53, 54, 55, 56, 57, 58, 59, 60, 61, 62, 63, 64, 65, 66, 67, 68, 69, 70, 71, 72, 73, 74, 75, 76] rfl (by decide +kernel)
set_option maxRecDepth 20000 in
theorem gX10_readDeaf_X10_takeManOnce : GoodIn wsX10_readDeaf (wsV RX10 150 RX10 yX10_takeManOnce wsX10_takeManOnce) := goodIn_app (goodIn_of _ (by decide +kernel)) ggX10_readDeaf_X10_takeManOnce
set_option maxRecDepth 20000 in
theorem ggX10_readDeaf_X8_manHere : GoodIn wsX10_readDeaf wsX8_manHere := goodIn_r _ [26, 22, 27, 28, 29, 30, 31, 32, 33, 34, 11, 35, 16, 36, 37, 38, 39, 40, 18, 41, 62, 63, 64, 65, 66, 67, 68, 69, 70, 71, 72, 73, 74, 75, 76, 48, 49, 50, 51, 52, 53, 54, 55, 56, 57, 58, 59, 60, 61] rfl (by decide +kernel)
set_option maxRecDepth 20000 in
theorem gX10_readDeaf_X8_manHere : GoodIn wsX10_readDeaf (wsV RX10 147 RX8 yX8_manHere wsX8_manHere) := goodIn_app (goodIn_of _ (by decide +kernel)) ggX10_readDeaf_X8_manHere
set_option maxRecDepth 20000 in
theorem ggX10_readDeaf_X8_blame : GoodIn wsX10_readDeaf wsX8_blame := goodIn_r _ [39, 40, 18, 41, 62, 63, 64, 65, 66, 67, 68, 69, 70, 71, 72, 73, 74, 75, 76] rfl (by decide +kernel)
set_option maxRecDepth 20000 in
theorem gX10_readDeaf_X8_blame : GoodIn wsX10_readDeaf (wsV RX10 80 RX8 yX8_blame wsX8_blame) := goodIn_app (goodIn_of _ (by decide +kernel)) ggX10_readDeaf_X8_blame
set_option maxRecDepth 20000 in
theorem ggX10_readDeaf_X8_next : GoodIn wsX10_readDeaf wsX8_next := goodIn_r _ [12, 13, 14, 15, 16, 17, 18, 19, 20, 21, 22, 62, 63, 64, 65, 66, 67, 68, 69, 70, 71, 72, 73, 74, 75, 76] rfl (by decide +kernel)
set_option maxRecDepth 20000 in
theorem gX10_readDeaf_X8_next : GoodIn wsX10_readDeaf (wsV RX10 83 RX8 yX8_next wsX8_next) := goodIn_app (goodIn_of _ (by decide +kernel)) ggX10_readDeaf_X8_next
theorem dX10_readDeaf_0 : decode cX10_readDeaf 0 = .ok (.aload_n 0, 1) := by decide +kernel
theorem dX10_readDeaf_1 : decode cX10_readDeaf 1 = .ok (.iconst 4, 1) := by decide +kernel
theorem dX10_readDeaf_2 : decode cX10_readDeaf 2 = .ok (.iconst (-1), 1) := by decide +kernel
theorem dX10_readDeaf_3 : decode cX10_readDeaf 3 = .ok (.invokevirtual 150, 3) := by decide +kernel
theorem dX10_readDeaf_6 : decode cX10_readDeaf 6 = .ok (.istore_n 1, 1) := by decide +kernel
theorem dX10_readDeaf_7 : decode cX10_readDeaf 7 = .ok (.iload_n 1, 1) := by decide +kernel
theorem dX10_readDeaf_8 : decode cX10_readDeaf 8 = .ok (.iconst (-1), 1) := by decide +kernel
theorem dX10_readDeaf_9 : decode cX10_readDeaf 9 = .ok (.if_icmp .ne 5, 3) := by decide +kernel
theorem dX10_readDeaf_12 : decode cX10_readDeaf 12 = .ok (.iconst 0, 1) := by decide +kernel
theorem dX10_readDeaf_13 : decode cX10_readDeaf 13 = .ok (.ireturn, 1) := by decide +kernel
theorem dX10_readDeaf_14 : decode cX10_readDeaf 14 = .ok (.aload_n 0, 1) := by decide +kernel
theorem dX10_readDeaf_15 : decode cX10_readDeaf 15 = .ok (.getfield 9, 3) := by decide +kernel
theorem dX10_readDeaf_18 : decode cX10_readDeaf 18 = .ok (.aload_n 0, 1) := by decide +kernel
theorem dX10_readDeaf_19 : decode cX10_readDeaf 19 = .ok (.getfield 15, 3) := by decide +kernel
theorem dX10_readDeaf_22 : decode cX10_readDeaf 22 = .ok (.invokevirtual 147, 3) := by decide +kernel
theorem dX10_readDeaf_25 : decode cX10_readDeaf 25 = .ok (.istore_n 2, 1) := by decide +kernel
theorem dX10_readDeaf_26 : decode cX10_readDeaf 26 = .ok (.iload_n 2, 1) := by decide +kernel
theorem dX10_readDeaf_27 : decode cX10_readDeaf 27 = .ok (.iconst (-1), 1) := by decide +kernel
theorem dX10_readDeaf_28 : decode cX10_readDeaf 28 = .ok (.if_icmp .ne 5, 3) := by decide +kernel
theorem dX10_readDeaf_31 : decode cX10_readDeaf 31 = .ok (.iconst 0, 1) := by decide +kernel
theorem dX10_readDeaf_32 : decode cX10_readDeaf 32 = .ok (.ireturn, 1) := by decide +kernel
theorem dX10_readDeaf_33 : decode cX10_readDeaf 33 = .ok (.iload_n 2, 1) := by decide +kernel
theorem dX10_readDeaf_34 : decode cX10_readDeaf 34 = .ok (.iload_n 1, 1) := by decide +kernel
theorem dX10_readDeaf_35 : decode cX10_readDeaf 35 = .ok (.if_icmp .ne 12, 3) := by decide +kernel
theorem dX10_readDeaf_38 : decode cX10_readDeaf 38 = .ok (.aload_n 0, 1) := by decide +kernel
theorem dX10_readDeaf_39 : decode cX10_readDeaf 39 = .ok (.getfield 9, 3) := by decide +kernel
theorem dX10_readDeaf_42 : decode cX10_readDeaf 42 = .ok (.iconst 3, 1) := by decide +kernel
theorem dX10_readDeaf_43 : decode cX10_readDeaf 43 = .ok (.invokevirtual 80, 3) := by decide +kernel
theorem dX10_readDeaf_46 : decode cX10_readDeaf 46 = .ok (.ireturn, 1) := by decide +kernel
theorem dX10_readDeaf_47 : decode cX10_readDeaf 47 = .ok (.aload_n 0, 1) := by decide +kernel
theorem dX10_readDeaf_48 : decode cX10_readDeaf 48 = .ok (.getfield 15, 3) := by decide +kernel
theorem dX10_readDeaf_51 : decode cX10_readDeaf 51 = .ok (.getfield 144, 3) := by decide +kernel
theorem dX10_readDeaf_54 : decode cX10_readDeaf 54 = .ok (.iload_n 1, 1) := by decide +kernel
theorem dX10_readDeaf_55 : decode cX10_readDeaf 55 = .ok (.aaload, 1) := by decide +kernel
theorem dX10_readDeaf_56 : decode cX10_readDeaf 56 = .ok (.iconst 4, 1) := by decide +kernel
theorem dX10_readDeaf_57 : decode cX10_readDeaf 57 = .ok (.iload_n 2, 1) := by decide +kernel
theorem dX10_readDeaf_58 : decode cX10_readDeaf 58 = .ok (.iastore, 1) := by decide +kernel
theorem dX10_readDeaf_59 : decode cX10_readDeaf 59 = .ok (.aload_n 0, 1) := by decide +kernel
theorem dX10_readDeaf_60 : decode cX10_readDeaf 60 = .ok (.getfield 9, 3) := by decide +kernel
theorem dX10_readDeaf_63 : decode cX10_readDeaf 63 = .ok (.invokevirtual 83, 3) := by decide +kernel
theorem dX10_readDeaf_66 : decode cX10_readDeaf 66 = .ok (.iconst 1, 1) := by decide +kernel
theorem dX10_readDeaf_67 : decode cX10_readDeaf 67 = .ok (.ireturn, 1) := by decide +kernel
set_option maxRecDepth 20000 in
theorem ggX10_readNeeds_X10_takeManOnce : GoodIn wsX10_readNeeds wsX10_takeManOnce := goodIn_r _ [6, 7, 1, 8, 9, 10, 11, 12, 13, 14, 15, 16, 17, 18, 19, 20, 21, 22, 23, 24, 25, 26, 27, 28, 29, 30, 31, 32, 33, 34, 35, 36, 37, 38, 39, 40, 41, 42, 53, 54, 55, 56, 57, 58, 59, 60, 61, 62, 63, 64, 65, 66, 67, 68, 69, 70, 71, 72, 73, 74, 75, 76, 77, 78, 79, 80, 81, 82, 83, 84, 85, 86] rfl (by decide +kernel)
set_option maxRecDepth 20000 in
theorem gX10_readNeeds_X10_takeManOnce : GoodIn wsX10_readNeeds (wsV RX10 150 RX10 yX10_takeManOnce wsX10_takeManOnce) := goodIn_app (goodIn_of _ (by decide +kernel)) ggX10_readNeeds_X10_takeManOnce
set_option maxRecDepth 20000 in
theorem ggX10_readNeeds_X10_readInto : GoodIn wsX10_readNeeds wsX10_readInto := goodIn_r _ [46, 7, 47, 48, 49, 11, 50, 16, 20, 51, 36, 37, 38, 39, 40, 18, 41, 52, 9, 10, 12, 13, 14, 15, 17, 19, 21, 22, 53, 54, 55, 56, 57, 72, 73, 74, 75, 76, 77, 78, 79, 80, 81, 82, 83, 84, 85, 86] rfl (by decide +kernel)
set_option maxRecDepth 20000 in
theorem gX10_readNeeds_X10_readInto : GoodIn wsX10_readNeeds (wsV RX10 130 RX10 yX10_readInto wsX10_readInto) := goodIn_app (goodIn_of _ (by decide +kernel)) ggX10_readNeeds_X10_readInto
theorem dX10_readNeeds_0 : decode cX10_readNeeds 0 = .ok (.aload_n 0, 1) := by decide +kernel
theorem dX10_readNeeds_1 : decode cX10_readNeeds 1 = .ok (.iconst 5, 1) := by decide +kernel
theorem dX10_readNeeds_2 : decode cX10_readNeeds 2 = .ok (.iconst (-1), 1) := by decide +kernel
theorem dX10_readNeeds_3 : decode cX10_readNeeds 3 = .ok (.invokevirtual 150, 3) := by decide +kernel
theorem dX10_readNeeds_6 : decode cX10_readNeeds 6 = .ok (.istore_n 1, 1) := by decide +kernel
theorem dX10_readNeeds_7 : decode cX10_readNeeds 7 = .ok (.iload_n 1, 1) := by decide +kernel
theorem dX10_readNeeds_8 : decode cX10_readNeeds 8 = .ok (.iconst (-1), 1) := by decide +kernel
theorem dX10_readNeeds_9 : decode cX10_readNeeds 9 = .ok (.if_icmp .eq 28, 3) := by decide +kernel
theorem dX10_readNeeds_12 : decode cX10_readNeeds 12 = .ok (.aload_n 0, 1) := by decide +kernel
theorem dX10_readNeeds_13 : decode cX10_readNeeds 13 = .ok (.aload_n 0, 1) := by decide +kernel
theorem dX10_readNeeds_14 : decode cX10_readNeeds 14 = .ok (.getfield 15, 3) := by decide +kernel
theorem dX10_readNeeds_17 : decode cX10_readNeeds 17 = .ok (.getfield 144, 3) := by decide +kernel
theorem dX10_readNeeds_20 : decode cX10_readNeeds 20 = .ok (.iload_n 1, 1) := by decide +kernel
theorem dX10_readNeeds_21 : decode cX10_readNeeds 21 = .ok (.aaload, 1) := by decide +kernel
theorem dX10_readNeeds_22 : decode cX10_readNeeds 22 = .ok (.iconst 5, 1) := by decide +kernel
theorem dX10_readNeeds_23 : decode cX10_readNeeds 23 = .ok (.iconst 0, 1) := by decide +kernel
theorem dX10_readNeeds_24 : decode cX10_readNeeds 24 = .ok (.sipush 999, 3) := by decide +kernel
theorem dX10_readNeeds_27 : decode cX10_readNeeds 27 = .ok (.invokevirtual 130, 3) := by decide +kernel
theorem dX10_readNeeds_30 : decode cX10_readNeeds 30 = .ok (.ifCond .eq 7, 3) := by decide +kernel
theorem dX10_readNeeds_33 : decode cX10_readNeeds 33 = .ok (.iconst 1, 1) := by decide +kernel
theorem dX10_readNeeds_34 : decode cX10_readNeeds 34 = .ok (.goto 4, 3) := by decide +kernel
theorem dX10_readNeeds_37 : decode cX10_readNeeds 37 = .ok (.iconst 0, 1) := by decide +kernel
theorem dX10_readNeeds_38 : decode cX10_readNeeds 38 = .ok (.ireturn, 1) := by decide +kernel
set_option maxRecDepth 20000 in
theorem ggX10_readFlight_X8_blame : GoodIn wsX10_readFlight wsX8_blame := goodIn_r _ [7, 8, 9, 10, 61, 62, 63, 64, 65, 66, 67, 68, 69, 70, 71, 72, 73, 74, 75] rfl (by decide +kernel)
set_option maxRecDepth 20000 in
theorem gX10_readFlight_X8_blame : GoodIn wsX10_readFlight (wsV RX10 80 RX8 yX8_blame wsX8_blame) := goodIn_app (goodIn_of _ (by decide +kernel)) ggX10_readFlight_X8_blame
set_option maxRecDepth 20000 in
theorem ggX10_readFlight_X8_next : GoodIn wsX10_readFlight wsX8_next := goodIn_r _ [14, 15, 16, 17, 18, 19, 9, 20, 21, 22, 23, 61, 62, 63, 64, 65, 66, 67, 68, 69, 70, 71, 72, 73, 74, 75] rfl (by decide +kernel)
set_option maxRecDepth 20000 in
theorem gX10_readFlight_X8_next : GoodIn wsX10_readFlight (wsV RX10 83 RX8 yX8_next wsX8_next) := goodIn_app (goodIn_of _ (by decide +kernel)) ggX10_readFlight_X8_next
set_option maxRecDepth 20000 in
theorem ggX10_readFlight_X10_readInto : GoodIn wsX10_readFlight wsX10_readInto := goodIn_r _ [28, 2, 29, 30, 31, 6, 32, 18, 21, 33, 34, 4, 5, 7, 8, 9, 10, 35, 12, 13, 14, 15, 16, 17, 19, 20, 22, 23, 42, 43, 44, 45, 46, 61, 62, 63, 64, 65, 66, 67, 68, 69, 70, 71, 72, 73, 74, 75] rfl (by decide +kernel)
set_option maxRecDepth 20000 in
theorem gX10_readFlight_X10_readInto : GoodIn wsX10_readFlight (wsV RX10 130 RX10 yX10_readInto wsX10_readInto) := goodIn_app (goodIn_of _ (by decide +kernel)) ggX10_readFlight_X10_readInto
set_option maxRecDepth 20000 in
theorem ggX10_readFlight_X9_callRow : GoodIn wsX10_readFlight wsX9_callRow := goodIn_r _ [40, 41, 47, 48, 49, 50, 51, 52, 53, 54, 55, 56, 57, 58, 59, 60] rfl (by decide +kernel)
set_option maxRecDepth 20000 in
theorem gX10_readFlight_X9_callRow : GoodIn wsX10_readFlight (wsV RX10 160 RX9 yX9_callRow wsX9_callRow) := goodIn_app (goodIn_of _ (by decide +kernel)) ggX10_readFlight_X9_callRow
theorem dX10_readFlight_0 : decode cX10_readFlight 0 = .ok (.aload_n 0, 1) := by decide +kernel
theorem dX10_readFlight_1 : decode cX10_readFlight 1 = .ok (.getfield 15, 3) := by decide +kernel
theorem dX10_readFlight_4 : decode cX10_readFlight 4 = .ok (.getfield 154, 3) := by decide +kernel
theorem dX10_readFlight_7 : decode cX10_readFlight 7 = .ok (.istore_n 1, 1) := by decide +kernel
theorem dX10_readFlight_8 : decode cX10_readFlight 8 = .ok (.iload_n 1, 1) := by decide +kernel
theorem dX10_readFlight_9 : decode cX10_readFlight 9 = .ok (.iconst 4, 1) := by decide +kernel
theorem dX10_readFlight_10 : decode cX10_readFlight 10 = .ok (.if_icmp .lt 12, 3) := by decide +kernel
theorem dX10_readFlight_13 : decode cX10_readFlight 13 = .ok (.aload_n 0, 1) := by decide +kernel
theorem dX10_readFlight_14 : decode cX10_readFlight 14 = .ok (.getfield 9, 3) := by decide +kernel
theorem dX10_readFlight_17 : decode cX10_readFlight 17 = .ok (.iconst 4, 1) := by decide +kernel
theorem dX10_readFlight_18 : decode cX10_readFlight 18 = .ok (.invokevirtual 80, 3) := by decide +kernel
theorem dX10_readFlight_21 : decode cX10_readFlight 21 = .ok (.ireturn, 1) := by decide +kernel
theorem dX10_readFlight_22 : decode cX10_readFlight 22 = .ok (.aload_n 0, 1) := by decide +kernel
theorem dX10_readFlight_23 : decode cX10_readFlight 23 = .ok (.getfield 15, 3) := by decide +kernel
theorem dX10_readFlight_26 : decode cX10_readFlight 26 = .ok (.dup, 1) := by decide +kernel
theorem dX10_readFlight_27 : decode cX10_readFlight 27 = .ok (.getfield 154, 3) := by decide +kernel
theorem dX10_readFlight_30 : decode cX10_readFlight 30 = .ok (.iconst 1, 1) := by decide +kernel
theorem dX10_readFlight_31 : decode cX10_readFlight 31 = .ok (.iadd, 1) := by decide +kernel
theorem dX10_readFlight_32 : decode cX10_readFlight 32 = .ok (.putfield 154, 3) := by decide +kernel
theorem dX10_readFlight_35 : decode cX10_readFlight 35 = .ok (.aload_n 0, 1) := by decide +kernel
theorem dX10_readFlight_36 : decode cX10_readFlight 36 = .ok (.getfield 9, 3) := by decide +kernel
theorem dX10_readFlight_39 : decode cX10_readFlight 39 = .ok (.invokevirtual 83, 3) := by decide +kernel
theorem dX10_readFlight_42 : decode cX10_readFlight 42 = .ok (.aload_n 0, 1) := by decide +kernel
theorem dX10_readFlight_43 : decode cX10_readFlight 43 = .ok (.getfield 15, 3) := by decide +kernel
theorem dX10_readFlight_46 : decode cX10_readFlight 46 = .ok (.getfield 157, 3) := by decide +kernel
theorem dX10_readFlight_49 : decode cX10_readFlight 49 = .ok (.iload_n 1, 1) := by decide +kernel
theorem dX10_readFlight_50 : decode cX10_readFlight 50 = .ok (.aaload, 1) := by decide +kernel
theorem dX10_readFlight_51 : decode cX10_readFlight 51 = .ok (.astore_n 2, 1) := by decide +kernel
theorem dX10_readFlight_52 : decode cX10_readFlight 52 = .ok (.aload_n 2, 1) := by decide +kernel
theorem dX10_readFlight_53 : decode cX10_readFlight 53 = .ok (.iconst 2, 1) := by decide +kernel
theorem dX10_readFlight_54 : decode cX10_readFlight 54 = .ok (.iconst 0, 1) := by decide +kernel
theorem dX10_readFlight_55 : decode cX10_readFlight 55 = .ok (.iastore, 1) := by decide +kernel
theorem dX10_readFlight_56 : decode cX10_readFlight 56 = .ok (.aload_n 0, 1) := by decide +kernel
theorem dX10_readFlight_57 : decode cX10_readFlight 57 = .ok (.aload_n 2, 1) := by decide +kernel
theorem dX10_readFlight_58 : decode cX10_readFlight 58 = .ok (.iconst 0, 1) := by decide +kernel
theorem dX10_readFlight_59 : decode cX10_readFlight 59 = .ok (.iconst 1, 1) := by decide +kernel
theorem dX10_readFlight_60 : decode cX10_readFlight 60 = .ok (.bipush 9, 2) := by decide +kernel
theorem dX10_readFlight_62 : decode cX10_readFlight 62 = .ok (.invokevirtual 130, 3) := by decide +kernel
theorem dX10_readFlight_65 : decode cX10_readFlight 65 = .ok (.ifCond .eq 15, 3) := by decide +kernel
theorem dX10_readFlight_68 : decode cX10_readFlight 68 = .ok (.aload_n 0, 1) := by decide +kernel
theorem dX10_readFlight_69 : decode cX10_readFlight 69 = .ok (.aload_n 2, 1) := by decide +kernel
theorem dX10_readFlight_70 : decode cX10_readFlight 70 = .ok (.iconst 1, 1) := by decide +kernel
theorem dX10_readFlight_71 : decode cX10_readFlight 71 = .ok (.iconst 0, 1) := by decide +kernel
theorem dX10_readFlight_72 : decode cX10_readFlight 72 = .ok (.bipush 20, 2) := by decide +kernel
theorem dX10_readFlight_74 : decode cX10_readFlight 74 = .ok (.invokevirtual 130, 3) := by decide +kernel
theorem dX10_readFlight_77 : decode cX10_readFlight 77 = .ok (.ifCond .ne 5, 3) := by decide +kernel
theorem dX10_readFlight_80 : decode cX10_readFlight 80 = .ok (.iconst 0, 1) := by decide +kernel
theorem dX10_readFlight_81 : decode cX10_readFlight 81 = .ok (.ireturn, 1) := by decide +kernel
theorem dX10_readFlight_82 : decode cX10_readFlight 82 = .ok (.iconst 0, 1) := by decide +kernel
theorem dX10_readFlight_83 : decode cX10_readFlight 83 = .ok (.istore_n 3, 1) := by decide +kernel
theorem dX10_readFlight_84 : decode cX10_readFlight 84 = .ok (.iconst 0, 1) := by decide +kernel
theorem dX10_readFlight_85 : decode cX10_readFlight 85 = .ok (.istore 4, 2) := by decide +kernel
theorem dX10_readFlight_87 : decode cX10_readFlight 87 = .ok (.iload 4, 2) := by decide +kernel
theorem dX10_readFlight_89 : decode cX10_readFlight 89 = .ok (.bipush 10, 2) := by decide +kernel
theorem dX10_readFlight_91 : decode cX10_readFlight 91 = .ok (.if_icmp .gt 104, 3) := by decide +kernel
theorem dX10_readFlight_94 : decode cX10_readFlight 94 = .ok (.aload_n 0, 1) := by decide +kernel
theorem dX10_readFlight_95 : decode cX10_readFlight 95 = .ok (.getfield 9, 3) := by decide +kernel
theorem dX10_readFlight_98 : decode cX10_readFlight 98 = .ok (.getfield 34, 3) := by decide +kernel
theorem dX10_readFlight_101 : decode cX10_readFlight 101 = .ok (.bipush 46, 2) := by decide +kernel
theorem dX10_readFlight_103 : decode cX10_readFlight 103 = .ok (.if_icmp .ne 92, 3) := by decide +kernel
theorem dX10_readFlight_106 : decode cX10_readFlight 106 = .ok (.iload 4, 2) := by decide +kernel
theorem dX10_readFlight_108 : decode cX10_readFlight 108 = .ok (.bipush 10, 2) := by decide +kernel
theorem dX10_readFlight_110 : decode cX10_readFlight 110 = .ok (.if_icmp .ne 12, 3) := by decide +kernel
theorem dX10_readFlight_113 : decode cX10_readFlight 113 = .ok (.aload_n 0, 1) := by decide +kernel
theorem dX10_readFlight_114 : decode cX10_readFlight 114 = .ok (.getfield 9, 3) := by decide +kernel
theorem dX10_readFlight_117 : decode cX10_readFlight 117 = .ok (.iconst 4, 1) := by decide +kernel
theorem dX10_readFlight_118 : decode cX10_readFlight 118 = .ok (.invokevirtual 80, 3) := by decide +kernel
theorem dX10_readFlight_121 : decode cX10_readFlight 121 = .ok (.ireturn, 1) := by decide +kernel
theorem dX10_readFlight_122 : decode cX10_readFlight 122 = .ok (.aload_n 0, 1) := by decide +kernel
theorem dX10_readFlight_123 : decode cX10_readFlight 123 = .ok (.getfield 15, 3) := by decide +kernel
theorem dX10_readFlight_126 : decode cX10_readFlight 126 = .ok (.iload_n 1, 1) := by decide +kernel
theorem dX10_readFlight_127 : decode cX10_readFlight 127 = .ok (.iload 4, 2) := by decide +kernel
theorem dX10_readFlight_129 : decode cX10_readFlight 129 = .ok (.invokevirtual 160, 3) := by decide +kernel
theorem dX10_readFlight_132 : decode cX10_readFlight 132 = .ok (.astore 5, 2) := by decide +kernel
theorem dX10_readFlight_134 : decode cX10_readFlight 134 = .ok (.aload_n 0, 1) := by decide +kernel
theorem dX10_readFlight_135 : decode cX10_readFlight 135 = .ok (.aload 5, 2) := by decide +kernel
theorem dX10_readFlight_137 : decode cX10_readFlight 137 = .ok (.iconst 0, 1) := by decide +kernel
theorem dX10_readFlight_138 : decode cX10_readFlight 138 = .ok (.iload_n 3, 1) := by decide +kernel
theorem dX10_readFlight_139 : decode cX10_readFlight 139 = .ok (.bipush 99, 2) := by decide +kernel
theorem dX10_readFlight_141 : decode cX10_readFlight 141 = .ok (.invokevirtual 130, 3) := by decide +kernel
theorem dX10_readFlight_144 : decode cX10_readFlight 144 = .ok (.ifCond .eq 29, 3) := by decide +kernel
theorem dX10_readFlight_147 : decode cX10_readFlight 147 = .ok (.aload_n 0, 1) := by decide +kernel
theorem dX10_readFlight_148 : decode cX10_readFlight 148 = .ok (.aload 5, 2) := by decide +kernel
theorem dX10_readFlight_150 : decode cX10_readFlight 150 = .ok (.iconst 1, 1) := by decide +kernel
theorem dX10_readFlight_151 : decode cX10_readFlight 151 = .ok (.iconst 0, 1) := by decide +kernel
theorem dX10_readFlight_152 : decode cX10_readFlight 152 = .ok (.bipush 20, 2) := by decide +kernel
theorem dX10_readFlight_154 : decode cX10_readFlight 154 = .ok (.invokevirtual 130, 3) := by decide +kernel
theorem dX10_readFlight_157 : decode cX10_readFlight 157 = .ok (.ifCond .eq 16, 3) := by decide +kernel
theorem dX10_readFlight_160 : decode cX10_readFlight 160 = .ok (.aload_n 0, 1) := by decide +kernel
theorem dX10_readFlight_161 : decode cX10_readFlight 161 = .ok (.aload 5, 2) := by decide +kernel
theorem dX10_readFlight_163 : decode cX10_readFlight 163 = .ok (.iconst 2, 1) := by decide +kernel
theorem dX10_readFlight_164 : decode cX10_readFlight 164 = .ok (.iconst 0, 1) := by decide +kernel
theorem dX10_readFlight_165 : decode cX10_readFlight 165 = .ok (.bipush 20, 2) := by decide +kernel
theorem dX10_readFlight_167 : decode cX10_readFlight 167 = .ok (.invokevirtual 130, 3) := by decide +kernel
theorem dX10_readFlight_170 : decode cX10_readFlight 170 = .ok (.ifCond .ne 5, 3) := by decide +kernel
theorem dX10_readFlight_173 : decode cX10_readFlight 173 = .ok (.iconst 0, 1) := by decide +kernel
theorem dX10_readFlight_174 : decode cX10_readFlight 174 = .ok (.ireturn, 1) := by decide +kernel
theorem dX10_readFlight_175 : decode cX10_readFlight 175 = .ok (.aload 5, 2) := by decide +kernel
theorem dX10_readFlight_177 : decode cX10_readFlight 177 = .ok (.iconst 0, 1) := by decide +kernel
theorem dX10_readFlight_178 : decode cX10_readFlight 178 = .ok (.iaload, 1) := by decide +kernel
theorem dX10_readFlight_179 : decode cX10_readFlight 179 = .ok (.iconst 1, 1) := by decide +kernel
theorem dX10_readFlight_180 : decode cX10_readFlight 180 = .ok (.iadd, 1) := by decide +kernel
theorem dX10_readFlight_181 : decode cX10_readFlight 181 = .ok (.istore_n 3, 1) := by decide +kernel
theorem dX10_readFlight_182 : decode cX10_readFlight 182 = .ok (.aload_n 2, 1) := by decide +kernel
theorem dX10_readFlight_183 : decode cX10_readFlight 183 = .ok (.iconst 2, 1) := by decide +kernel
theorem dX10_readFlight_184 : decode cX10_readFlight 184 = .ok (.dup2, 1) := by decide +kernel
theorem dX10_readFlight_185 : decode cX10_readFlight 185 = .ok (.iaload, 1) := by decide +kernel
theorem dX10_readFlight_186 : decode cX10_readFlight 186 = .ok (.iconst 1, 1) := by decide +kernel
theorem dX10_readFlight_187 : decode cX10_readFlight 187 = .ok (.iadd, 1) := by decide +kernel
theorem dX10_readFlight_188 : decode cX10_readFlight 188 = .ok (.iastore, 1) := by decide +kernel
theorem dX10_readFlight_189 : decode cX10_readFlight 189 = .ok (.iinc 4 1, 3) := by decide +kernel
theorem dX10_readFlight_192 : decode cX10_readFlight 192 = .ok (.goto (-105), 3) := by decide +kernel
theorem dX10_readFlight_195 : decode cX10_readFlight 195 = .ok (.iconst 1, 1) := by decide +kernel
theorem dX10_readFlight_196 : decode cX10_readFlight 196 = .ok (.ireturn, 1) := by decide +kernel
set_option maxRecDepth 20000 in
theorem ggX10_readInto_X8_takeNumber : GoodIn wsX10_readInto wsX8_takeNumber := goodIn_r _ [6, 7, 8, 9, 10, 11, 12, 5, 13, 14, 15, 16, 17, 18, 19, 20, 21, 22, 23, 24, 25, 26, 27, 33, 34, 35, 36, 37, 38, 39, 40, 41, 42, 43, 44, 45, 46, 47] rfl (by decide +kernel)
set_option maxRecDepth 20000 in
theorem gX10_readInto_X8_takeNumber : GoodIn wsX10_readInto (wsV RX10 89 RX8 yX8_takeNumber wsX8_takeNumber) := goodIn_app (goodIn_of _ (by decide +kernel)) ggX10_readInto_X8_takeNumber
theorem dX10_readInto_0 : decode cX10_readInto 0 = .ok (.iload_n 2, 1) := by decide +kernel
theorem dX10_readInto_1 : decode cX10_readInto 1 = .ok (.ifCond .lt 22, 3) := by decide +kernel
theorem dX10_readInto_4 : decode cX10_readInto 4 = .ok (.iload_n 2, 1) := by decide +kernel
theorem dX10_readInto_5 : decode cX10_readInto 5 = .ok (.aload_n 1, 1) := by decide +kernel
theorem dX10_readInto_6 : decode cX10_readInto 6 = .ok (.arraylength, 1) := by decide +kernel
theorem dX10_readInto_7 : decode cX10_readInto 7 = .ok (.if_icmp .ge 16, 3) := by decide +kernel
theorem dX10_readInto_10 : decode cX10_readInto 10 = .ok (.aload_n 0, 1) := by decide +kernel
theorem dX10_readInto_11 : decode cX10_readInto 11 = .ok (.getfield 9, 3) := by decide +kernel
theorem dX10_readInto_14 : decode cX10_readInto 14 = .ok (.iload_n 3, 1) := by decide +kernel
theorem dX10_readInto_15 : decode cX10_readInto 15 = .ok (.iload 4, 2) := by decide +kernel
theorem dX10_readInto_17 : decode cX10_readInto 17 = .ok (.invokevirtual 89, 3) := by decide +kernel
theorem dX10_readInto_20 : decode cX10_readInto 20 = .ok (.ifCond .ne 5, 3) := by decide +kernel
theorem dX10_readInto_23 : decode cX10_readInto 23 = .ok (.iconst 0, 1) := by decide +kernel
theorem dX10_readInto_24 : decode cX10_readInto 24 = .ok (.ireturn, 1) := by decide +kernel
theorem dX10_readInto_25 : decode cX10_readInto 25 = .ok (.aload_n 1, 1) := by decide +kernel
theorem dX10_readInto_26 : decode cX10_readInto 26 = .ok (.iload_n 2, 1) := by decide +kernel
theorem dX10_readInto_27 : decode cX10_readInto 27 = .ok (.aload_n 0, 1) := by decide +kernel
theorem dX10_readInto_28 : decode cX10_readInto 28 = .ok (.getfield 9, 3) := by decide +kernel
theorem dX10_readInto_31 : decode cX10_readInto 31 = .ok (.getfield 93, 3) := by decide +kernel
theorem dX10_readInto_34 : decode cX10_readInto 34 = .ok (.iastore, 1) := by decide +kernel
theorem dX10_readInto_35 : decode cX10_readInto 35 = .ok (.iconst 1, 1) := by decide +kernel
theorem dX10_readInto_36 : decode cX10_readInto 36 = .ok (.ireturn, 1) := by decide +kernel
theorem dX5_init_0 : decode cX5_init 0 = .ok (.aload_n 0, 1) := by decide +kernel
theorem dX5_init_1 : decode cX5_init 1 = .ok (.invokespecial 3, 3) := by decide +kernel
theorem dX5_init_4 : decode cX5_init 4 = .ok (.aload_n 0, 1) := by decide +kernel
theorem dX5_init_5 : decode cX5_init 5 = .ok (.bipush 40, 2) := by decide +kernel
theorem dX5_init_7 : decode cX5_init 7 = .ok (.newarray .int, 2) := by decide +kernel
theorem dX5_init_9 : decode cX5_init 9 = .ok (.putfield 9, 3) := by decide +kernel
theorem dX5_init_12 : decode cX5_init 12 = .ok (.aload_n 0, 1) := by decide +kernel
theorem dX5_init_13 : decode cX5_init 13 = .ok (.bipush 40, 2) := by decide +kernel
theorem dX5_init_15 : decode cX5_init 15 = .ok (.newarray .int, 2) := by decide +kernel
theorem dX5_init_17 : decode cX5_init 17 = .ok (.putfield 15, 3) := by decide +kernel
theorem dX5_init_20 : decode cX5_init 20 = .ok (.aload_n 0, 1) := by decide +kernel
theorem dX5_init_21 : decode cX5_init 21 = .ok (.bipush 40, 2) := by decide +kernel
theorem dX5_init_23 : decode cX5_init 23 = .ok (.newarray .int, 2) := by decide +kernel
theorem dX5_init_25 : decode cX5_init 25 = .ok (.putfield 18, 3) := by decide +kernel
theorem dX5_init_28 : decode cX5_init 28 = .ok (.aload_n 0, 1) := by decide +kernel
theorem dX5_init_29 : decode cX5_init 29 = .ok (.aload_n 1, 1) := by decide +kernel
theorem dX5_init_30 : decode cX5_init 30 = .ok (.putfield 21, 3) := by decide +kernel
theorem dX5_init_33 : decode cX5_init 33 = .ok (.aload_n 0, 1) := by decide +kernel
theorem dX5_init_34 : decode cX5_init 34 = .ok (.aload_n 2, 1) := by decide +kernel
theorem dX5_init_35 : decode cX5_init 35 = .ok (.putfield 25, 3) := by decide +kernel
theorem dX5_init_38 : decode cX5_init 38 = .ok (.aload_n 0, 1) := by decide +kernel
theorem dX5_init_39 : decode cX5_init 39 = .ok (.aload_n 3, 1) := by decide +kernel
theorem dX5_init_40 : decode cX5_init 40 = .ok (.putfield 29, 3) := by decide +kernel
theorem dX5_init_43 : decode cX5_init 43 = .ok (.return_, 1) := by decide +kernel
set_option maxRecDepth 20000 in
theorem ggX5_read_X5_readLine : GoodIn wsX5_read wsX5_readLine := goodIn_r _ [7, 2, 8, 1, 9, 10, 11, 12, 13, 14, 15, 16, 17, 18, 19, 20, 21, 22, 23, 24, 25, 26, 27, 28, 29, 30, 31, 32, 33, 34, 35, 36, 37, 38, 39, 40, 41, 42, 43, 44, 45, 46, 6, 47, 48, 49, 50, 51, 52, 53, 54, 55, 56, 57, 58, 59, 60, 61, 62, 63, 64, 69, 70, 71, 72, 73, 74, 75, 76, 77, 78, 79, 80, 81, 82, 83, 84, 85, 86, 87, 88, 89, 90, 91, 92, 93, 94, 95, 96, 97, 98, 99, 100, 101, 102, 103, 104, 105] rfl (by decide +kernel)
set_option maxRecDepth 20000 in
theorem gX5_read_X5_readLine : GoodIn wsX5_read (wsV RX5 42 RX5 yX5_readLine wsX5_readLine) := goodIn_app (goodIn_of _ (by decide +kernel)) ggX5_read_X5_readLine
set_option maxRecDepth 20000 in
theorem ggX5_read_X8_take : GoodIn wsX5_read wsX8_take := goodIn_r _ [68, 24, 25, 26, 27, 12, 28, 29, 30, 31, 53, 34, 35, 36, 37, 38, 39, 40, 41, 42, 43, 14, 77, 78, 79, 80, 81, 82, 83, 84, 85, 86, 87, 88, 89, 90, 91] rfl (by decide +kernel)
set_option maxRecDepth 20000 in
theorem gX5_read_X8_take : GoodIn wsX5_read (wsV RX5 46 RX8 yX8_take wsX8_take) := goodIn_app (goodIn_of _ (by decide +kernel)) ggX5_read_X8_take
theorem dX5_read_0 : decode cX5_read 0 = .ok (.aload_n 0, 1) := by decide +kernel
theorem dX5_read_1 : decode cX5_read 1 = .ok (.iconst 0, 1) := by decide +kernel
theorem dX5_read_2 : decode cX5_read 2 = .ok (.putfield 33, 3) := by decide +kernel
theorem dX5_read_5 : decode cX5_read 5 = .ok (.aload_n 0, 1) := by decide +kernel
theorem dX5_read_6 : decode cX5_read 6 = .ok (.getfield 21, 3) := by decide +kernel
theorem dX5_read_9 : decode cX5_read 9 = .ok (.getfield 37, 3) := by decide +kernel
theorem dX5_read_12 : decode cX5_read 12 = .ok (.bipush 48, 2) := by decide +kernel
theorem dX5_read_14 : decode cX5_read 14 = .ok (.if_icmp .eq 46, 3) := by decide +kernel
theorem dX5_read_17 : decode cX5_read 17 = .ok (.aload_n 0, 1) := by decide +kernel
theorem dX5_read_18 : decode cX5_read 18 = .ok (.getfield 33, 3) := by decide +kernel
theorem dX5_read_21 : decode cX5_read 21 = .ok (.bipush 40, 2) := by decide +kernel
theorem dX5_read_23 : decode cX5_read 23 = .ok (.if_icmp .gt 37, 3) := by decide +kernel
theorem dX5_read_26 : decode cX5_read 26 = .ok (.aload_n 0, 1) := by decide +kernel
theorem dX5_read_27 : decode cX5_read 27 = .ok (.invokevirtual 42, 3) := by decide +kernel
theorem dX5_read_30 : decode cX5_read 30 = .ok (.ifCond .eq 15, 3) := by decide +kernel
theorem dX5_read_33 : decode cX5_read 33 = .ok (.aload_n 0, 1) := by decide +kernel
theorem dX5_read_34 : decode cX5_read 34 = .ok (.getfield 21, 3) := by decide +kernel
theorem dX5_read_37 : decode cX5_read 37 = .ok (.bipush 40, 2) := by decide +kernel
theorem dX5_read_39 : decode cX5_read 39 = .ok (.invokevirtual 46, 3) := by decide +kernel
theorem dX5_read_42 : decode cX5_read 42 = .ok (.ifCond .ne 5, 3) := by decide +kernel
theorem dX5_read_45 : decode cX5_read 45 = .ok (.iconst 0, 1) := by decide +kernel
theorem dX5_read_46 : decode cX5_read 46 = .ok (.ireturn, 1) := by decide +kernel
theorem dX5_read_47 : decode cX5_read 47 = .ok (.aload_n 0, 1) := by decide +kernel
theorem dX5_read_48 : decode cX5_read 48 = .ok (.dup, 1) := by decide +kernel
theorem dX5_read_49 : decode cX5_read 49 = .ok (.getfield 33, 3) := by decide +kernel
theorem dX5_read_52 : decode cX5_read 52 = .ok (.iconst 1, 1) := by decide +kernel
theorem dX5_read_53 : decode cX5_read 53 = .ok (.iadd, 1) := by decide +kernel
theorem dX5_read_54 : decode cX5_read 54 = .ok (.putfield 33, 3) := by decide +kernel
theorem dX5_read_57 : decode cX5_read 57 = .ok (.goto (-52), 3) := by decide +kernel
theorem dX5_read_60 : decode cX5_read 60 = .ok (.iconst 1, 1) := by decide +kernel
theorem dX5_read_61 : decode cX5_read 61 = .ok (.ireturn, 1) := by decide +kernel
set_option maxRecDepth 20000 in
theorem ggX5_readLine_X8_manHere : GoodIn wsX5_readLine wsX8_manHere := goodIn_r _ [8, 9, 10, 11, 12, 13, 14, 15, 16, 17, 7, 18, 19, 20, 21, 22, 23, 24, 25, 26, 69, 70, 71, 72, 73, 74, 75, 76, 77, 78, 79, 80, 81, 82, 83, 84, 85, 86, 87, 88, 89, 90, 91, 92, 93, 94, 95, 96, 97] rfl (by decide +kernel)
set_option maxRecDepth 20000 in
theorem gX5_readLine_X8_manHere : GoodIn wsX5_readLine (wsV RX5 50 RX8 yX8_manHere wsX8_manHere) := goodIn_app (goodIn_of _ (by decide +kernel)) ggX5_readLine_X8_manHere
set_option maxRecDepth 20000 in
theorem ggX5_readLine_X8_blame : GoodIn wsX5_readLine wsX8_blame := goodIn_r _ [23, 24, 25, 26, 69, 70, 71, 72, 73, 74, 75, 76, 77, 78, 79, 80, 81, 82, 83] rfl (by decide +kernel)
set_option maxRecDepth 20000 in
theorem gX5_readLine_X8_blame : GoodIn wsX5_readLine (wsV RX5 54 RX8 yX8_blame wsX8_blame) := goodIn_app (goodIn_of _ (by decide +kernel)) ggX5_readLine_X8_blame
set_option maxRecDepth 20000 in
theorem ggX5_readLine_X8_next : GoodIn wsX5_readLine wsX8_next := goodIn_r _ [31, 32, 33, 34, 19, 35, 25, 36, 37, 38, 9, 69, 70, 71, 72, 73, 74, 75, 76, 77, 78, 79, 80, 81, 82, 83] rfl (by decide +kernel)
set_option maxRecDepth 20000 in
theorem gX5_readLine_X8_next : GoodIn wsX5_readLine (wsV RX5 57 RX8 yX8_next wsX8_next) := goodIn_app (goodIn_of _ (by decide +kernel)) ggX5_readLine_X8_next
set_option maxRecDepth 20000 in
theorem ggX5_readLine_X5_readActOf : GoodIn wsX5_readLine wsX5_readActOf := goodIn_r _ [43, 1, 2, 27, 21, 22, 7, 23, 24, 25, 26, 28, 29, 30, 31, 32, 33, 34, 19, 35, 36, 37, 38, 9, 44, 45, 46, 47, 48, 20, 49, 50, 51, 52, 42, 53, 3, 54, 55, 56, 57, 58, 59, 60, 10, 11, 12, 13, 14, 15, 16, 17, 18, 4, 5, 6, 8, 61, 62, 63, 64, 65, 66, 67, 68, 69, 70, 71, 72, 73, 74, 75, 76, 77, 78, 79, 80, 81, 82, 83, 84, 85, 86, 87, 88, 89, 90, 91, 92, 93, 94, 95, 96, 97] rfl (by decide +kernel)
set_option maxRecDepth 20000 in
theorem gX5_readLine_X5_readActOf : GoodIn wsX5_readLine (wsV RX5 60 RX5 yX5_readActOf wsX5_readActOf) := goodIn_app (goodIn_of _ (by decide +kernel)) ggX5_readLine_X5_readActOf
set_option maxRecDepth 20000 in
theorem ggX5_readLine_X5_note : GoodIn wsX5_readLine wsX5_note := goodIn_r _ [53, 3, 54, 55, 56, 61, 62, 63, 64, 65, 66, 67, 68] rfl (by decide +kernel)
set_option maxRecDepth 20000 in
theorem gX5_readLine_X5_note : GoodIn wsX5_readLine (wsV RX5 63 RX5 yX5_note wsX5_note) := goodIn_app (goodIn_of _ (by decide +kernel)) ggX5_readLine_X5_note
set_option maxRecDepth 20000 in
theorem ggX5_readLine_X8_takeNumber : GoodIn wsX5_readLine wsX8_takeNumber := goodIn_r _ [47, 19, 37, 48, 20, 21, 22, 7, 23, 24, 25, 26, 49, 29, 30, 31, 32, 33, 34, 35, 36, 38, 9, 69, 70, 71, 72, 73, 74, 75, 76, 77, 78, 79, 80, 81, 82, 83] rfl (by decide +kernel)
set_option maxRecDepth 20000 in
theorem gX5_readLine_X8_takeNumber : GoodIn wsX5_readLine (wsV RX5 67 RX8 yX8_takeNumber wsX8_takeNumber) := goodIn_app (goodIn_of _ (by decide +kernel)) ggX5_readLine_X8_takeNumber
theorem dX5_readLine_0 : decode cX5_readLine 0 = .ok (.aload_n 0, 1) := by decide +kernel
theorem dX5_readLine_1 : decode cX5_readLine 1 = .ok (.getfield 21, 3) := by decide +kernel
theorem dX5_readLine_4 : decode cX5_readLine 4 = .ok (.getfield 37, 3) := by decide +kernel
theorem dX5_readLine_7 : decode cX5_readLine 7 = .ok (.istore_n 1, 1) := by decide +kernel
theorem dX5_readLine_8 : decode cX5_readLine 8 = .ok (.iload_n 1, 1) := by decide +kernel
theorem dX5_readLine_9 : decode cX5_readLine 9 = .ok (.bipush 14, 2) := by decide +kernel
theorem dX5_readLine_11 : decode cX5_readLine 11 = .ok (.if_icmp .eq 15, 3) := by decide +kernel
theorem dX5_readLine_14 : decode cX5_readLine 14 = .ok (.iload_n 1, 1) := by decide +kernel
theorem dX5_readLine_15 : decode cX5_readLine 15 = .ok (.bipush 15, 2) := by decide +kernel
theorem dX5_readLine_17 : decode cX5_readLine 17 = .ok (.if_icmp .eq 9, 3) := by decide +kernel
theorem dX5_readLine_20 : decode cX5_readLine 20 = .ok (.iload_n 1, 1) := by decide +kernel
theorem dX5_readLine_21 : decode cX5_readLine 21 = .ok (.bipush 19, 2) := by decide +kernel
theorem dX5_readLine_23 : decode cX5_readLine 23 = .ok (.if_icmp .ne 7, 3) := by decide +kernel
theorem dX5_readLine_26 : decode cX5_readLine 26 = .ok (.iconst 1, 1) := by decide +kernel
theorem dX5_readLine_27 : decode cX5_readLine 27 = .ok (.goto 4, 3) := by decide +kernel
theorem dX5_readLine_30 : decode cX5_readLine 30 = .ok (.iconst 0, 1) := by decide +kernel
theorem dX5_readLine_31 : decode cX5_readLine 31 = .ok (.istore_n 2, 1) := by decide +kernel
theorem dX5_readLine_32 : decode cX5_readLine 32 = .ok (.iload_n 2, 1) := by decide +kernel
theorem dX5_readLine_33 : decode cX5_readLine 33 = .ok (.ifCond .eq 7, 3) := by decide +kernel
theorem dX5_readLine_36 : decode cX5_readLine 36 = .ok (.iconst (-1), 1) := by decide +kernel
theorem dX5_readLine_37 : decode cX5_readLine 37 = .ok (.goto 14, 3) := by decide +kernel
theorem dX5_readLine_40 : decode cX5_readLine 40 = .ok (.aload_n 0, 1) := by decide +kernel
theorem dX5_readLine_41 : decode cX5_readLine 41 = .ok (.getfield 21, 3) := by decide +kernel
theorem dX5_readLine_44 : decode cX5_readLine 44 = .ok (.aload_n 0, 1) := by decide +kernel
theorem dX5_readLine_45 : decode cX5_readLine 45 = .ok (.getfield 25, 3) := by decide +kernel
theorem dX5_readLine_48 : decode cX5_readLine 48 = .ok (.invokevirtual 50, 3) := by decide +kernel
theorem dX5_readLine_51 : decode cX5_readLine 51 = .ok (.istore_n 3, 1) := by decide +kernel
theorem dX5_readLine_52 : decode cX5_readLine 52 = .ok (.iload_n 2, 1) := by decide +kernel
theorem dX5_readLine_53 : decode cX5_readLine 53 = .ok (.ifCond .ne 10, 3) := by decide +kernel
theorem dX5_readLine_56 : decode cX5_readLine 56 = .ok (.iload_n 3, 1) := by decide +kernel
theorem dX5_readLine_57 : decode cX5_readLine 57 = .ok (.iconst (-1), 1) := by decide +kernel
theorem dX5_readLine_58 : decode cX5_readLine 58 = .ok (.if_icmp .ne 5, 3) := by decide +kernel
theorem dX5_readLine_61 : decode cX5_readLine 61 = .ok (.iconst 0, 1) := by decide +kernel
theorem dX5_readLine_62 : decode cX5_readLine 62 = .ok (.ireturn, 1) := by decide +kernel
theorem dX5_readLine_63 : decode cX5_readLine 63 = .ok (.aload_n 0, 1) := by decide +kernel
theorem dX5_readLine_64 : decode cX5_readLine 64 = .ok (.getfield 33, 3) := by decide +kernel
theorem dX5_readLine_67 : decode cX5_readLine 67 = .ok (.bipush 40, 2) := by decide +kernel
theorem dX5_readLine_69 : decode cX5_readLine 69 = .ok (.if_icmp .lt 12, 3) := by decide +kernel
theorem dX5_readLine_72 : decode cX5_readLine 72 = .ok (.aload_n 0, 1) := by decide +kernel
theorem dX5_readLine_73 : decode cX5_readLine 73 = .ok (.getfield 21, 3) := by decide +kernel
theorem dX5_readLine_76 : decode cX5_readLine 76 = .ok (.iconst 4, 1) := by decide +kernel
theorem dX5_readLine_77 : decode cX5_readLine 77 = .ok (.invokevirtual 54, 3) := by decide +kernel
theorem dX5_readLine_80 : decode cX5_readLine 80 = .ok (.ireturn, 1) := by decide +kernel
theorem dX5_readLine_81 : decode cX5_readLine 81 = .ok (.aload_n 0, 1) := by decide +kernel
theorem dX5_readLine_82 : decode cX5_readLine 82 = .ok (.getfield 21, 3) := by decide +kernel
theorem dX5_readLine_85 : decode cX5_readLine 85 = .ok (.invokevirtual 57, 3) := by decide +kernel
theorem dX5_readLine_88 : decode cX5_readLine 88 = .ok (.iload_n 2, 1) := by decide +kernel
theorem dX5_readLine_89 : decode cX5_readLine 89 = .ok (.ifCond .ne 9, 3) := by decide +kernel
theorem dX5_readLine_92 : decode cX5_readLine 92 = .ok (.aload_n 0, 1) := by decide +kernel
theorem dX5_readLine_93 : decode cX5_readLine 93 = .ok (.iload_n 3, 1) := by decide +kernel
theorem dX5_readLine_94 : decode cX5_readLine 94 = .ok (.invokevirtual 60, 3) := by decide +kernel
theorem dX5_readLine_97 : decode cX5_readLine 97 = .ok (.ireturn, 1) := by decide +kernel
theorem dX5_readLine_98 : decode cX5_readLine 98 = .ok (.iload_n 1, 1) := by decide +kernel
theorem dX5_readLine_99 : decode cX5_readLine 99 = .ok (.bipush 19, 2) := by decide +kernel
theorem dX5_readLine_101 : decode cX5_readLine 101 = .ok (.if_icmp .ne 11, 3) := by decide +kernel
theorem dX5_readLine_104 : decode cX5_readLine 104 = .ok (.aload_n 0, 1) := by decide +kernel
theorem dX5_readLine_105 : decode cX5_readLine 105 = .ok (.iload_n 1, 1) := by decide +kernel
theorem dX5_readLine_106 : decode cX5_readLine 106 = .ok (.iconst (-1), 1) := by decide +kernel
theorem dX5_readLine_107 : decode cX5_readLine 107 = .ok (.iconst (-1), 1) := by decide +kernel
theorem dX5_readLine_108 : decode cX5_readLine 108 = .ok (.invokevirtual 63, 3) := by decide +kernel
theorem dX5_readLine_111 : decode cX5_readLine 111 = .ok (.ireturn, 1) := by decide +kernel
theorem dX5_readLine_112 : decode cX5_readLine 112 = .ok (.iload_n 1, 1) := by decide +kernel
theorem dX5_readLine_113 : decode cX5_readLine 113 = .ok (.bipush 14, 2) := by decide +kernel
theorem dX5_readLine_115 : decode cX5_readLine 115 = .ok (.if_icmp .ne 15, 3) := by decide +kernel
theorem dX5_readLine_118 : decode cX5_readLine 118 = .ok (.aload_n 0, 1) := by decide +kernel
theorem dX5_readLine_119 : decode cX5_readLine 119 = .ok (.getfield 21, 3) := by decide +kernel
theorem dX5_readLine_122 : decode cX5_readLine 122 = .ok (.iconst 0, 1) := by decide +kernel
theorem dX5_readLine_123 : decode cX5_readLine 123 = .ok (.iconst 3, 1) := by decide +kernel
theorem dX5_readLine_124 : decode cX5_readLine 124 = .ok (.invokevirtual 67, 3) := by decide +kernel
theorem dX5_readLine_127 : decode cX5_readLine 127 = .ok (.goto 13, 3) := by decide +kernel
theorem dX5_readLine_130 : decode cX5_readLine 130 = .ok (.aload_n 0, 1) := by decide +kernel
theorem dX5_readLine_131 : decode cX5_readLine 131 = .ok (.getfield 21, 3) := by decide +kernel
theorem dX5_readLine_134 : decode cX5_readLine 134 = .ok (.iconst 1, 1) := by decide +kernel
theorem dX5_readLine_135 : decode cX5_readLine 135 = .ok (.bipush 99, 2) := by decide +kernel
theorem dX5_readLine_137 : decode cX5_readLine 137 = .ok (.invokevirtual 67, 3) := by decide +kernel
theorem dX5_readLine_140 : decode cX5_readLine 140 = .ok (.istore 4, 2) := by decide +kernel
theorem dX5_readLine_142 : decode cX5_readLine 142 = .ok (.iload 4, 2) := by decide +kernel
theorem dX5_readLine_144 : decode cX5_readLine 144 = .ok (.ifCond .eq 23, 3) := by decide +kernel
theorem dX5_readLine_147 : decode cX5_readLine 147 = .ok (.aload_n 0, 1) := by decide +kernel
theorem dX5_readLine_148 : decode cX5_readLine 148 = .ok (.iload_n 1, 1) := by decide +kernel
theorem dX5_readLine_149 : decode cX5_readLine 149 = .ok (.iconst (-1), 1) := by decide +kernel
theorem dX5_readLine_150 : decode cX5_readLine 150 = .ok (.aload_n 0, 1) := by decide +kernel
theorem dX5_readLine_151 : decode cX5_readLine 151 = .ok (.getfield 21, 3) := by decide +kernel
theorem dX5_readLine_154 : decode cX5_readLine 154 = .ok (.getfield 71, 3) := by decide +kernel
theorem dX5_readLine_157 : decode cX5_readLine 157 = .ok (.invokevirtual 63, 3) := by decide +kernel
theorem dX5_readLine_160 : decode cX5_readLine 160 = .ok (.ifCond .eq 7, 3) := by decide +kernel
theorem dX5_readLine_163 : decode cX5_readLine 163 = .ok (.iconst 1, 1) := by decide +kernel
theorem dX5_readLine_164 : decode cX5_readLine 164 = .ok (.goto 4, 3) := by decide +kernel
theorem dX5_readLine_167 : decode cX5_readLine 167 = .ok (.iconst 0, 1) := by decide +kernel
theorem dX5_readLine_168 : decode cX5_readLine 168 = .ok (.ireturn, 1) := by decide +kernel
set_option maxRecDepth 20000 in
theorem ggX5_readActOf_X8_blame : GoodIn wsX5_readActOf wsX8_blame := goodIn_r _ [7, 8, 9, 10, 65, 66, 67, 68, 69, 70, 71, 72, 73, 74, 75, 76, 77, 78, 79] rfl (by decide +kernel)
set_option maxRecDepth 20000 in
theorem gX5_readActOf_X8_blame : GoodIn wsX5_readActOf (wsV RX5 54 RX8 yX8_blame wsX8_blame) := goodIn_app (goodIn_of _ (by decide +kernel)) ggX5_readActOf_X8_blame
set_option maxRecDepth 20000 in
theorem ggX5_readActOf_X8_next : GoodIn wsX5_readActOf wsX8_next := goodIn_r _ [14, 15, 16, 17, 18, 19, 9, 20, 21, 22, 23, 65, 66, 67, 68, 69, 70, 71, 72, 73, 74, 75, 76, 77, 78, 79] rfl (by decide +kernel)
set_option maxRecDepth 20000 in
theorem gX5_readActOf_X8_next : GoodIn wsX5_readActOf (wsV RX5 57 RX8 yX8_next wsX8_next) := goodIn_app (goodIn_of _ (by decide +kernel)) ggX5_readActOf_X8_next
set_option maxRecDepth 20000 in
theorem ggX5_readActOf_X8_takeNumber : GoodIn wsX5_readActOf wsX8_takeNumber := goodIn_r _ [27, 18, 21, 28, 29, 4, 5, 6, 7, 8, 9, 10, 30, 12, 13, 14, 15, 16, 17, 19, 20, 22, 23, 65, 66, 67, 68, 69, 70, 71, 72, 73, 74, 75, 76, 77, 78, 79] rfl (by decide +kernel)
set_option maxRecDepth 20000 in
theorem gX5_readActOf_X8_takeNumber : GoodIn wsX5_readActOf (wsV RX5 67 RX8 yX8_takeNumber wsX8_takeNumber) := goodIn_app (goodIn_of _ (by decide +kernel)) ggX5_readActOf_X8_takeNumber
set_option maxRecDepth 20000 in
theorem ggX5_readActOf_X5_note : GoodIn wsX5_readActOf wsX5_note := goodIn_r _ [35, 36, 37, 38, 39, 57, 58, 59, 60, 61, 62, 63, 64] rfl (by decide +kernel)
set_option maxRecDepth 20000 in
theorem gX5_readActOf_X5_note : GoodIn wsX5_readActOf (wsV RX5 63 RX5 yX5_note wsX5_note) := goodIn_app (goodIn_of _ (by decide +kernel)) ggX5_readActOf_X5_note
set_option maxRecDepth 20000 in
theorem ggX5_readActOf_X8_hillHere : GoodIn wsX5_readActOf wsX8_hillHere := goodIn_r _ [43, 23, 44, 45, 46, 47, 48, 49, 50, 51, 6, 52, 18, 29, 4, 5, 7, 8, 9, 10, 65, 66, 67, 68, 69, 70, 71, 72, 73, 74, 75, 76, 77, 78, 79, 80, 81, 82, 83, 84, 85, 86, 87, 88, 89, 90, 91, 92, 93] rfl (by decide +kernel)
set_option maxRecDepth 20000 in
theorem gX5_readActOf_X8_hillHere : GoodIn wsX5_readActOf (wsV RX5 74 RX8 yX8_hillHere wsX8_hillHere) := goodIn_app (goodIn_of _ (by decide +kernel)) ggX5_readActOf_X8_hillHere
set_option maxRecDepth 20000 in
theorem ggX5_readActOf_X8_manHere : GoodIn wsX5_readActOf wsX8_manHere := goodIn_r _ [56, 23, 44, 45, 46, 47, 48, 49, 50, 51, 6, 52, 18, 29, 4, 5, 7, 8, 9, 10, 65, 66, 67, 68, 69, 70, 71, 72, 73, 74, 75, 76, 77, 78, 79, 80, 81, 82, 83, 84, 85, 86, 87, 88, 89, 90, 91, 92, 93] rfl (by decide +kernel)
set_option maxRecDepth 20000 in
theorem gX5_readActOf_X8_manHere : GoodIn wsX5_readActOf (wsV RX5 50 RX8 yX8_manHere wsX8_manHere) := goodIn_app (goodIn_of _ (by decide +kernel)) ggX5_readActOf_X8_manHere
theorem dX5_readActOf_0 : decode cX5_readActOf 0 = .ok (.aload_n 0, 1) := by decide +kernel
theorem dX5_readActOf_1 : decode cX5_readActOf 1 = .ok (.getfield 21, 3) := by decide +kernel
theorem dX5_readActOf_4 : decode cX5_readActOf 4 = .ok (.getfield 37, 3) := by decide +kernel
theorem dX5_readActOf_7 : decode cX5_readActOf 7 = .ok (.istore_n 2, 1) := by decide +kernel
theorem dX5_readActOf_8 : decode cX5_readActOf 8 = .ok (.iload_n 2, 1) := by decide +kernel
theorem dX5_readActOf_9 : decode cX5_readActOf 9 = .ok (.bipush 16, 2) := by decide +kernel
theorem dX5_readActOf_11 : decode cX5_readActOf 11 = .ok (.if_icmp .eq 24, 3) := by decide +kernel
theorem dX5_readActOf_14 : decode cX5_readActOf 14 = .ok (.iload_n 2, 1) := by decide +kernel
theorem dX5_readActOf_15 : decode cX5_readActOf 15 = .ok (.bipush 17, 2) := by decide +kernel
theorem dX5_readActOf_17 : decode cX5_readActOf 17 = .ok (.if_icmp .eq 18, 3) := by decide +kernel
theorem dX5_readActOf_20 : decode cX5_readActOf 20 = .ok (.iload_n 2, 1) := by decide +kernel
theorem dX5_readActOf_21 : decode cX5_readActOf 21 = .ok (.bipush 18, 2) := by decide +kernel
theorem dX5_readActOf_23 : decode cX5_readActOf 23 = .ok (.if_icmp .eq 12, 3) := by decide +kernel
theorem dX5_readActOf_26 : decode cX5_readActOf 26 = .ok (.aload_n 0, 1) := by decide +kernel
theorem dX5_readActOf_27 : decode cX5_readActOf 27 = .ok (.getfield 21, 3) := by decide +kernel
theorem dX5_readActOf_30 : decode cX5_readActOf 30 = .ok (.iconst 1, 1) := by decide +kernel
theorem dX5_readActOf_31 : decode cX5_readActOf 31 = .ok (.invokevirtual 54, 3) := by decide +kernel
theorem dX5_readActOf_34 : decode cX5_readActOf 34 = .ok (.ireturn, 1) := by decide +kernel
theorem dX5_readActOf_35 : decode cX5_readActOf 35 = .ok (.aload_n 0, 1) := by decide +kernel
theorem dX5_readActOf_36 : decode cX5_readActOf 36 = .ok (.getfield 21, 3) := by decide +kernel
theorem dX5_readActOf_39 : decode cX5_readActOf 39 = .ok (.invokevirtual 57, 3) := by decide +kernel
theorem dX5_readActOf_42 : decode cX5_readActOf 42 = .ok (.iload_n 2, 1) := by decide +kernel
theorem dX5_readActOf_43 : decode cX5_readActOf 43 = .ok (.bipush 17, 2) := by decide +kernel
theorem dX5_readActOf_45 : decode cX5_readActOf 45 = .ok (.if_icmp .ne 38, 3) := by decide +kernel
theorem dX5_readActOf_48 : decode cX5_readActOf 48 = .ok (.aload_n 0, 1) := by decide +kernel
theorem dX5_readActOf_49 : decode cX5_readActOf 49 = .ok (.getfield 21, 3) := by decide +kernel
theorem dX5_readActOf_52 : decode cX5_readActOf 52 = .ok (.iconst 0, 1) := by decide +kernel
theorem dX5_readActOf_53 : decode cX5_readActOf 53 = .ok (.bipush 9, 2) := by decide +kernel
theorem dX5_readActOf_55 : decode cX5_readActOf 55 = .ok (.invokevirtual 67, 3) := by decide +kernel
theorem dX5_readActOf_58 : decode cX5_readActOf 58 = .ok (.ifCond .eq 23, 3) := by decide +kernel
theorem dX5_readActOf_61 : decode cX5_readActOf 61 = .ok (.aload_n 0, 1) := by decide +kernel
theorem dX5_readActOf_62 : decode cX5_readActOf 62 = .ok (.iload_n 2, 1) := by decide +kernel
theorem dX5_readActOf_63 : decode cX5_readActOf 63 = .ok (.iload_n 1, 1) := by decide +kernel
theorem dX5_readActOf_64 : decode cX5_readActOf 64 = .ok (.aload_n 0, 1) := by decide +kernel
theorem dX5_readActOf_65 : decode cX5_readActOf 65 = .ok (.getfield 21, 3) := by decide +kernel
theorem dX5_readActOf_68 : decode cX5_readActOf 68 = .ok (.getfield 71, 3) := by decide +kernel
theorem dX5_readActOf_71 : decode cX5_readActOf 71 = .ok (.invokevirtual 63, 3) := by decide +kernel
theorem dX5_readActOf_74 : decode cX5_readActOf 74 = .ok (.ifCond .eq 7, 3) := by decide +kernel
theorem dX5_readActOf_77 : decode cX5_readActOf 77 = .ok (.iconst 1, 1) := by decide +kernel
theorem dX5_readActOf_78 : decode cX5_readActOf 78 = .ok (.goto 4, 3) := by decide +kernel
theorem dX5_readActOf_81 : decode cX5_readActOf 81 = .ok (.iconst 0, 1) := by decide +kernel
theorem dX5_readActOf_82 : decode cX5_readActOf 82 = .ok (.ireturn, 1) := by decide +kernel
theorem dX5_readActOf_83 : decode cX5_readActOf 83 = .ok (.iload_n 2, 1) := by decide +kernel
theorem dX5_readActOf_84 : decode cX5_readActOf 84 = .ok (.bipush 16, 2) := by decide +kernel
theorem dX5_readActOf_86 : decode cX5_readActOf 86 = .ok (.if_icmp .ne 17, 3) := by decide +kernel
theorem dX5_readActOf_89 : decode cX5_readActOf 89 = .ok (.aload_n 0, 1) := by decide +kernel
theorem dX5_readActOf_90 : decode cX5_readActOf 90 = .ok (.getfield 21, 3) := by decide +kernel
theorem dX5_readActOf_93 : decode cX5_readActOf 93 = .ok (.aload_n 0, 1) := by decide +kernel
theorem dX5_readActOf_94 : decode cX5_readActOf 94 = .ok (.getfield 25, 3) := by decide +kernel
theorem dX5_readActOf_97 : decode cX5_readActOf 97 = .ok (.invokevirtual 74, 3) := by decide +kernel
theorem dX5_readActOf_100 : decode cX5_readActOf 100 = .ok (.goto 14, 3) := by decide +kernel
theorem dX5_readActOf_103 : decode cX5_readActOf 103 = .ok (.aload_n 0, 1) := by decide +kernel
theorem dX5_readActOf_104 : decode cX5_readActOf 104 = .ok (.getfield 21, 3) := by decide +kernel
theorem dX5_readActOf_107 : decode cX5_readActOf 107 = .ok (.aload_n 0, 1) := by decide +kernel
theorem dX5_readActOf_108 : decode cX5_readActOf 108 = .ok (.getfield 25, 3) := by decide +kernel
theorem dX5_readActOf_111 : decode cX5_readActOf 111 = .ok (.invokevirtual 50, 3) := by decide +kernel
theorem dX5_readActOf_114 : decode cX5_readActOf 114 = .ok (.istore_n 3, 1) := by decide +kernel
theorem dX5_readActOf_115 : decode cX5_readActOf 115 = .ok (.iload_n 3, 1) := by decide +kernel
theorem dX5_readActOf_116 : decode cX5_readActOf 116 = .ok (.iconst (-1), 1) := by decide +kernel
theorem dX5_readActOf_117 : decode cX5_readActOf 117 = .ok (.if_icmp .ne 5, 3) := by decide +kernel
theorem dX5_readActOf_120 : decode cX5_readActOf 120 = .ok (.iconst 0, 1) := by decide +kernel
theorem dX5_readActOf_121 : decode cX5_readActOf 121 = .ok (.ireturn, 1) := by decide +kernel
theorem dX5_readActOf_122 : decode cX5_readActOf 122 = .ok (.aload_n 0, 1) := by decide +kernel
theorem dX5_readActOf_123 : decode cX5_readActOf 123 = .ok (.getfield 21, 3) := by decide +kernel
theorem dX5_readActOf_126 : decode cX5_readActOf 126 = .ok (.invokevirtual 57, 3) := by decide +kernel
theorem dX5_readActOf_129 : decode cX5_readActOf 129 = .ok (.aload_n 0, 1) := by decide +kernel
theorem dX5_readActOf_130 : decode cX5_readActOf 130 = .ok (.iload_n 2, 1) := by decide +kernel
theorem dX5_readActOf_131 : decode cX5_readActOf 131 = .ok (.iload_n 1, 1) := by decide +kernel
theorem dX5_readActOf_132 : decode cX5_readActOf 132 = .ok (.iload_n 3, 1) := by decide +kernel
theorem dX5_readActOf_133 : decode cX5_readActOf 133 = .ok (.invokevirtual 63, 3) := by decide +kernel
theorem dX5_readActOf_136 : decode cX5_readActOf 136 = .ok (.ireturn, 1) := by decide +kernel
theorem dX5_note_0 : decode cX5_note 0 = .ok (.aload_n 0, 1) := by decide +kernel
theorem dX5_note_1 : decode cX5_note 1 = .ok (.getfield 33, 3) := by decide +kernel
theorem dX5_note_4 : decode cX5_note 4 = .ok (.ifCond .lt 12, 3) := by decide +kernel
theorem dX5_note_7 : decode cX5_note 7 = .ok (.aload_n 0, 1) := by decide +kernel
theorem dX5_note_8 : decode cX5_note 8 = .ok (.getfield 33, 3) := by decide +kernel
theorem dX5_note_11 : decode cX5_note 11 = .ok (.bipush 40, 2) := by decide +kernel
theorem dX5_note_13 : decode cX5_note 13 = .ok (.if_icmp .lt 5, 3) := by decide +kernel
theorem dX5_note_16 : decode cX5_note 16 = .ok (.iconst 0, 1) := by decide +kernel
theorem dX5_note_17 : decode cX5_note 17 = .ok (.ireturn, 1) := by decide +kernel
theorem dX5_note_18 : decode cX5_note 18 = .ok (.aload_n 0, 1) := by decide +kernel
theorem dX5_note_19 : decode cX5_note 19 = .ok (.getfield 9, 3) := by decide +kernel
theorem dX5_note_22 : decode cX5_note 22 = .ok (.aload_n 0, 1) := by decide +kernel
theorem dX5_note_23 : decode cX5_note 23 = .ok (.getfield 33, 3) := by decide +kernel
theorem dX5_note_26 : decode cX5_note 26 = .ok (.iload_n 1, 1) := by decide +kernel
theorem dX5_note_27 : decode cX5_note 27 = .ok (.iastore, 1) := by decide +kernel
theorem dX5_note_28 : decode cX5_note 28 = .ok (.aload_n 0, 1) := by decide +kernel
theorem dX5_note_29 : decode cX5_note 29 = .ok (.getfield 15, 3) := by decide +kernel
theorem dX5_note_32 : decode cX5_note 32 = .ok (.aload_n 0, 1) := by decide +kernel
theorem dX5_note_33 : decode cX5_note 33 = .ok (.getfield 33, 3) := by decide +kernel
theorem dX5_note_36 : decode cX5_note 36 = .ok (.iload_n 2, 1) := by decide +kernel
theorem dX5_note_37 : decode cX5_note 37 = .ok (.iastore, 1) := by decide +kernel
theorem dX5_note_38 : decode cX5_note 38 = .ok (.aload_n 0, 1) := by decide +kernel
theorem dX5_note_39 : decode cX5_note 39 = .ok (.getfield 18, 3) := by decide +kernel
theorem dX5_note_42 : decode cX5_note 42 = .ok (.aload_n 0, 1) := by decide +kernel
theorem dX5_note_43 : decode cX5_note 43 = .ok (.getfield 33, 3) := by decide +kernel
theorem dX5_note_46 : decode cX5_note 46 = .ok (.iload_n 3, 1) := by decide +kernel
theorem dX5_note_47 : decode cX5_note 47 = .ok (.iastore, 1) := by decide +kernel
theorem dX5_note_48 : decode cX5_note 48 = .ok (.iconst 1, 1) := by decide +kernel
theorem dX5_note_49 : decode cX5_note 49 = .ok (.ireturn, 1) := by decide +kernel
set_option maxRecDepth 20000 in
theorem ggX5_live_X5_whyWrong : GoodIn wsX5_live wsX5_whyWrong := goodIn_r _ [10, 11, 12, 13, 14, 15, 16, 17, 18, 19, 20, 21, 22, 23, 24, 25, 26, 27, 28, 29, 30, 31, 32, 33, 34, 35, 36, 37, 38, 39, 40, 41, 42, 43, 44, 45, 46, 47, 48, 9, 49, 50, 51, 52, 53, 54, 55, 56, 57, 58, 59, 60, 61, 62, 63, 64, 65, 66, 67, 68, 69, 70, 71, 72, 73, 74, 75, 76, 77, 78, 79, 80, 81, 82, 83, 84, 85, 86, 87, 88, 89, 90, 91, 92, 93, 94, 95, 96, 97, 98, 99, 100, 101, 102, 103, 104, 105, 106, 107, 108, 109, 110, 111, 112, 113, 114, 115, 116, 117, 118, 119, 120, 121, 122, 123, 124, 125, 126, 127, 128, 129, 130, 131, 132, 133, 134, 135, 136, 137, 138, 139, 140, 141, 142, 143, 144, 145, 146, 147, 148, 149, 150, 151, 152, 153, 154, 155, 156, 157, 158, 159, 160, 161, 162, 163, 164, 165, 166, 167, 168, 169, 170, 171, 172, 173, 174, 175, 176, 177, 178, 179, 180, 181, 182, 183, 184, 185, 186, 187, 188, 189, 190, 191, 192, 193, 194, 195, 196, 197, 198, 199, 200, 201, 202, 203, 204] rfl (by decide +kernel)
set_option maxRecDepth 20000 in
theorem gX5_live_X5_whyWrong : GoodIn wsX5_live (wsV RX5 80 RX5 yX5_whyWrong wsX5_whyWrong) := goodIn_app (goodIn_of _ (by decide +kernel)) ggX5_live_X5_whyWrong
theorem dX5_live_0 : decode cX5_live 0 = .ok (.aload_n 0, 1) := by decide +kernel
theorem dX5_live_1 : decode cX5_live 1 = .ok (.iconst 0, 1) := by decide +kernel
theorem dX5_live_2 : decode cX5_live 2 = .ok (.putfield 77, 3) := by decide +kernel
theorem dX5_live_5 : decode cX5_live 5 = .ok (.iconst 0, 1) := by decide +kernel
theorem dX5_live_6 : decode cX5_live 6 = .ok (.istore_n 2, 1) := by decide +kernel
theorem dX5_live_7 : decode cX5_live 7 = .ok (.iload_n 2, 1) := by decide +kernel
theorem dX5_live_8 : decode cX5_live 8 = .ok (.aload_n 0, 1) := by decide +kernel
theorem dX5_live_9 : decode cX5_live 9 = .ok (.getfield 33, 3) := by decide +kernel
theorem dX5_live_12 : decode cX5_live 12 = .ok (.if_icmp .ge 51, 3) := by decide +kernel
theorem dX5_live_15 : decode cX5_live 15 = .ok (.iload_n 2, 1) := by decide +kernel
theorem dX5_live_16 : decode cX5_live 16 = .ok (.bipush 40, 2) := by decide +kernel
theorem dX5_live_18 : decode cX5_live 18 = .ok (.if_icmp .ge 45, 3) := by decide +kernel
theorem dX5_live_21 : decode cX5_live 21 = .ok (.aload_n 0, 1) := by decide +kernel
theorem dX5_live_22 : decode cX5_live 22 = .ok (.aload_n 0, 1) := by decide +kernel
theorem dX5_live_23 : decode cX5_live 23 = .ok (.aload_n 1, 1) := by decide +kernel
theorem dX5_live_24 : decode cX5_live 24 = .ok (.aload_n 0, 1) := by decide +kernel
theorem dX5_live_25 : decode cX5_live 25 = .ok (.getfield 9, 3) := by decide +kernel
theorem dX5_live_28 : decode cX5_live 28 = .ok (.iload_n 2, 1) := by decide +kernel
theorem dX5_live_29 : decode cX5_live 29 = .ok (.iaload, 1) := by decide +kernel
theorem dX5_live_30 : decode cX5_live 30 = .ok (.aload_n 0, 1) := by decide +kernel
theorem dX5_live_31 : decode cX5_live 31 = .ok (.getfield 15, 3) := by decide +kernel
theorem dX5_live_34 : decode cX5_live 34 = .ok (.iload_n 2, 1) := by decide +kernel
theorem dX5_live_35 : decode cX5_live 35 = .ok (.iaload, 1) := by decide +kernel
theorem dX5_live_36 : decode cX5_live 36 = .ok (.aload_n 0, 1) := by decide +kernel
theorem dX5_live_37 : decode cX5_live 37 = .ok (.getfield 18, 3) := by decide +kernel
theorem dX5_live_40 : decode cX5_live 40 = .ok (.iload_n 2, 1) := by decide +kernel
theorem dX5_live_41 : decode cX5_live 41 = .ok (.iaload, 1) := by decide +kernel
theorem dX5_live_42 : decode cX5_live 42 = .ok (.invokevirtual 80, 3) := by decide +kernel
theorem dX5_live_45 : decode cX5_live 45 = .ok (.putfield 77, 3) := by decide +kernel
theorem dX5_live_48 : decode cX5_live 48 = .ok (.aload_n 0, 1) := by decide +kernel
theorem dX5_live_49 : decode cX5_live 49 = .ok (.getfield 77, 3) := by decide +kernel
theorem dX5_live_52 : decode cX5_live 52 = .ok (.ifCond .eq 5, 3) := by decide +kernel
theorem dX5_live_55 : decode cX5_live 55 = .ok (.iload_n 2, 1) := by decide +kernel
theorem dX5_live_56 : decode cX5_live 56 = .ok (.ireturn, 1) := by decide +kernel
theorem dX5_live_57 : decode cX5_live 57 = .ok (.iinc 2 1, 3) := by decide +kernel
theorem dX5_live_60 : decode cX5_live 60 = .ok (.goto (-53), 3) := by decide +kernel
theorem dX5_live_63 : decode cX5_live 63 = .ok (.iconst (-1), 1) := by decide +kernel
theorem dX5_live_64 : decode cX5_live 64 = .ok (.ireturn, 1) := by decide +kernel
set_option maxRecDepth 20000 in
theorem ggX5_whyWrong_X9_hasFlight : GoodIn wsX5_whyWrong wsX9_hasFlight := goodIn_r _ [7, 8, 163, 164, 165, 166, 167, 168, 169, 170, 171, 172, 173, 174, 175, 176] rfl (by decide +kernel)
set_option maxRecDepth 20000 in
theorem gX5_whyWrong_X9_hasFlight : GoodIn wsX5_whyWrong (wsV RX5 84 RX9 yX9_hasFlight wsX9_hasFlight) := goodIn_app (goodIn_of _ (by decide +kernel)) ggX5_whyWrong_X9_hasFlight
set_option maxRecDepth 20000 in
theorem ggX5_whyWrong_X0_arrive : GoodIn wsX5_whyWrong wsX0_arrive := goodIn_r _ [13, 177, 178, 179, 180, 181, 182, 183] rfl (by decide +kernel)
set_option maxRecDepth 20000 in
theorem gX5_whyWrong_X0_arrive : GoodIn wsX5_whyWrong (wsV RX5 89 RX0 yX0_arrive wsX0_arrive) := goodIn_app (goodIn_of _ (by decide +kernel)) ggX5_whyWrong_X0_arrive
set_option maxRecDepth 20000 in
theorem ggX5_whyWrong_X0_passHours : GoodIn wsX5_whyWrong wsX0_passHours := goodIn_r _ [17, 18, 19, 20, 21, 177, 178, 179, 180, 181, 182, 183] rfl (by decide +kernel)
set_option maxRecDepth 20000 in
theorem gX5_whyWrong_X0_passHours : GoodIn wsX5_whyWrong (wsV RX5 95 RX0 yX0_passHours wsX0_passHours) := goodIn_app (goodIn_of _ (by decide +kernel)) ggX5_whyWrong_X0_passHours
set_option maxRecDepth 20000 in
theorem ggX5_whyWrong_X0_walk : GoodIn wsX5_whyWrong wsX0_walk := goodIn_r _ [25, 26, 27, 28, 12, 29, 30, 31, 4, 5, 6, 7, 8, 32, 33, 34, 35, 36, 177, 178, 179, 180, 181, 182, 183, 184, 185, 186, 163, 164, 165, 166, 167, 168, 169, 170, 171, 172, 173, 174, 175, 176] rfl (by decide +kernel)
set_option maxRecDepth 20000 in
theorem gX5_whyWrong_X0_walk : GoodIn wsX5_whyWrong (wsV RX5 99 RX0 yX0_walk wsX0_walk) := goodIn_app (goodIn_of _ (by decide +kernel)) ggX5_whyWrong_X0_walk
set_option maxRecDepth 20000 in
theorem ggX5_whyWrong_X5_above : GoodIn wsX5_whyWrong wsX5_above := goodIn_r _ [40] rfl (by decide +kernel)
set_option maxRecDepth 20000 in
theorem gX5_whyWrong_X5_above : GoodIn wsX5_whyWrong (va_wsS RX5 103 yX5_above wsX5_above) := goodIn_app (goodIn_of _ (by decide +kernel)) ggX5_whyWrong_X5_above
set_option maxRecDepth 20000 in
theorem ggX5_whyWrong_X0_takeOath : GoodIn wsX5_whyWrong wsX0_takeOath := goodIn_r _ [44, 26, 27, 28, 12, 29, 30, 31, 4, 5, 6, 7, 8, 32, 33, 34, 35, 36, 177, 178, 179, 180, 181, 182, 183, 184, 185, 186, 163, 164, 165, 166, 167, 168, 169, 170, 171, 172, 173, 174, 175, 176] rfl (by decide +kernel)
set_option maxRecDepth 20000 in
theorem gX5_whyWrong_X0_takeOath : GoodIn wsX5_whyWrong (wsV RX5 107 RX0 yX0_takeOath wsX0_takeOath) := goodIn_app (goodIn_of _ (by decide +kernel)) ggX5_whyWrong_X0_takeOath
set_option maxRecDepth 20000 in
theorem ggX5_whyWrong_X0_callOath : GoodIn wsX5_whyWrong wsX0_callOath := goodIn_r _ [48, 49, 50, 51, 52, 12, 53, 30, 54, 55, 56, 6, 57, 58, 59, 4, 5, 7, 8, 60, 61, 62, 63, 64, 65, 66, 67, 68, 69, 70, 71, 72, 73, 74, 75, 76, 77, 78, 79, 80, 81, 82, 83, 84, 85, 86, 87, 20, 88, 89, 33, 34, 35, 36, 90, 91, 92, 93, 94, 95, 96, 97, 98, 99, 100, 101, 102, 103, 104, 105, 106, 107, 108, 109, 184, 185, 186, 177, 178, 179, 180, 181, 182, 183, 163, 164, 165, 166, 167, 168, 169, 170, 171, 172, 173, 174, 175, 176, 187, 188, 189, 190, 191, 192, 193, 194, 195] rfl (by decide +kernel)
set_option maxRecDepth 20000 in
theorem gX5_whyWrong_X0_callOath : GoodIn wsX5_whyWrong (wsV RX5 110 RX0 yX0_callOath wsX0_callOath) := goodIn_app (goodIn_of _ (by decide +kernel)) ggX5_whyWrong_X0_callOath
set_option maxRecDepth 20000 in
theorem ggX5_whyWrong_X0_shareOut : GoodIn wsX5_whyWrong wsX0_shareOut := goodIn_r _ [113, 49, 60, 61, 62, 63, 64, 65, 66, 67, 68, 69, 70, 71, 72, 6, 73, 74, 75, 76, 77, 78, 79, 80, 81, 114, 115, 116, 117, 118, 119, 120, 121, 104, 105, 106, 107, 108, 122, 123, 124, 125, 126, 127, 128, 129, 130, 131, 132, 133, 134, 135, 136, 12, 137, 30, 138, 139, 140, 141, 142, 143, 144, 145, 146, 147, 148, 149, 150, 151, 152, 153, 154, 177, 178, 179, 180, 181, 182, 183, 184, 185, 186, 187, 188, 189, 190, 191, 192, 193, 194, 195, 163, 164, 165, 166, 167, 168, 169, 170, 171, 172, 173, 174, 175, 176] rfl (by decide +kernel)
set_option maxRecDepth 20000 in
theorem gX5_whyWrong_X0_shareOut : GoodIn wsX5_whyWrong (wsV RX5 113 RX0 yX0_shareOut wsX0_shareOut) := goodIn_app (goodIn_of _ (by decide +kernel)) ggX5_whyWrong_X0_shareOut
theorem dX5_whyWrong_0 : decode cX5_whyWrong 0 = .ok (.iload_n 2, 1) := by decide +kernel
theorem dX5_whyWrong_1 : decode cX5_whyWrong 1 = .ok (.tableswitch 137 14 18 #[35, 63, 75, 92, 109], 35) := by decide +kernel
theorem dX5_whyWrong_36 : decode cX5_whyWrong 36 = .ok (.aload_n 0, 1) := by decide +kernel
theorem dX5_whyWrong_37 : decode cX5_whyWrong 37 = .ok (.getfield 25, 3) := by decide +kernel
theorem dX5_whyWrong_40 : decode cX5_whyWrong 40 = .ok (.iload 4, 2) := by decide +kernel
theorem dX5_whyWrong_42 : decode cX5_whyWrong 42 = .ok (.invokevirtual 84, 3) := by decide +kernel
theorem dX5_whyWrong_45 : decode cX5_whyWrong 45 = .ok (.ifCond .eq 16, 3) := by decide +kernel
theorem dX5_whyWrong_48 : decode cX5_whyWrong 48 = .ok (.aload_n 0, 1) := by decide +kernel
theorem dX5_whyWrong_49 : decode cX5_whyWrong 49 = .ok (.getfield 29, 3) := by decide +kernel
theorem dX5_whyWrong_52 : decode cX5_whyWrong 52 = .ok (.aload_n 1, 1) := by decide +kernel
theorem dX5_whyWrong_53 : decode cX5_whyWrong 53 = .ok (.iload 4, 2) := by decide +kernel
theorem dX5_whyWrong_55 : decode cX5_whyWrong 55 = .ok (.invokevirtual 89, 3) := by decide +kernel
theorem dX5_whyWrong_58 : decode cX5_whyWrong 58 = .ok (.goto 5, 3) := by decide +kernel
theorem dX5_whyWrong_61 : decode cX5_whyWrong 61 = .ok (.bipush 9, 2) := by decide +kernel
theorem dX5_whyWrong_63 : decode cX5_whyWrong 63 = .ok (.ireturn, 1) := by decide +kernel
theorem dX5_whyWrong_64 : decode cX5_whyWrong 64 = .ok (.aload_n 0, 1) := by decide +kernel
theorem dX5_whyWrong_65 : decode cX5_whyWrong 65 = .ok (.getfield 29, 3) := by decide +kernel
theorem dX5_whyWrong_68 : decode cX5_whyWrong 68 = .ok (.aload_n 1, 1) := by decide +kernel
theorem dX5_whyWrong_69 : decode cX5_whyWrong 69 = .ok (.iload 4, 2) := by decide +kernel
theorem dX5_whyWrong_71 : decode cX5_whyWrong 71 = .ok (.invokevirtual 95, 3) := by decide +kernel
theorem dX5_whyWrong_74 : decode cX5_whyWrong 74 = .ok (.iconst 0, 1) := by decide +kernel
theorem dX5_whyWrong_75 : decode cX5_whyWrong 75 = .ok (.ireturn, 1) := by decide +kernel
theorem dX5_whyWrong_76 : decode cX5_whyWrong 76 = .ok (.bipush 10, 2) := by decide +kernel
theorem dX5_whyWrong_78 : decode cX5_whyWrong 78 = .ok (.aload_n 0, 1) := by decide +kernel
theorem dX5_whyWrong_79 : decode cX5_whyWrong 79 = .ok (.getfield 29, 3) := by decide +kernel
theorem dX5_whyWrong_82 : decode cX5_whyWrong 82 = .ok (.aload_n 1, 1) := by decide +kernel
theorem dX5_whyWrong_83 : decode cX5_whyWrong 83 = .ok (.iload_n 3, 1) := by decide +kernel
theorem dX5_whyWrong_84 : decode cX5_whyWrong 84 = .ok (.iload 4, 2) := by decide +kernel
theorem dX5_whyWrong_86 : decode cX5_whyWrong 86 = .ok (.invokevirtual 99, 3) := by decide +kernel
theorem dX5_whyWrong_89 : decode cX5_whyWrong 89 = .ok (.invokestatic 103, 3) := by decide +kernel
theorem dX5_whyWrong_92 : decode cX5_whyWrong 92 = .ok (.ireturn, 1) := by decide +kernel
theorem dX5_whyWrong_93 : decode cX5_whyWrong 93 = .ok (.bipush 20, 2) := by decide +kernel
theorem dX5_whyWrong_95 : decode cX5_whyWrong 95 = .ok (.aload_n 0, 1) := by decide +kernel
theorem dX5_whyWrong_96 : decode cX5_whyWrong 96 = .ok (.getfield 29, 3) := by decide +kernel
theorem dX5_whyWrong_99 : decode cX5_whyWrong 99 = .ok (.aload_n 1, 1) := by decide +kernel
theorem dX5_whyWrong_100 : decode cX5_whyWrong 100 = .ok (.iload_n 3, 1) := by decide +kernel
theorem dX5_whyWrong_101 : decode cX5_whyWrong 101 = .ok (.iload 4, 2) := by decide +kernel
theorem dX5_whyWrong_103 : decode cX5_whyWrong 103 = .ok (.invokevirtual 107, 3) := by decide +kernel
theorem dX5_whyWrong_106 : decode cX5_whyWrong 106 = .ok (.invokestatic 103, 3) := by decide +kernel
theorem dX5_whyWrong_109 : decode cX5_whyWrong 109 = .ok (.ireturn, 1) := by decide +kernel
theorem dX5_whyWrong_110 : decode cX5_whyWrong 110 = .ok (.iload_n 3, 1) := by decide +kernel
theorem dX5_whyWrong_111 : decode cX5_whyWrong 111 = .ok (.iload 4, 2) := by decide +kernel
theorem dX5_whyWrong_113 : decode cX5_whyWrong 113 = .ok (.if_icmp .ne 8, 3) := by decide +kernel
theorem dX5_whyWrong_116 : decode cX5_whyWrong 116 = .ok (.bipush 39, 2) := by decide +kernel
theorem dX5_whyWrong_118 : decode cX5_whyWrong 118 = .ok (.goto 19, 3) := by decide +kernel
theorem dX5_whyWrong_121 : decode cX5_whyWrong 121 = .ok (.bipush 30, 2) := by decide +kernel
theorem dX5_whyWrong_123 : decode cX5_whyWrong 123 = .ok (.aload_n 0, 1) := by decide +kernel
theorem dX5_whyWrong_124 : decode cX5_whyWrong 124 = .ok (.getfield 29, 3) := by decide +kernel
theorem dX5_whyWrong_127 : decode cX5_whyWrong 127 = .ok (.aload_n 1, 1) := by decide +kernel
theorem dX5_whyWrong_128 : decode cX5_whyWrong 128 = .ok (.iload_n 3, 1) := by decide +kernel
theorem dX5_whyWrong_129 : decode cX5_whyWrong 129 = .ok (.iload 4, 2) := by decide +kernel
theorem dX5_whyWrong_131 : decode cX5_whyWrong 131 = .ok (.invokevirtual 110, 3) := by decide +kernel
theorem dX5_whyWrong_134 : decode cX5_whyWrong 134 = .ok (.invokestatic 103, 3) := by decide +kernel
theorem dX5_whyWrong_137 : decode cX5_whyWrong 137 = .ok (.ireturn, 1) := by decide +kernel
theorem dX5_whyWrong_138 : decode cX5_whyWrong 138 = .ok (.bipush 40, 2) := by decide +kernel
theorem dX5_whyWrong_140 : decode cX5_whyWrong 140 = .ok (.aload_n 0, 1) := by decide +kernel
theorem dX5_whyWrong_141 : decode cX5_whyWrong 141 = .ok (.getfield 29, 3) := by decide +kernel
theorem dX5_whyWrong_144 : decode cX5_whyWrong 144 = .ok (.aload_n 1, 1) := by decide +kernel
theorem dX5_whyWrong_145 : decode cX5_whyWrong 145 = .ok (.invokevirtual 113, 3) := by decide +kernel
theorem dX5_whyWrong_148 : decode cX5_whyWrong 148 = .ok (.invokestatic 103, 3) := by decide +kernel
theorem dX5_whyWrong_151 : decode cX5_whyWrong 151 = .ok (.ireturn, 1) := by decide +kernel
theorem dX5_above_0 : decode cX5_above 0 = .ok (.iload_n 1, 1) := by decide +kernel
theorem dX5_above_1 : decode cX5_above 1 = .ok (.ifCond .ne 7, 3) := by decide +kernel
theorem dX5_above_4 : decode cX5_above 4 = .ok (.iconst 0, 1) := by decide +kernel
theorem dX5_above_5 : decode cX5_above 5 = .ok (.goto 6, 3) := by decide +kernel
theorem dX5_above_8 : decode cX5_above 8 = .ok (.iload_n 0, 1) := by decide +kernel
theorem dX5_above_9 : decode cX5_above 9 = .ok (.iload_n 1, 1) := by decide +kernel
theorem dX5_above_10 : decode cX5_above 10 = .ok (.iadd, 1) := by decide +kernel
theorem dX5_above_11 : decode cX5_above 11 = .ok (.ireturn, 1) := by decide +kernel
theorem dX6_init_0 : decode cX6_init 0 = .ok (.aload_n 0, 1) := by decide +kernel
theorem dX6_init_1 : decode cX6_init 1 = .ok (.invokespecial 3, 3) := by decide +kernel
theorem dX6_init_4 : decode cX6_init 4 = .ok (.aload_n 0, 1) := by decide +kernel
theorem dX6_init_5 : decode cX6_init 5 = .ok (.bipush 40, 2) := by decide +kernel
theorem dX6_init_7 : decode cX6_init 7 = .ok (.newarray .int, 2) := by decide +kernel
theorem dX6_init_9 : decode cX6_init 9 = .ok (.putfield 9, 3) := by decide +kernel
theorem dX6_init_12 : decode cX6_init 12 = .ok (.aload_n 0, 1) := by decide +kernel
theorem dX6_init_13 : decode cX6_init 13 = .ok (.bipush 40, 2) := by decide +kernel
theorem dX6_init_15 : decode cX6_init 15 = .ok (.newarray .int, 2) := by decide +kernel
theorem dX6_init_17 : decode cX6_init 17 = .ok (.putfield 15, 3) := by decide +kernel
theorem dX6_init_20 : decode cX6_init 20 = .ok (.aload_n 0, 1) := by decide +kernel
theorem dX6_init_21 : decode cX6_init 21 = .ok (.bipush 40, 2) := by decide +kernel
theorem dX6_init_23 : decode cX6_init 23 = .ok (.newarray .int, 2) := by decide +kernel
theorem dX6_init_25 : decode cX6_init 25 = .ok (.putfield 18, 3) := by decide +kernel
theorem dX6_init_28 : decode cX6_init 28 = .ok (.aload_n 0, 1) := by decide +kernel
theorem dX6_init_29 : decode cX6_init 29 = .ok (.bipush 40, 2) := by decide +kernel
theorem dX6_init_31 : decode cX6_init 31 = .ok (.newarray .int, 2) := by decide +kernel
theorem dX6_init_33 : decode cX6_init 33 = .ok (.putfield 21, 3) := by decide +kernel
theorem dX6_init_36 : decode cX6_init 36 = .ok (.return_, 1) := by decide +kernel
theorem dX6_clear_0 : decode cX6_clear 0 = .ok (.aload_n 0, 1) := by decide +kernel
theorem dX6_clear_1 : decode cX6_clear 1 = .ok (.iconst 0, 1) := by decide +kernel
theorem dX6_clear_2 : decode cX6_clear 2 = .ok (.putfield 24, 3) := by decide +kernel
theorem dX6_clear_5 : decode cX6_clear 5 = .ok (.aload_n 0, 1) := by decide +kernel
theorem dX6_clear_6 : decode cX6_clear 6 = .ok (.iconst 0, 1) := by decide +kernel
theorem dX6_clear_7 : decode cX6_clear 7 = .ok (.putfield 28, 3) := by decide +kernel
theorem dX6_clear_10 : decode cX6_clear 10 = .ok (.aload_n 0, 1) := by decide +kernel
theorem dX6_clear_11 : decode cX6_clear 11 = .ok (.iconst 0, 1) := by decide +kernel
theorem dX6_clear_12 : decode cX6_clear 12 = .ok (.putfield 32, 3) := by decide +kernel
theorem dX6_clear_15 : decode cX6_clear 15 = .ok (.return_, 1) := by decide +kernel
theorem dX6_copyFrom_0 : decode cX6_copyFrom 0 = .ok (.aload_n 0, 1) := by decide +kernel
theorem dX6_copyFrom_1 : decode cX6_copyFrom 1 = .ok (.aload_n 1, 1) := by decide +kernel
theorem dX6_copyFrom_2 : decode cX6_copyFrom 2 = .ok (.getfield 24, 3) := by decide +kernel
theorem dX6_copyFrom_5 : decode cX6_copyFrom 5 = .ok (.putfield 24, 3) := by decide +kernel
theorem dX6_copyFrom_8 : decode cX6_copyFrom 8 = .ok (.aload_n 0, 1) := by decide +kernel
theorem dX6_copyFrom_9 : decode cX6_copyFrom 9 = .ok (.aload_n 1, 1) := by decide +kernel
theorem dX6_copyFrom_10 : decode cX6_copyFrom 10 = .ok (.getfield 28, 3) := by decide +kernel
theorem dX6_copyFrom_13 : decode cX6_copyFrom 13 = .ok (.putfield 28, 3) := by decide +kernel
theorem dX6_copyFrom_16 : decode cX6_copyFrom 16 = .ok (.aload_n 0, 1) := by decide +kernel
theorem dX6_copyFrom_17 : decode cX6_copyFrom 17 = .ok (.aload_n 1, 1) := by decide +kernel
theorem dX6_copyFrom_18 : decode cX6_copyFrom 18 = .ok (.getfield 32, 3) := by decide +kernel
theorem dX6_copyFrom_21 : decode cX6_copyFrom 21 = .ok (.putfield 32, 3) := by decide +kernel
theorem dX6_copyFrom_24 : decode cX6_copyFrom 24 = .ok (.aload_n 1, 1) := by decide +kernel
theorem dX6_copyFrom_25 : decode cX6_copyFrom 25 = .ok (.getfield 9, 3) := by decide +kernel
theorem dX6_copyFrom_28 : decode cX6_copyFrom 28 = .ok (.iconst 0, 1) := by decide +kernel
theorem dX6_copyFrom_29 : decode cX6_copyFrom 29 = .ok (.aload_n 0, 1) := by decide +kernel
theorem dX6_copyFrom_30 : decode cX6_copyFrom 30 = .ok (.getfield 9, 3) := by decide +kernel
theorem dX6_copyFrom_33 : decode cX6_copyFrom 33 = .ok (.iconst 0, 1) := by decide +kernel
theorem dX6_copyFrom_34 : decode cX6_copyFrom 34 = .ok (.bipush 40, 2) := by decide +kernel
theorem dX6_copyFrom_36 : decode cX6_copyFrom 36 = .ok (.invokestatic 35, 3) := by decide +kernel
theorem dX6_copyFrom_39 : decode cX6_copyFrom 39 = .ok (.aload_n 1, 1) := by decide +kernel
theorem dX6_copyFrom_40 : decode cX6_copyFrom 40 = .ok (.getfield 15, 3) := by decide +kernel
theorem dX6_copyFrom_43 : decode cX6_copyFrom 43 = .ok (.iconst 0, 1) := by decide +kernel
theorem dX6_copyFrom_44 : decode cX6_copyFrom 44 = .ok (.aload_n 0, 1) := by decide +kernel
theorem dX6_copyFrom_45 : decode cX6_copyFrom 45 = .ok (.getfield 15, 3) := by decide +kernel
theorem dX6_copyFrom_48 : decode cX6_copyFrom 48 = .ok (.iconst 0, 1) := by decide +kernel
theorem dX6_copyFrom_49 : decode cX6_copyFrom 49 = .ok (.bipush 40, 2) := by decide +kernel
theorem dX6_copyFrom_51 : decode cX6_copyFrom 51 = .ok (.invokestatic 35, 3) := by decide +kernel
theorem dX6_copyFrom_54 : decode cX6_copyFrom 54 = .ok (.aload_n 1, 1) := by decide +kernel
theorem dX6_copyFrom_55 : decode cX6_copyFrom 55 = .ok (.getfield 18, 3) := by decide +kernel
theorem dX6_copyFrom_58 : decode cX6_copyFrom 58 = .ok (.iconst 0, 1) := by decide +kernel
theorem dX6_copyFrom_59 : decode cX6_copyFrom 59 = .ok (.aload_n 0, 1) := by decide +kernel
theorem dX6_copyFrom_60 : decode cX6_copyFrom 60 = .ok (.getfield 18, 3) := by decide +kernel
theorem dX6_copyFrom_63 : decode cX6_copyFrom 63 = .ok (.iconst 0, 1) := by decide +kernel
theorem dX6_copyFrom_64 : decode cX6_copyFrom 64 = .ok (.bipush 40, 2) := by decide +kernel
theorem dX6_copyFrom_66 : decode cX6_copyFrom 66 = .ok (.invokestatic 35, 3) := by decide +kernel
theorem dX6_copyFrom_69 : decode cX6_copyFrom 69 = .ok (.return_, 1) := by decide +kernel
theorem dX6_add_0 : decode cX6_add 0 = .ok (.aload_n 0, 1) := by decide +kernel
theorem dX6_add_1 : decode cX6_add 1 = .ok (.getfield 32, 3) := by decide +kernel
theorem dX6_add_4 : decode cX6_add 4 = .ok (.bipush 40, 2) := by decide +kernel
theorem dX6_add_6 : decode cX6_add 6 = .ok (.if_icmp .lt 5, 3) := by decide +kernel
theorem dX6_add_9 : decode cX6_add 9 = .ok (.iconst 0, 1) := by decide +kernel
theorem dX6_add_10 : decode cX6_add 10 = .ok (.ireturn, 1) := by decide +kernel
theorem dX6_add_11 : decode cX6_add 11 = .ok (.aload_n 0, 1) := by decide +kernel
theorem dX6_add_12 : decode cX6_add 12 = .ok (.getfield 9, 3) := by decide +kernel
theorem dX6_add_15 : decode cX6_add 15 = .ok (.aload_n 0, 1) := by decide +kernel
theorem dX6_add_16 : decode cX6_add 16 = .ok (.getfield 32, 3) := by decide +kernel
theorem dX6_add_19 : decode cX6_add 19 = .ok (.iload_n 1, 1) := by decide +kernel
theorem dX6_add_20 : decode cX6_add 20 = .ok (.iastore, 1) := by decide +kernel
theorem dX6_add_21 : decode cX6_add 21 = .ok (.aload_n 0, 1) := by decide +kernel
theorem dX6_add_22 : decode cX6_add 22 = .ok (.getfield 15, 3) := by decide +kernel
theorem dX6_add_25 : decode cX6_add 25 = .ok (.aload_n 0, 1) := by decide +kernel
theorem dX6_add_26 : decode cX6_add 26 = .ok (.getfield 32, 3) := by decide +kernel
theorem dX6_add_29 : decode cX6_add 29 = .ok (.iload_n 2, 1) := by decide +kernel
theorem dX6_add_30 : decode cX6_add 30 = .ok (.iastore, 1) := by decide +kernel
theorem dX6_add_31 : decode cX6_add 31 = .ok (.aload_n 0, 1) := by decide +kernel
theorem dX6_add_32 : decode cX6_add 32 = .ok (.getfield 18, 3) := by decide +kernel
theorem dX6_add_35 : decode cX6_add 35 = .ok (.aload_n 0, 1) := by decide +kernel
theorem dX6_add_36 : decode cX6_add 36 = .ok (.getfield 32, 3) := by decide +kernel
theorem dX6_add_39 : decode cX6_add 39 = .ok (.iload_n 3, 1) := by decide +kernel
theorem dX6_add_40 : decode cX6_add 40 = .ok (.iastore, 1) := by decide +kernel
theorem dX6_add_41 : decode cX6_add 41 = .ok (.aload_n 0, 1) := by decide +kernel
theorem dX6_add_42 : decode cX6_add 42 = .ok (.dup, 1) := by decide +kernel
theorem dX6_add_43 : decode cX6_add 43 = .ok (.getfield 32, 3) := by decide +kernel
theorem dX6_add_46 : decode cX6_add 46 = .ok (.iconst 1, 1) := by decide +kernel
theorem dX6_add_47 : decode cX6_add 47 = .ok (.iadd, 1) := by decide +kernel
theorem dX6_add_48 : decode cX6_add 48 = .ok (.putfield 32, 3) := by decide +kernel
theorem dX6_add_51 : decode cX6_add 51 = .ok (.iconst 1, 1) := by decide +kernel
theorem dX6_add_52 : decode cX6_add 52 = .ok (.ireturn, 1) := by decide +kernel
set_option maxRecDepth 20000 in
theorem ggX6_menOfWhom_X9_allMen : GoodIn wsX6_menOfWhom wsX9_allMen := goodIn_r _ [8, 9, 127, 128, 129, 130, 131, 132, 133, 134, 135, 136, 137, 138, 139, 140] rfl (by decide +kernel)
set_option maxRecDepth 20000 in
theorem gX6_menOfWhom_X9_allMen : GoodIn wsX6_menOfWhom (wsV RX6 41 RX9 yX9_allMen wsX9_allMen) := goodIn_app (goodIn_of _ (by decide +kernel)) ggX6_menOfWhom_X9_allMen
set_option maxRecDepth 20000 in
theorem ggX6_menOfWhom_X6_menOfStep : GoodIn wsX6_menOfWhom wsX6_menOfStep := goodIn_r _ [14, 2, 15, 16, 17, 18, 19, 20, 21, 22, 23, 24, 25, 26, 27, 28, 29, 30, 31, 32, 33, 34, 35, 36, 37, 38, 39, 40, 41, 7, 42, 43, 44, 45, 46, 47, 48, 49, 50, 51, 52, 53, 54, 55, 56, 57, 58, 59, 60, 61, 62, 63, 64, 65, 66, 67, 68, 69, 70, 71, 72, 73, 74, 75, 76, 77, 78, 79, 80, 81, 82, 83, 84, 85, 86, 87, 88, 89, 90, 91, 92, 93, 94, 95, 96, 97, 98, 99, 100, 101, 102, 103, 104, 105, 106, 107, 108, 109, 110, 13, 111, 112, 113, 114, 115, 116, 117, 118, 119, 120, 121, 122, 123, 124, 125, 126, 127, 128, 129, 130, 131, 132, 133, 134, 135, 136, 137, 138, 139, 140, 141, 142, 143, 144, 145, 146, 147, 148, 149, 150, 151, 152, 153, 154, 155, 156, 157, 158, 159] rfl (by decide +kernel)
set_option maxRecDepth 20000 in
theorem gX6_menOfWhom_X6_menOfStep : GoodIn wsX6_menOfWhom (wsV RX6 47 RX6 yX6_menOfStep wsX6_menOfStep) := goodIn_app (goodIn_of _ (by decide +kernel)) ggX6_menOfWhom_X6_menOfStep
theorem dX6_menOfWhom_0 : decode cX6_menOfWhom 0 = .ok (.iconst 0, 1) := by decide +kernel
theorem dX6_menOfWhom_1 : decode cX6_menOfWhom 1 = .ok (.istore 4, 2) := by decide +kernel
theorem dX6_menOfWhom_3 : decode cX6_menOfWhom 3 = .ok (.iconst 0, 1) := by decide +kernel
theorem dX6_menOfWhom_4 : decode cX6_menOfWhom 4 = .ok (.istore 5, 2) := by decide +kernel
theorem dX6_menOfWhom_6 : decode cX6_menOfWhom 6 = .ok (.iload 5, 2) := by decide +kernel
theorem dX6_menOfWhom_8 : decode cX6_menOfWhom 8 = .ok (.aload_n 0, 1) := by decide +kernel
theorem dX6_menOfWhom_9 : decode cX6_menOfWhom 9 = .ok (.getfield 32, 3) := by decide +kernel
theorem dX6_menOfWhom_12 : decode cX6_menOfWhom 12 = .ok (.if_icmp .ge 168, 3) := by decide +kernel
theorem dX6_menOfWhom_15 : decode cX6_menOfWhom 15 = .ok (.iload 5, 2) := by decide +kernel
theorem dX6_menOfWhom_17 : decode cX6_menOfWhom 17 = .ok (.bipush 40, 2) := by decide +kernel
theorem dX6_menOfWhom_19 : decode cX6_menOfWhom 19 = .ok (.if_icmp .ge 161, 3) := by decide +kernel
theorem dX6_menOfWhom_22 : decode cX6_menOfWhom 22 = .ok (.aload_n 0, 1) := by decide +kernel
theorem dX6_menOfWhom_23 : decode cX6_menOfWhom 23 = .ok (.getfield 9, 3) := by decide +kernel
theorem dX6_menOfWhom_26 : decode cX6_menOfWhom 26 = .ok (.iload 5, 2) := by decide +kernel
theorem dX6_menOfWhom_28 : decode cX6_menOfWhom 28 = .ok (.iaload, 1) := by decide +kernel
theorem dX6_menOfWhom_29 : decode cX6_menOfWhom 29 = .ok (.istore 6, 2) := by decide +kernel
theorem dX6_menOfWhom_31 : decode cX6_menOfWhom 31 = .ok (.iload 6, 2) := by decide +kernel
theorem dX6_menOfWhom_33 : decode cX6_menOfWhom 33 = .ok (.bipush 22, 2) := by decide +kernel
theorem dX6_menOfWhom_35 : decode cX6_menOfWhom 35 = .ok (.if_icmp .ne 37, 3) := by decide +kernel
theorem dX6_menOfWhom_38 : decode cX6_menOfWhom 38 = .ok (.iload 4, 2) := by decide +kernel
theorem dX6_menOfWhom_40 : decode cX6_menOfWhom 40 = .ok (.iconst 1, 1) := by decide +kernel
theorem dX6_menOfWhom_41 : decode cX6_menOfWhom 41 = .ok (.if_icmp .lt 31, 3) := by decide +kernel
theorem dX6_menOfWhom_44 : decode cX6_menOfWhom 44 = .ok (.aload_n 0, 1) := by decide +kernel
theorem dX6_menOfWhom_45 : decode cX6_menOfWhom 45 = .ok (.getfield 21, 3) := by decide +kernel
theorem dX6_menOfWhom_48 : decode cX6_menOfWhom 48 = .ok (.iload 4, 2) := by decide +kernel
theorem dX6_menOfWhom_50 : decode cX6_menOfWhom 50 = .ok (.iconst 1, 1) := by decide +kernel
theorem dX6_menOfWhom_51 : decode cX6_menOfWhom 51 = .ok (.isub, 1) := by decide +kernel
theorem dX6_menOfWhom_52 : decode cX6_menOfWhom 52 = .ok (.aload_n 1, 1) := by decide +kernel
theorem dX6_menOfWhom_53 : decode cX6_menOfWhom 53 = .ok (.invokevirtual 41, 3) := by decide +kernel
theorem dX6_menOfWhom_56 : decode cX6_menOfWhom 56 = .ok (.aload_n 0, 1) := by decide +kernel
theorem dX6_menOfWhom_57 : decode cX6_menOfWhom 57 = .ok (.getfield 21, 3) := by decide +kernel
theorem dX6_menOfWhom_60 : decode cX6_menOfWhom 60 = .ok (.iload 4, 2) := by decide +kernel
theorem dX6_menOfWhom_62 : decode cX6_menOfWhom 62 = .ok (.iconst 1, 1) := by decide +kernel
theorem dX6_menOfWhom_63 : decode cX6_menOfWhom 63 = .ok (.isub, 1) := by decide +kernel
theorem dX6_menOfWhom_64 : decode cX6_menOfWhom 64 = .ok (.iaload, 1) := by decide +kernel
theorem dX6_menOfWhom_65 : decode cX6_menOfWhom 65 = .ok (.iconst (-1), 1) := by decide +kernel
theorem dX6_menOfWhom_66 : decode cX6_menOfWhom 66 = .ok (.ixor, 1) := by decide +kernel
theorem dX6_menOfWhom_67 : decode cX6_menOfWhom 67 = .ok (.iand, 1) := by decide +kernel
theorem dX6_menOfWhom_68 : decode cX6_menOfWhom 68 = .ok (.iastore, 1) := by decide +kernel
theorem dX6_menOfWhom_69 : decode cX6_menOfWhom 69 = .ok (.goto 105, 3) := by decide +kernel
theorem dX6_menOfWhom_72 : decode cX6_menOfWhom 72 = .ok (.iload 6, 2) := by decide +kernel
theorem dX6_menOfWhom_74 : decode cX6_menOfWhom 74 = .ok (.bipush 21, 2) := by decide +kernel
theorem dX6_menOfWhom_76 : decode cX6_menOfWhom 76 = .ok (.if_icmp .ne 34, 3) := by decide +kernel
theorem dX6_menOfWhom_79 : decode cX6_menOfWhom 79 = .ok (.iload 4, 2) := by decide +kernel
theorem dX6_menOfWhom_81 : decode cX6_menOfWhom 81 = .ok (.iconst 2, 1) := by decide +kernel
theorem dX6_menOfWhom_82 : decode cX6_menOfWhom 82 = .ok (.if_icmp .lt 28, 3) := by decide +kernel
theorem dX6_menOfWhom_85 : decode cX6_menOfWhom 85 = .ok (.iinc 4 (-1), 3) := by decide +kernel
theorem dX6_menOfWhom_88 : decode cX6_menOfWhom 88 = .ok (.aload_n 0, 1) := by decide +kernel
theorem dX6_menOfWhom_89 : decode cX6_menOfWhom 89 = .ok (.getfield 21, 3) := by decide +kernel
theorem dX6_menOfWhom_92 : decode cX6_menOfWhom 92 = .ok (.iload 4, 2) := by decide +kernel
theorem dX6_menOfWhom_94 : decode cX6_menOfWhom 94 = .ok (.iconst 1, 1) := by decide +kernel
theorem dX6_menOfWhom_95 : decode cX6_menOfWhom 95 = .ok (.isub, 1) := by decide +kernel
theorem dX6_menOfWhom_96 : decode cX6_menOfWhom 96 = .ok (.dup2, 1) := by decide +kernel
theorem dX6_menOfWhom_97 : decode cX6_menOfWhom 97 = .ok (.iaload, 1) := by decide +kernel
theorem dX6_menOfWhom_98 : decode cX6_menOfWhom 98 = .ok (.aload_n 0, 1) := by decide +kernel
theorem dX6_menOfWhom_99 : decode cX6_menOfWhom 99 = .ok (.getfield 21, 3) := by decide +kernel
theorem dX6_menOfWhom_102 : decode cX6_menOfWhom 102 = .ok (.iload 4, 2) := by decide +kernel
theorem dX6_menOfWhom_104 : decode cX6_menOfWhom 104 = .ok (.iaload, 1) := by decide +kernel
theorem dX6_menOfWhom_105 : decode cX6_menOfWhom 105 = .ok (.iand, 1) := by decide +kernel
theorem dX6_menOfWhom_106 : decode cX6_menOfWhom 106 = .ok (.iastore, 1) := by decide +kernel
theorem dX6_menOfWhom_107 : decode cX6_menOfWhom 107 = .ok (.goto 67, 3) := by decide +kernel
theorem dX6_menOfWhom_110 : decode cX6_menOfWhom 110 = .ok (.iload 6, 2) := by decide +kernel
theorem dX6_menOfWhom_112 : decode cX6_menOfWhom 112 = .ok (.bipush 20, 2) := by decide +kernel
theorem dX6_menOfWhom_114 : decode cX6_menOfWhom 114 = .ok (.if_icmp .ne 34, 3) := by decide +kernel
theorem dX6_menOfWhom_117 : decode cX6_menOfWhom 117 = .ok (.iload 4, 2) := by decide +kernel
theorem dX6_menOfWhom_119 : decode cX6_menOfWhom 119 = .ok (.iconst 2, 1) := by decide +kernel
theorem dX6_menOfWhom_120 : decode cX6_menOfWhom 120 = .ok (.if_icmp .lt 28, 3) := by decide +kernel
theorem dX6_menOfWhom_123 : decode cX6_menOfWhom 123 = .ok (.iinc 4 (-1), 3) := by decide +kernel
theorem dX6_menOfWhom_126 : decode cX6_menOfWhom 126 = .ok (.aload_n 0, 1) := by decide +kernel
theorem dX6_menOfWhom_127 : decode cX6_menOfWhom 127 = .ok (.getfield 21, 3) := by decide +kernel
theorem dX6_menOfWhom_130 : decode cX6_menOfWhom 130 = .ok (.iload 4, 2) := by decide +kernel
theorem dX6_menOfWhom_132 : decode cX6_menOfWhom 132 = .ok (.iconst 1, 1) := by decide +kernel
theorem dX6_menOfWhom_133 : decode cX6_menOfWhom 133 = .ok (.isub, 1) := by decide +kernel
theorem dX6_menOfWhom_134 : decode cX6_menOfWhom 134 = .ok (.dup2, 1) := by decide +kernel
theorem dX6_menOfWhom_135 : decode cX6_menOfWhom 135 = .ok (.iaload, 1) := by decide +kernel
theorem dX6_menOfWhom_136 : decode cX6_menOfWhom 136 = .ok (.aload_n 0, 1) := by decide +kernel
theorem dX6_menOfWhom_137 : decode cX6_menOfWhom 137 = .ok (.getfield 21, 3) := by decide +kernel
theorem dX6_menOfWhom_140 : decode cX6_menOfWhom 140 = .ok (.iload 4, 2) := by decide +kernel
theorem dX6_menOfWhom_142 : decode cX6_menOfWhom 142 = .ok (.iaload, 1) := by decide +kernel
theorem dX6_menOfWhom_143 : decode cX6_menOfWhom 143 = .ok (.ior, 1) := by decide +kernel
theorem dX6_menOfWhom_144 : decode cX6_menOfWhom 144 = .ok (.iastore, 1) := by decide +kernel
theorem dX6_menOfWhom_145 : decode cX6_menOfWhom 145 = .ok (.goto 29, 3) := by decide +kernel
theorem dX6_menOfWhom_148 : decode cX6_menOfWhom 148 = .ok (.iload 4, 2) := by decide +kernel
theorem dX6_menOfWhom_150 : decode cX6_menOfWhom 150 = .ok (.bipush 40, 2) := by decide +kernel
theorem dX6_menOfWhom_152 : decode cX6_menOfWhom 152 = .ok (.if_icmp .ge 22, 3) := by decide +kernel
theorem dX6_menOfWhom_155 : decode cX6_menOfWhom 155 = .ok (.aload_n 0, 1) := by decide +kernel
theorem dX6_menOfWhom_156 : decode cX6_menOfWhom 156 = .ok (.getfield 21, 3) := by decide +kernel
theorem dX6_menOfWhom_159 : decode cX6_menOfWhom 159 = .ok (.iload 4, 2) := by decide +kernel
theorem dX6_menOfWhom_161 : decode cX6_menOfWhom 161 = .ok (.aload_n 0, 1) := by decide +kernel
theorem dX6_menOfWhom_162 : decode cX6_menOfWhom 162 = .ok (.iload 5, 2) := by decide +kernel
theorem dX6_menOfWhom_164 : decode cX6_menOfWhom 164 = .ok (.aload_n 1, 1) := by decide +kernel
theorem dX6_menOfWhom_165 : decode cX6_menOfWhom 165 = .ok (.aload_n 2, 1) := by decide +kernel
theorem dX6_menOfWhom_166 : decode cX6_menOfWhom 166 = .ok (.aload_n 3, 1) := by decide +kernel
theorem dX6_menOfWhom_167 : decode cX6_menOfWhom 167 = .ok (.invokevirtual 47, 3) := by decide +kernel
theorem dX6_menOfWhom_170 : decode cX6_menOfWhom 170 = .ok (.iastore, 1) := by decide +kernel
theorem dX6_menOfWhom_171 : decode cX6_menOfWhom 171 = .ok (.iinc 4 1, 3) := by decide +kernel
theorem dX6_menOfWhom_174 : decode cX6_menOfWhom 174 = .ok (.iinc 5 1, 3) := by decide +kernel
theorem dX6_menOfWhom_177 : decode cX6_menOfWhom 177 = .ok (.goto (-171), 3) := by decide +kernel
theorem dX6_menOfWhom_180 : decode cX6_menOfWhom 180 = .ok (.iload 4, 2) := by decide +kernel
theorem dX6_menOfWhom_182 : decode cX6_menOfWhom 182 = .ok (.iconst 1, 1) := by decide +kernel
theorem dX6_menOfWhom_183 : decode cX6_menOfWhom 183 = .ok (.if_icmp .ne 12, 3) := by decide +kernel
theorem dX6_menOfWhom_186 : decode cX6_menOfWhom 186 = .ok (.aload_n 0, 1) := by decide +kernel
theorem dX6_menOfWhom_187 : decode cX6_menOfWhom 187 = .ok (.getfield 21, 3) := by decide +kernel
theorem dX6_menOfWhom_190 : decode cX6_menOfWhom 190 = .ok (.iconst 0, 1) := by decide +kernel
theorem dX6_menOfWhom_191 : decode cX6_menOfWhom 191 = .ok (.iaload, 1) := by decide +kernel
theorem dX6_menOfWhom_192 : decode cX6_menOfWhom 192 = .ok (.goto 4, 3) := by decide +kernel
theorem dX6_menOfWhom_195 : decode cX6_menOfWhom 195 = .ok (.iconst 0, 1) := by decide +kernel
theorem dX6_menOfWhom_196 : decode cX6_menOfWhom 196 = .ok (.ireturn, 1) := by decide +kernel
set_option maxRecDepth 20000 in
theorem ggX6_menOfStep_X2_swornMen : GoodIn wsX6_menOfStep wsX2_swornMen := goodIn_r _ [7, 8, 130, 131, 132, 133, 134, 135, 136] rfl (by decide +kernel)
set_option maxRecDepth 20000 in
theorem gX6_menOfStep_X2_swornMen : GoodIn wsX6_menOfStep (wsV RX6 54 RX2 yX2_swornMen wsX2_swornMen) := goodIn_app (goodIn_of _ (by decide +kernel)) ggX6_menOfStep_X2_swornMen
set_option maxRecDepth 20000 in
theorem ggX6_menOfStep_X0_liars : GoodIn wsX6_menOfStep wsX0_liars := goodIn_r _ [13, 14, 15, 16, 17, 18, 19, 20, 21, 22, 23, 24, 25, 26, 27, 28, 29, 30, 31, 32, 33, 34, 35, 36, 37, 38, 39, 40, 41, 42, 43, 44, 45, 46, 47, 48, 49, 50, 51, 52, 53, 54, 55, 56, 57, 58, 59, 60, 61, 62, 63, 64, 65, 66, 67, 68, 69, 70, 71, 72, 73, 74, 75, 76, 77, 78, 79, 80, 137, 138, 139, 116, 117, 118, 119, 120, 121, 122, 123, 124, 125, 126, 127, 128, 129, 130, 131, 132, 133, 134, 135, 136, 140, 141, 142, 143, 144, 145, 146, 147, 148] rfl (by decide +kernel)
set_option maxRecDepth 20000 in
theorem gX6_menOfStep_X0_liars : GoodIn wsX6_menOfStep (wsV RX6 60 RX0 yX0_liars wsX0_liars) := goodIn_app (goodIn_of _ (by decide +kernel)) ggX6_menOfStep_X0_liars
set_option maxRecDepth 20000 in
theorem ggX6_menOfStep_X2_menOn : GoodIn wsX6_menOfStep wsX2_menOn := goodIn_r _ [84, 85, 130, 131, 132, 133, 134, 135, 136] rfl (by decide +kernel)
set_option maxRecDepth 20000 in
theorem gX6_menOfStep_X2_menOn : GoodIn wsX6_menOfStep (wsV RX6 66 RX2 yX2_menOn wsX2_menOn) := goodIn_app (goodIn_of _ (by decide +kernel)) ggX6_menOfStep_X2_menOn
set_option maxRecDepth 20000 in
theorem ggX6_menOfStep_X0_hearersSoFar : GoodIn wsX6_menOfStep wsX0_hearersSoFar := goodIn_r _ [89, 14, 16, 17, 18, 19, 20, 21, 22, 23, 24, 25, 26, 27, 28, 29, 30, 31, 32, 33, 34, 35, 36, 37, 38, 90, 91, 92, 12, 93, 15, 94, 45, 46, 47, 48, 95, 58, 59, 60, 61, 49, 50, 51, 52, 53, 54, 55, 56, 57, 62, 63, 64, 65, 66, 67, 68, 69, 70, 71, 72, 73, 74, 75, 76, 77, 78, 79, 80, 137, 138, 139, 130, 131, 132, 133, 134, 135, 136, 140, 141, 142, 143, 144, 145, 146, 147, 148, 116, 117, 118, 119, 120, 121, 122, 123, 124, 125, 126, 127, 128, 129] rfl (by decide +kernel)
set_option maxRecDepth 20000 in
theorem gX6_menOfStep_X0_hearersSoFar : GoodIn wsX6_menOfStep (wsV RX6 70 RX0 yX0_hearersSoFar wsX0_hearersSoFar) := goodIn_app (goodIn_of _ (by decide +kernel)) ggX6_menOfStep_X0_hearersSoFar
set_option maxRecDepth 20000 in
theorem ggX6_menOfStep_X6_menWhoAre : GoodIn wsX6_menOfStep wsX6_menWhoAre := goodIn_r _ [100, 1, 101, 102, 99, 103, 104, 105, 106, 107, 108, 2, 116, 117, 118, 119, 120, 121, 122, 123, 124, 125, 126, 127, 128, 129, 109, 110, 111, 112, 113, 114, 115, 130, 131, 132, 133, 134, 135, 136] rfl (by decide +kernel)
set_option maxRecDepth 20000 in
theorem gX6_menOfStep_X6_menWhoAre : GoodIn wsX6_menOfStep (wsV RX6 73 RX6 yX6_menWhoAre wsX6_menWhoAre) := goodIn_app (goodIn_of _ (by decide +kernel)) ggX6_menOfStep_X6_menWhoAre
theorem dX6_menOfStep_0 : decode cX6_menOfStep 0 = .ok (.aload_n 0, 1) := by decide +kernel
theorem dX6_menOfStep_1 : decode cX6_menOfStep 1 = .ok (.getfield 9, 3) := by decide +kernel
theorem dX6_menOfStep_4 : decode cX6_menOfStep 4 = .ok (.iload_n 1, 1) := by decide +kernel
theorem dX6_menOfStep_5 : decode cX6_menOfStep 5 = .ok (.iaload, 1) := by decide +kernel
theorem dX6_menOfStep_6 : decode cX6_menOfStep 6 = .ok (.tableswitch 68 23 26 #[30, 39, 46, 61], 30) := by decide +kernel
theorem dX6_menOfStep_36 : decode cX6_menOfStep 36 = .ok (.aload_n 3, 1) := by decide +kernel
theorem dX6_menOfStep_37 : decode cX6_menOfStep 37 = .ok (.aload_n 2, 1) := by decide +kernel
theorem dX6_menOfStep_38 : decode cX6_menOfStep 38 = .ok (.getfield 51, 3) := by decide +kernel
theorem dX6_menOfStep_41 : decode cX6_menOfStep 41 = .ok (.invokevirtual 54, 3) := by decide +kernel
theorem dX6_menOfStep_44 : decode cX6_menOfStep 44 = .ok (.ireturn, 1) := by decide +kernel
theorem dX6_menOfStep_45 : decode cX6_menOfStep 45 = .ok (.aload 4, 2) := by decide +kernel
theorem dX6_menOfStep_47 : decode cX6_menOfStep 47 = .ok (.aload_n 3, 1) := by decide +kernel
theorem dX6_menOfStep_48 : decode cX6_menOfStep 48 = .ok (.invokevirtual 60, 3) := by decide +kernel
theorem dX6_menOfStep_51 : decode cX6_menOfStep 51 = .ok (.ireturn, 1) := by decide +kernel
theorem dX6_menOfStep_52 : decode cX6_menOfStep 52 = .ok (.aload_n 3, 1) := by decide +kernel
theorem dX6_menOfStep_53 : decode cX6_menOfStep 53 = .ok (.aload_n 0, 1) := by decide +kernel
theorem dX6_menOfStep_54 : decode cX6_menOfStep 54 = .ok (.getfield 18, 3) := by decide +kernel
theorem dX6_menOfStep_57 : decode cX6_menOfStep 57 = .ok (.iload_n 1, 1) := by decide +kernel
theorem dX6_menOfStep_58 : decode cX6_menOfStep 58 = .ok (.iaload, 1) := by decide +kernel
theorem dX6_menOfStep_59 : decode cX6_menOfStep 59 = .ok (.aload_n 2, 1) := by decide +kernel
theorem dX6_menOfStep_60 : decode cX6_menOfStep 60 = .ok (.getfield 51, 3) := by decide +kernel
theorem dX6_menOfStep_63 : decode cX6_menOfStep 63 = .ok (.invokevirtual 66, 3) := by decide +kernel
theorem dX6_menOfStep_66 : decode cX6_menOfStep 66 = .ok (.ireturn, 1) := by decide +kernel
theorem dX6_menOfStep_67 : decode cX6_menOfStep 67 = .ok (.aload 4, 2) := by decide +kernel
theorem dX6_menOfStep_69 : decode cX6_menOfStep 69 = .ok (.aload_n 3, 1) := by decide +kernel
theorem dX6_menOfStep_70 : decode cX6_menOfStep 70 = .ok (.invokevirtual 70, 3) := by decide +kernel
theorem dX6_menOfStep_73 : decode cX6_menOfStep 73 = .ok (.ireturn, 1) := by decide +kernel
theorem dX6_menOfStep_74 : decode cX6_menOfStep 74 = .ok (.aload_n 0, 1) := by decide +kernel
theorem dX6_menOfStep_75 : decode cX6_menOfStep 75 = .ok (.iload_n 1, 1) := by decide +kernel
theorem dX6_menOfStep_76 : decode cX6_menOfStep 76 = .ok (.aload_n 2, 1) := by decide +kernel
theorem dX6_menOfStep_77 : decode cX6_menOfStep 77 = .ok (.aload_n 3, 1) := by decide +kernel
theorem dX6_menOfStep_78 : decode cX6_menOfStep 78 = .ok (.invokevirtual 73, 3) := by decide +kernel
theorem dX6_menOfStep_81 : decode cX6_menOfStep 81 = .ok (.ireturn, 1) := by decide +kernel
set_option maxRecDepth 20000 in
theorem ggX6_menWhoAre_X6_measure : GoodIn wsX6_menWhoAre wsX6_measure := goodIn_r _ [5, 12, 13, 14, 15, 16, 17, 18, 19, 20, 21, 22, 23, 24, 25, 33, 34, 35, 36, 37, 38, 39] rfl (by decide +kernel)
set_option maxRecDepth 20000 in
theorem gX6_menWhoAre_X6_measure : GoodIn wsX6_menWhoAre (va_wsS RX6 77 yX6_measure wsX6_measure) := goodIn_app (goodIn_of _ (by decide +kernel)) ggX6_menWhoAre_X6_measure
set_option maxRecDepth 20000 in
theorem ggX6_menWhoAre_X6_isSo : GoodIn wsX6_menWhoAre wsX6_isSo := goodIn_r _ [9, 10, 11, 26, 27, 28, 29, 30, 31, 32] rfl (by decide +kernel)
set_option maxRecDepth 20000 in
theorem gX6_menWhoAre_X6_isSo : GoodIn wsX6_menWhoAre (wsV RX6 81 RX6 yX6_isSo wsX6_isSo) := goodIn_app (goodIn_of _ (by decide +kernel)) ggX6_menWhoAre_X6_isSo
theorem dX6_menWhoAre_0 : decode cX6_menWhoAre 0 = .ok (.iconst 0, 1) := by decide +kernel
theorem dX6_menWhoAre_1 : decode cX6_menWhoAre 1 = .ok (.istore 4, 2) := by decide +kernel
theorem dX6_menWhoAre_3 : decode cX6_menWhoAre 3 = .ok (.iconst 0, 1) := by decide +kernel
theorem dX6_menWhoAre_4 : decode cX6_menWhoAre 4 = .ok (.istore 5, 2) := by decide +kernel
theorem dX6_menWhoAre_6 : decode cX6_menWhoAre 6 = .ok (.iload 5, 2) := by decide +kernel
theorem dX6_menWhoAre_8 : decode cX6_menWhoAre 8 = .ok (.aload_n 2, 1) := by decide +kernel
theorem dX6_menWhoAre_9 : decode cX6_menWhoAre 9 = .ok (.getfield 51, 3) := by decide +kernel
theorem dX6_menWhoAre_12 : decode cX6_menWhoAre 12 = .ok (.if_icmp .ge 39, 3) := by decide +kernel
theorem dX6_menWhoAre_15 : decode cX6_menWhoAre 15 = .ok (.aload_n 0, 1) := by decide +kernel
theorem dX6_menWhoAre_16 : decode cX6_menWhoAre 16 = .ok (.iload_n 1, 1) := by decide +kernel
theorem dX6_menWhoAre_17 : decode cX6_menWhoAre 17 = .ok (.aload_n 0, 1) := by decide +kernel
theorem dX6_menWhoAre_18 : decode cX6_menWhoAre 18 = .ok (.getfield 9, 3) := by decide +kernel
theorem dX6_menWhoAre_21 : decode cX6_menWhoAre 21 = .ok (.iload_n 1, 1) := by decide +kernel
theorem dX6_menWhoAre_22 : decode cX6_menWhoAre 22 = .ok (.iaload, 1) := by decide +kernel
theorem dX6_menWhoAre_23 : decode cX6_menWhoAre 23 = .ok (.iload 5, 2) := by decide +kernel
theorem dX6_menWhoAre_25 : decode cX6_menWhoAre 25 = .ok (.aload_n 2, 1) := by decide +kernel
theorem dX6_menWhoAre_26 : decode cX6_menWhoAre 26 = .ok (.aload_n 3, 1) := by decide +kernel
theorem dX6_menWhoAre_27 : decode cX6_menWhoAre 27 = .ok (.invokestatic 77, 3) := by decide +kernel
theorem dX6_menWhoAre_30 : decode cX6_menWhoAre 30 = .ok (.invokevirtual 81, 3) := by decide +kernel
theorem dX6_menWhoAre_33 : decode cX6_menWhoAre 33 = .ok (.ifCond .eq 12, 3) := by decide +kernel
theorem dX6_menWhoAre_36 : decode cX6_menWhoAre 36 = .ok (.iload 4, 2) := by decide +kernel
theorem dX6_menWhoAre_38 : decode cX6_menWhoAre 38 = .ok (.iconst 1, 1) := by decide +kernel
theorem dX6_menWhoAre_39 : decode cX6_menWhoAre 39 = .ok (.iload 5, 2) := by decide +kernel
theorem dX6_menWhoAre_41 : decode cX6_menWhoAre 41 = .ok (.ishl, 1) := by decide +kernel
theorem dX6_menWhoAre_42 : decode cX6_menWhoAre 42 = .ok (.ior, 1) := by decide +kernel
theorem dX6_menWhoAre_43 : decode cX6_menWhoAre 43 = .ok (.istore 4, 2) := by decide +kernel
theorem dX6_menWhoAre_45 : decode cX6_menWhoAre 45 = .ok (.iinc 5 1, 3) := by decide +kernel
theorem dX6_menWhoAre_48 : decode cX6_menWhoAre 48 = .ok (.goto (-42), 3) := by decide +kernel
theorem dX6_menWhoAre_51 : decode cX6_menWhoAre 51 = .ok (.iload 4, 2) := by decide +kernel
theorem dX6_menWhoAre_53 : decode cX6_menWhoAre 53 = .ok (.ireturn, 1) := by decide +kernel
theorem dX6_isSo_0 : decode cX6_isSo 0 = .ok (.aload_n 0, 1) := by decide +kernel
theorem dX6_isSo_1 : decode cX6_isSo 1 = .ok (.getfield 15, 3) := by decide +kernel
theorem dX6_isSo_4 : decode cX6_isSo 4 = .ok (.iload_n 1, 1) := by decide +kernel
theorem dX6_isSo_5 : decode cX6_isSo 5 = .ok (.iaload, 1) := by decide +kernel
theorem dX6_isSo_6 : decode cX6_isSo 6 = .ok (.lookupswitch 58 #[(41, 26), (43, 42)], 26) := by decide +kernel
theorem dX6_isSo_32 : decode cX6_isSo 32 = .ok (.iload_n 2, 1) := by decide +kernel
theorem dX6_isSo_33 : decode cX6_isSo 33 = .ok (.aload_n 0, 1) := by decide +kernel
theorem dX6_isSo_34 : decode cX6_isSo 34 = .ok (.getfield 18, 3) := by decide +kernel
theorem dX6_isSo_37 : decode cX6_isSo 37 = .ok (.iload_n 1, 1) := by decide +kernel
theorem dX6_isSo_38 : decode cX6_isSo 38 = .ok (.iaload, 1) := by decide +kernel
theorem dX6_isSo_39 : decode cX6_isSo 39 = .ok (.if_icmp .ge 7, 3) := by decide +kernel
theorem dX6_isSo_42 : decode cX6_isSo 42 = .ok (.iconst 1, 1) := by decide +kernel
theorem dX6_isSo_43 : decode cX6_isSo 43 = .ok (.goto 4, 3) := by decide +kernel
theorem dX6_isSo_46 : decode cX6_isSo 46 = .ok (.iconst 0, 1) := by decide +kernel
theorem dX6_isSo_47 : decode cX6_isSo 47 = .ok (.ireturn, 1) := by decide +kernel
theorem dX6_isSo_48 : decode cX6_isSo 48 = .ok (.iload_n 2, 1) := by decide +kernel
theorem dX6_isSo_49 : decode cX6_isSo 49 = .ok (.aload_n 0, 1) := by decide +kernel
theorem dX6_isSo_50 : decode cX6_isSo 50 = .ok (.getfield 18, 3) := by decide +kernel
theorem dX6_isSo_53 : decode cX6_isSo 53 = .ok (.iload_n 1, 1) := by decide +kernel
theorem dX6_isSo_54 : decode cX6_isSo 54 = .ok (.iaload, 1) := by decide +kernel
theorem dX6_isSo_55 : decode cX6_isSo 55 = .ok (.if_icmp .le 7, 3) := by decide +kernel
theorem dX6_isSo_58 : decode cX6_isSo 58 = .ok (.iconst 1, 1) := by decide +kernel
theorem dX6_isSo_59 : decode cX6_isSo 59 = .ok (.goto 4, 3) := by decide +kernel
theorem dX6_isSo_62 : decode cX6_isSo 62 = .ok (.iconst 0, 1) := by decide +kernel
theorem dX6_isSo_63 : decode cX6_isSo 63 = .ok (.ireturn, 1) := by decide +kernel
theorem dX6_isSo_64 : decode cX6_isSo 64 = .ok (.iload_n 2, 1) := by decide +kernel
theorem dX6_isSo_65 : decode cX6_isSo 65 = .ok (.aload_n 0, 1) := by decide +kernel
theorem dX6_isSo_66 : decode cX6_isSo 66 = .ok (.getfield 18, 3) := by decide +kernel
theorem dX6_isSo_69 : decode cX6_isSo 69 = .ok (.iload_n 1, 1) := by decide +kernel
theorem dX6_isSo_70 : decode cX6_isSo 70 = .ok (.iaload, 1) := by decide +kernel
theorem dX6_isSo_71 : decode cX6_isSo 71 = .ok (.if_icmp .ne 7, 3) := by decide +kernel
theorem dX6_isSo_74 : decode cX6_isSo 74 = .ok (.iconst 1, 1) := by decide +kernel
theorem dX6_isSo_75 : decode cX6_isSo 75 = .ok (.goto 4, 3) := by decide +kernel
theorem dX6_isSo_78 : decode cX6_isSo 78 = .ok (.iconst 0, 1) := by decide +kernel
theorem dX6_isSo_79 : decode cX6_isSo 79 = .ok (.ireturn, 1) := by decide +kernel
theorem dX6_measure_0 : decode cX6_measure 0 = .ok (.iload_n 0, 1) := by decide +kernel
theorem dX6_measure_1 : decode cX6_measure 1 = .ok (.lookupswitch 101 #[(10, 51), (11, 60), (27, 78), (28, 85), (29, 92)], 51) := by decide +kernel
theorem dX6_measure_52 : decode cX6_measure 52 = .ok (.aload_n 2, 1) := by decide +kernel
theorem dX6_measure_53 : decode cX6_measure 53 = .ok (.getfield 85, 3) := by decide +kernel
theorem dX6_measure_56 : decode cX6_measure 56 = .ok (.iload_n 1, 1) := by decide +kernel
theorem dX6_measure_57 : decode cX6_measure 57 = .ok (.aaload, 1) := by decide +kernel
theorem dX6_measure_58 : decode cX6_measure 58 = .ok (.iconst 3, 1) := by decide +kernel
theorem dX6_measure_59 : decode cX6_measure 59 = .ok (.iaload, 1) := by decide +kernel
theorem dX6_measure_60 : decode cX6_measure 60 = .ok (.ireturn, 1) := by decide +kernel
theorem dX6_measure_61 : decode cX6_measure 61 = .ok (.aload_n 2, 1) := by decide +kernel
theorem dX6_measure_62 : decode cX6_measure 62 = .ok (.getfield 85, 3) := by decide +kernel
theorem dX6_measure_65 : decode cX6_measure 65 = .ok (.iload_n 1, 1) := by decide +kernel
theorem dX6_measure_66 : decode cX6_measure 66 = .ok (.aaload, 1) := by decide +kernel
theorem dX6_measure_67 : decode cX6_measure 67 = .ok (.iconst 4, 1) := by decide +kernel
theorem dX6_measure_68 : decode cX6_measure 68 = .ok (.iaload, 1) := by decide +kernel
theorem dX6_measure_69 : decode cX6_measure 69 = .ok (.iconst (-1), 1) := by decide +kernel
theorem dX6_measure_70 : decode cX6_measure 70 = .ok (.if_icmp .ne 7, 3) := by decide +kernel
theorem dX6_measure_73 : decode cX6_measure 73 = .ok (.iconst 0, 1) := by decide +kernel
theorem dX6_measure_74 : decode cX6_measure 74 = .ok (.goto 4, 3) := by decide +kernel
theorem dX6_measure_77 : decode cX6_measure 77 = .ok (.iconst 1, 1) := by decide +kernel
theorem dX6_measure_78 : decode cX6_measure 78 = .ok (.ireturn, 1) := by decide +kernel
theorem dX6_measure_79 : decode cX6_measure 79 = .ok (.aload_n 3, 1) := by decide +kernel
theorem dX6_measure_80 : decode cX6_measure 80 = .ok (.getfield 89, 3) := by decide +kernel
theorem dX6_measure_83 : decode cX6_measure 83 = .ok (.iload_n 1, 1) := by decide +kernel
theorem dX6_measure_84 : decode cX6_measure 84 = .ok (.iaload, 1) := by decide +kernel
theorem dX6_measure_85 : decode cX6_measure 85 = .ok (.ireturn, 1) := by decide +kernel
theorem dX6_measure_86 : decode cX6_measure 86 = .ok (.aload_n 3, 1) := by decide +kernel
theorem dX6_measure_87 : decode cX6_measure 87 = .ok (.getfield 92, 3) := by decide +kernel
theorem dX6_measure_90 : decode cX6_measure 90 = .ok (.iload_n 1, 1) := by decide +kernel
theorem dX6_measure_91 : decode cX6_measure 91 = .ok (.iaload, 1) := by decide +kernel
theorem dX6_measure_92 : decode cX6_measure 92 = .ok (.ireturn, 1) := by decide +kernel
theorem dX6_measure_93 : decode cX6_measure 93 = .ok (.aload_n 2, 1) := by decide +kernel
theorem dX6_measure_94 : decode cX6_measure 94 = .ok (.getfield 85, 3) := by decide +kernel
theorem dX6_measure_97 : decode cX6_measure 97 = .ok (.iload_n 1, 1) := by decide +kernel
theorem dX6_measure_98 : decode cX6_measure 98 = .ok (.aaload, 1) := by decide +kernel
theorem dX6_measure_99 : decode cX6_measure 99 = .ok (.iconst 1, 1) := by decide +kernel
theorem dX6_measure_100 : decode cX6_measure 100 = .ok (.iaload, 1) := by decide +kernel
theorem dX6_measure_101 : decode cX6_measure 101 = .ok (.ireturn, 1) := by decide +kernel
theorem dX6_measure_102 : decode cX6_measure 102 = .ok (.iload_n 1, 1) := by decide +kernel
theorem dX6_measure_103 : decode cX6_measure 103 = .ok (.ireturn, 1) := by decide +kernel
set_option maxRecDepth 20000 in
theorem ggX4_init_X9_init : GoodIn wsX4_init wsX9_init := goodIn_r _ [18, 19, 2, 3, 20, 21, 22, 23, 24, 25, 26, 27, 28, 29, 30, 31, 32, 49, 50, 51, 52, 53, 54, 55, 56, 57, 58, 59, 60, 61, 62] rfl (by decide +kernel)
set_option maxRecDepth 20000 in
theorem gX4_init_X9_init : GoodIn wsX4_init (wsX9_init) := ggX4_init_X9_init
set_option maxRecDepth 20000 in
theorem ggX4_init_X2_init : GoodIn wsX4_init wsX2_init := goodIn_r _ [35, 36, 2, 3, 24, 37, 38, 39, 40, 41, 67, 68, 69, 70, 71, 72, 73] rfl (by decide +kernel)
set_option maxRecDepth 20000 in
theorem gX4_init_X2_init : GoodIn wsX4_init (wsX2_init) := ggX4_init_X2_init
set_option maxRecDepth 20000 in
theorem ggX4_init_X6_init : GoodIn wsX4_init wsX6_init := goodIn_r _ [43, 44, 2, 3, 24, 45, 46, 47, 48, 74, 75, 76, 77, 78, 79, 80] rfl (by decide +kernel)
set_option maxRecDepth 20000 in
theorem gX4_init_X6_init_n25 : GoodIn wsX4_init (wsX6_init) := ggX4_init_X6_init
theorem dX4_init_0 : decode cX4_init 0 = .ok (.aload_n 0, 1) := by decide +kernel
theorem dX4_init_1 : decode cX4_init 1 = .ok (.invokespecial 1, 3) := by decide +kernel
theorem dX4_init_4 : decode cX4_init 4 = .ok (.aload_n 0, 1) := by decide +kernel
theorem dX4_init_5 : decode cX4_init 5 = .ok (.new 7, 3) := by decide +kernel
theorem dX4_init_8 : decode cX4_init 8 = .ok (.dup, 1) := by decide +kernel
theorem dX4_init_9 : decode cX4_init 9 = .ok (.invokespecial 9, 3) := by decide +kernel
theorem dX4_init_12 : decode cX4_init 12 = .ok (.putfield 10, 3) := by decide +kernel
theorem dX4_init_15 : decode cX4_init 15 = .ok (.aload_n 0, 1) := by decide +kernel
theorem dX4_init_16 : decode cX4_init 16 = .ok (.new 16, 3) := by decide +kernel
theorem dX4_init_19 : decode cX4_init 19 = .ok (.dup, 1) := by decide +kernel
theorem dX4_init_20 : decode cX4_init 20 = .ok (.invokespecial 18, 3) := by decide +kernel
theorem dX4_init_23 : decode cX4_init 23 = .ok (.putfield 19, 3) := by decide +kernel
theorem dX4_init_26 : decode cX4_init 26 = .ok (.aload_n 0, 1) := by decide +kernel
theorem dX4_init_27 : decode cX4_init 27 = .ok (.new 23, 3) := by decide +kernel
theorem dX4_init_30 : decode cX4_init 30 = .ok (.dup, 1) := by decide +kernel
theorem dX4_init_31 : decode cX4_init 31 = .ok (.invokespecial 25, 3) := by decide +kernel
theorem dX4_init_34 : decode cX4_init 34 = .ok (.putfield 26, 3) := by decide +kernel
theorem dX4_init_37 : decode cX4_init 37 = .ok (.return_, 1) := by decide +kernel
set_option maxRecDepth 20000 in
theorem ggX4_keep_X9_copyFrom : GoodIn wsX4_keep wsX9_copyFrom := goodIn_r _ [9, 10, 11, 12, 13, 14, 15, 16, 17, 18, 19, 20, 21, 22, 23, 24, 25, 26, 27, 28, 29, 8, 30, 31, 32, 33, 34, 64, 65, 66, 67, 68, 69, 70, 71, 72, 73, 74, 75, 76, 77] rfl (by decide +kernel)
set_option maxRecDepth 20000 in
theorem gX4_keep_X9_copyFrom : GoodIn wsX4_keep (wsV RX4 30 RX9 yX9_copyFrom wsX9_copyFrom) := goodIn_app (goodIn_of _ (by decide +kernel)) ggX4_keep_X9_copyFrom
set_option maxRecDepth 20000 in
theorem ggX4_keep_X2_copyFrom : GoodIn wsX4_keep wsX2_copyFrom := goodIn_r _ [39, 40, 41, 42, 43, 44, 19, 20, 21, 45, 46, 47, 78, 79, 80, 81, 82, 83, 84] rfl (by decide +kernel)
set_option maxRecDepth 20000 in
theorem gX4_keep_X2_copyFrom : GoodIn wsX4_keep (wsV RX4 34 RX2 yX2_copyFrom wsX2_copyFrom) := goodIn_app (goodIn_of _ (by decide +kernel)) ggX4_keep_X2_copyFrom
set_option maxRecDepth 20000 in
theorem ggX4_keep_X6_copyFrom : GoodIn wsX4_keep wsX6_copyFrom := goodIn_r _ [52, 53, 54, 55, 56, 57, 19, 20, 21, 58, 59, 85, 86, 87, 88, 89, 90, 91] rfl (by decide +kernel)
set_option maxRecDepth 20000 in
theorem gX4_keep_X6_copyFrom : GoodIn wsX4_keep (wsV RX4 37 RX6 yX6_copyFrom wsX6_copyFrom) := goodIn_app (goodIn_of _ (by decide +kernel)) ggX4_keep_X6_copyFrom
theorem dX4_keep_0 : decode cX4_keep 0 = .ok (.aload_n 0, 1) := by decide +kernel
theorem dX4_keep_1 : decode cX4_keep 1 = .ok (.getfield 10, 3) := by decide +kernel
theorem dX4_keep_4 : decode cX4_keep 4 = .ok (.aload_n 1, 1) := by decide +kernel
theorem dX4_keep_5 : decode cX4_keep 5 = .ok (.invokevirtual 30, 3) := by decide +kernel
theorem dX4_keep_8 : decode cX4_keep 8 = .ok (.aload_n 0, 1) := by decide +kernel
theorem dX4_keep_9 : decode cX4_keep 9 = .ok (.getfield 19, 3) := by decide +kernel
theorem dX4_keep_12 : decode cX4_keep 12 = .ok (.aload_n 2, 1) := by decide +kernel
theorem dX4_keep_13 : decode cX4_keep 13 = .ok (.invokevirtual 34, 3) := by decide +kernel
theorem dX4_keep_16 : decode cX4_keep 16 = .ok (.aload_n 0, 1) := by decide +kernel
theorem dX4_keep_17 : decode cX4_keep 17 = .ok (.getfield 26, 3) := by decide +kernel
theorem dX4_keep_20 : decode cX4_keep 20 = .ok (.aload_n 3, 1) := by decide +kernel
theorem dX4_keep_21 : decode cX4_keep 21 = .ok (.invokevirtual 37, 3) := by decide +kernel
theorem dX4_keep_24 : decode cX4_keep 24 = .ok (.aload_n 0, 1) := by decide +kernel
theorem dX4_keep_25 : decode cX4_keep 25 = .ok (.iconst 1, 1) := by decide +kernel
theorem dX4_keep_26 : decode cX4_keep 26 = .ok (.putfield 40, 3) := by decide +kernel
theorem dX4_keep_29 : decode cX4_keep 29 = .ok (.return_, 1) := by decide +kernel
set_option maxRecDepth 20000 in
theorem ggX4_giveBack_X9_copyFrom : GoodIn wsX4_giveBack wsX9_copyFrom := goodIn_r _ [8, 9, 10, 11, 12, 13, 14, 15, 16, 17, 18, 19, 20, 21, 22, 23, 24, 25, 26, 27, 28, 7, 29, 30, 31, 32, 33, 63, 64, 65, 66, 67, 68, 69, 70, 71, 72, 73, 74, 75, 76] rfl (by decide +kernel)
set_option maxRecDepth 20000 in
theorem gX4_giveBack_X9_copyFrom : GoodIn wsX4_giveBack (wsV RX4 30 RX9 yX9_copyFrom wsX9_copyFrom) := goodIn_app (goodIn_of _ (by decide +kernel)) ggX4_giveBack_X9_copyFrom
set_option maxRecDepth 20000 in
theorem ggX4_giveBack_X2_copyFrom : GoodIn wsX4_giveBack wsX2_copyFrom := goodIn_r _ [38, 39, 40, 41, 42, 43, 18, 19, 20, 44, 45, 46, 77, 78, 79, 80, 81, 82, 83] rfl (by decide +kernel)
set_option maxRecDepth 20000 in
theorem gX4_giveBack_X2_copyFrom : GoodIn wsX4_giveBack (wsV RX4 34 RX2 yX2_copyFrom wsX2_copyFrom) := goodIn_app (goodIn_of _ (by decide +kernel)) ggX4_giveBack_X2_copyFrom
set_option maxRecDepth 20000 in
theorem ggX4_giveBack_X6_copyFrom : GoodIn wsX4_giveBack wsX6_copyFrom := goodIn_r _ [51, 52, 53, 54, 55, 56, 18, 19, 20, 57, 58, 84, 85, 86, 87, 88, 89, 90] rfl (by decide +kernel)
set_option maxRecDepth 20000 in
theorem gX4_giveBack_X6_copyFrom : GoodIn wsX4_giveBack (wsV RX4 37 RX6 yX6_copyFrom wsX6_copyFrom) := goodIn_app (goodIn_of _ (by decide +kernel)) ggX4_giveBack_X6_copyFrom
theorem dX4_giveBack_0 : decode cX4_giveBack 0 = .ok (.aload_n 1, 1) := by decide +kernel
theorem dX4_giveBack_1 : decode cX4_giveBack 1 = .ok (.aload_n 0, 1) := by decide +kernel
theorem dX4_giveBack_2 : decode cX4_giveBack 2 = .ok (.getfield 10, 3) := by decide +kernel
theorem dX4_giveBack_5 : decode cX4_giveBack 5 = .ok (.invokevirtual 30, 3) := by decide +kernel
theorem dX4_giveBack_8 : decode cX4_giveBack 8 = .ok (.aload_n 2, 1) := by decide +kernel
theorem dX4_giveBack_9 : decode cX4_giveBack 9 = .ok (.aload_n 0, 1) := by decide +kernel
theorem dX4_giveBack_10 : decode cX4_giveBack 10 = .ok (.getfield 19, 3) := by decide +kernel
theorem dX4_giveBack_13 : decode cX4_giveBack 13 = .ok (.invokevirtual 34, 3) := by decide +kernel
theorem dX4_giveBack_16 : decode cX4_giveBack 16 = .ok (.aload_n 3, 1) := by decide +kernel
theorem dX4_giveBack_17 : decode cX4_giveBack 17 = .ok (.aload_n 0, 1) := by decide +kernel
theorem dX4_giveBack_18 : decode cX4_giveBack 18 = .ok (.getfield 26, 3) := by decide +kernel
theorem dX4_giveBack_21 : decode cX4_giveBack 21 = .ok (.invokevirtual 37, 3) := by decide +kernel
theorem dX4_giveBack_24 : decode cX4_giveBack 24 = .ok (.return_, 1) := by decide +kernel
theorem dX7_init_0 : decode cX7_init 0 = .ok (.aload_n 0, 1) := by decide +kernel
theorem dX7_init_1 : decode cX7_init 1 = .ok (.invokespecial 3, 3) := by decide +kernel
theorem dX7_init_4 : decode cX7_init 4 = .ok (.aload_n 0, 1) := by decide +kernel
theorem dX7_init_5 : decode cX7_init 5 = .ok (.aload_n 1, 1) := by decide +kernel
theorem dX7_init_6 : decode cX7_init 6 = .ok (.putfield 9, 3) := by decide +kernel
theorem dX7_init_9 : decode cX7_init 9 = .ok (.aload_n 0, 1) := by decide +kernel
theorem dX7_init_10 : decode cX7_init 10 = .ok (.aload_n 2, 1) := by decide +kernel
theorem dX7_init_11 : decode cX7_init 11 = .ok (.putfield 15, 3) := by decide +kernel
theorem dX7_init_14 : decode cX7_init 14 = .ok (.aload_n 0, 1) := by decide +kernel
theorem dX7_init_15 : decode cX7_init 15 = .ok (.aload_n 3, 1) := by decide +kernel
theorem dX7_init_16 : decode cX7_init 16 = .ok (.putfield 19, 3) := by decide +kernel
theorem dX7_init_19 : decode cX7_init 19 = .ok (.return_, 1) := by decide +kernel
set_option maxRecDepth 20000 in
theorem ggX7_read_X6_clear : GoodIn wsX7_read wsX6_clear := goodIn_r _ [7, 8, 9, 10, 106, 107, 108, 109, 110, 111, 112] rfl (by decide +kernel)
set_option maxRecDepth 20000 in
theorem gX7_read_X6_clear : GoodIn wsX7_read (wsV RX7 23 RX6 yX6_clear wsX6_clear) := goodIn_app (goodIn_of _ (by decide +kernel)) ggX7_read_X6_clear
set_option maxRecDepth 20000 in
theorem ggX7_read_X7_readCond : GoodIn wsX7_read wsX7_readCond := goodIn_r _ [15, 2, 1, 16, 17, 18, 14, 19, 20, 21, 22, 23, 24, 25, 26, 27, 28, 29, 30, 31, 32, 33, 34, 35, 36, 6, 37, 10, 38, 39, 40, 41, 42, 43, 44, 45, 46, 47, 48, 49, 50, 51, 52, 53, 54, 11, 12, 13, 55, 56, 57, 58, 59, 60, 61, 62, 63, 64, 65, 66, 67, 68, 69, 70, 71, 72, 73, 74, 75, 76, 77, 78, 79, 80, 81, 82, 83, 84, 85, 86, 87, 88, 89, 90, 91, 92, 93, 94, 95, 96, 97, 98, 99, 100, 101, 102, 103, 104, 105, 106, 107, 108, 109, 110, 111, 112, 113, 114, 115, 116, 117, 118, 119, 120, 121, 122, 123, 124, 125, 126] rfl (by decide +kernel)
set_option maxRecDepth 20000 in
theorem gX7_read_X7_readCond : GoodIn wsX7_read (wsV RX7 28 RX7 yX7_readCond wsX7_readCond) := goodIn_app (goodIn_of _ (by decide +kernel)) ggX7_read_X7_readCond
set_option maxRecDepth 20000 in
theorem ggX7_read_X8_blame : GoodIn wsX7_read wsX8_blame := goodIn_r _ [52, 53, 29, 54, 91, 92, 93, 94, 95, 96, 97, 98, 99, 100, 101, 102, 103, 104, 105] rfl (by decide +kernel)
set_option maxRecDepth 20000 in
theorem gX7_read_X8_blame : GoodIn wsX7_read (wsV RX7 38 RX8 yX8_blame wsX8_blame) := goodIn_app (goodIn_of _ (by decide +kernel)) ggX7_read_X8_blame
theorem dX7_read_0 : decode cX7_read 0 = .ok (.aload_n 0, 1) := by decide +kernel
theorem dX7_read_1 : decode cX7_read 1 = .ok (.getfield 19, 3) := by decide +kernel
theorem dX7_read_4 : decode cX7_read 4 = .ok (.invokevirtual 23, 3) := by decide +kernel
theorem dX7_read_7 : decode cX7_read 7 = .ok (.aload_n 0, 1) := by decide +kernel
theorem dX7_read_8 : decode cX7_read 8 = .ok (.iconst 1, 1) := by decide +kernel
theorem dX7_read_9 : decode cX7_read 9 = .ok (.invokevirtual 28, 3) := by decide +kernel
theorem dX7_read_12 : decode cX7_read 12 = .ok (.ifCond .ne 5, 3) := by decide +kernel
theorem dX7_read_15 : decode cX7_read 15 = .ok (.iconst 0, 1) := by decide +kernel
theorem dX7_read_16 : decode cX7_read 16 = .ok (.ireturn, 1) := by decide +kernel
theorem dX7_read_17 : decode cX7_read 17 = .ok (.aload_n 0, 1) := by decide +kernel
theorem dX7_read_18 : decode cX7_read 18 = .ok (.getfield 9, 3) := by decide +kernel
theorem dX7_read_21 : decode cX7_read 21 = .ok (.getfield 32, 3) := by decide +kernel
theorem dX7_read_24 : decode cX7_read 24 = .ok (.bipush 48, 2) := by decide +kernel
theorem dX7_read_26 : decode cX7_read 26 = .ok (.if_icmp .eq 12, 3) := by decide +kernel
theorem dX7_read_29 : decode cX7_read 29 = .ok (.aload_n 0, 1) := by decide +kernel
theorem dX7_read_30 : decode cX7_read 30 = .ok (.getfield 9, 3) := by decide +kernel
theorem dX7_read_33 : decode cX7_read 33 = .ok (.iconst 1, 1) := by decide +kernel
theorem dX7_read_34 : decode cX7_read 34 = .ok (.invokevirtual 38, 3) := by decide +kernel
theorem dX7_read_37 : decode cX7_read 37 = .ok (.ireturn, 1) := by decide +kernel
theorem dX7_read_38 : decode cX7_read 38 = .ok (.aload_n 0, 1) := by decide +kernel
theorem dX7_read_39 : decode cX7_read 39 = .ok (.getfield 19, 3) := by decide +kernel
theorem dX7_read_42 : decode cX7_read 42 = .ok (.iconst 1, 1) := by decide +kernel
theorem dX7_read_43 : decode cX7_read 43 = .ok (.putfield 41, 3) := by decide +kernel
theorem dX7_read_46 : decode cX7_read 46 = .ok (.iconst 1, 1) := by decide +kernel
theorem dX7_read_47 : decode cX7_read 47 = .ok (.ireturn, 1) := by decide +kernel
set_option maxRecDepth 20000 in
theorem ggX7_readCond_X7_readAll : GoodIn wsX7_readCond wsX7_readAll := goodIn_r _ [31, 1, 2, 32, 33, 34, 6, 7, 8, 9, 10, 11, 12, 13, 14, 15, 16, 17, 18, 19, 20, 21, 22, 23, 24, 25, 26, 27, 28, 29, 30, 0, 3, 4, 5, 35, 36, 37, 38, 39, 40, 41, 42, 43, 44, 45, 46, 47, 48, 49, 50, 51, 52, 53, 54, 55, 56, 57, 58, 59, 60, 61, 62, 63, 64, 65, 66, 67, 68, 69, 70, 71, 72, 73, 74, 75, 76, 77, 78, 79, 80, 81, 82, 83, 84, 85, 86, 87, 88, 89, 90, 91, 92, 93, 94, 95, 96, 97, 98, 99, 100, 101, 102, 103, 104, 105, 106, 107, 108, 109, 110, 111, 112, 113, 114, 115, 116, 117, 118, 119] rfl (by decide +kernel)
set_option maxRecDepth 20000 in
theorem gX7_readCond_X7_readAll : GoodIn wsX7_readCond (wsV RX7 45 RX7 yX7_readAll wsX7_readAll) := goodIn_app (goodIn_of _ (by decide +kernel)) ggX7_readCond_X7_readAll
set_option maxRecDepth 20000 in
theorem ggX7_readCond_X8_next : GoodIn wsX7_readCond wsX8_next := goodIn_r _ [11, 12, 13, 14, 15, 16, 17, 18, 19, 20, 21, 84, 85, 86, 87, 88, 89, 90, 91, 92, 93, 94, 95, 96, 97, 98] rfl (by decide +kernel)
set_option maxRecDepth 20000 in
theorem gX7_readCond_X8_next : GoodIn wsX7_readCond (wsV RX7 48 RX8 yX8_next wsX8_next) := goodIn_app (goodIn_of _ (by decide +kernel)) ggX7_readCond_X8_next
set_option maxRecDepth 20000 in
theorem ggX7_readCond_X6_add : GoodIn wsX7_readCond wsX6_add := goodIn_r _ [26, 27, 28, 29, 30, 99, 100, 101, 102, 103, 104, 105] rfl (by decide +kernel)
set_option maxRecDepth 20000 in
theorem gX7_readCond_X6_add : GoodIn wsX7_readCond (wsV RX7 51 RX6 yX6_add wsX6_add) := goodIn_app (goodIn_of _ (by decide +kernel)) ggX7_readCond_X6_add
theorem dX7_readCond_0 : decode cX7_readCond 0 = .ok (.aload_n 0, 1) := by decide +kernel
theorem dX7_readCond_1 : decode cX7_readCond 1 = .ok (.iload_n 1, 1) := by decide +kernel
theorem dX7_readCond_2 : decode cX7_readCond 2 = .ok (.invokevirtual 45, 3) := by decide +kernel
theorem dX7_readCond_5 : decode cX7_readCond 5 = .ok (.ifCond .ne 5, 3) := by decide +kernel
theorem dX7_readCond_8 : decode cX7_readCond 8 = .ok (.iconst 0, 1) := by decide +kernel
theorem dX7_readCond_9 : decode cX7_readCond 9 = .ok (.ireturn, 1) := by decide +kernel
theorem dX7_readCond_10 : decode cX7_readCond 10 = .ok (.iconst 0, 1) := by decide +kernel
theorem dX7_readCond_11 : decode cX7_readCond 11 = .ok (.istore_n 2, 1) := by decide +kernel
theorem dX7_readCond_12 : decode cX7_readCond 12 = .ok (.iload_n 2, 1) := by decide +kernel
theorem dX7_readCond_13 : decode cX7_readCond 13 = .ok (.sipush 200, 3) := by decide +kernel
theorem dX7_readCond_16 : decode cX7_readCond 16 = .ok (.if_icmp .ge 52, 3) := by decide +kernel
theorem dX7_readCond_19 : decode cX7_readCond 19 = .ok (.aload_n 0, 1) := by decide +kernel
theorem dX7_readCond_20 : decode cX7_readCond 20 = .ok (.getfield 9, 3) := by decide +kernel
theorem dX7_readCond_23 : decode cX7_readCond 23 = .ok (.getfield 32, 3) := by decide +kernel
theorem dX7_readCond_26 : decode cX7_readCond 26 = .ok (.bipush 20, 2) := by decide +kernel
theorem dX7_readCond_28 : decode cX7_readCond 28 = .ok (.if_icmp .ne 40, 3) := by decide +kernel
theorem dX7_readCond_31 : decode cX7_readCond 31 = .ok (.aload_n 0, 1) := by decide +kernel
theorem dX7_readCond_32 : decode cX7_readCond 32 = .ok (.getfield 9, 3) := by decide +kernel
theorem dX7_readCond_35 : decode cX7_readCond 35 = .ok (.invokevirtual 48, 3) := by decide +kernel
theorem dX7_readCond_38 : decode cX7_readCond 38 = .ok (.aload_n 0, 1) := by decide +kernel
theorem dX7_readCond_39 : decode cX7_readCond 39 = .ok (.iload_n 1, 1) := by decide +kernel
theorem dX7_readCond_40 : decode cX7_readCond 40 = .ok (.invokevirtual 45, 3) := by decide +kernel
theorem dX7_readCond_43 : decode cX7_readCond 43 = .ok (.ifCond .eq 17, 3) := by decide +kernel
theorem dX7_readCond_46 : decode cX7_readCond 46 = .ok (.aload_n 0, 1) := by decide +kernel
theorem dX7_readCond_47 : decode cX7_readCond 47 = .ok (.getfield 19, 3) := by decide +kernel
theorem dX7_readCond_50 : decode cX7_readCond 50 = .ok (.bipush 20, 2) := by decide +kernel
theorem dX7_readCond_52 : decode cX7_readCond 52 = .ok (.iconst (-1), 1) := by decide +kernel
theorem dX7_readCond_53 : decode cX7_readCond 53 = .ok (.iconst (-1), 1) := by decide +kernel
theorem dX7_readCond_54 : decode cX7_readCond 54 = .ok (.invokevirtual 51, 3) := by decide +kernel
theorem dX7_readCond_57 : decode cX7_readCond 57 = .ok (.ifCond .ne 5, 3) := by decide +kernel
theorem dX7_readCond_60 : decode cX7_readCond 60 = .ok (.iconst 0, 1) := by decide +kernel
theorem dX7_readCond_61 : decode cX7_readCond 61 = .ok (.ireturn, 1) := by decide +kernel
theorem dX7_readCond_62 : decode cX7_readCond 62 = .ok (.iinc 2 1, 3) := by decide +kernel
theorem dX7_readCond_65 : decode cX7_readCond 65 = .ok (.goto (-53), 3) := by decide +kernel
theorem dX7_readCond_68 : decode cX7_readCond 68 = .ok (.iconst 1, 1) := by decide +kernel
theorem dX7_readCond_69 : decode cX7_readCond 69 = .ok (.ireturn, 1) := by decide +kernel
set_option maxRecDepth 20000 in
theorem ggX7_readAll_X7_readOne : GoodIn wsX7_readAll wsX7_readOne := goodIn_r _ [35, 1, 2, 36, 37, 6, 38, 39, 40, 41, 10, 42, 43, 17, 44, 7, 8, 9, 11, 12, 13, 14, 15, 16, 18, 19, 20, 21, 3, 4, 5, 22, 23, 24, 25, 26, 27, 28, 29, 30, 45, 46, 47, 48, 49, 50, 51, 52, 53, 54, 55, 56, 57, 58, 59, 60, 61, 62, 63, 64, 65, 66, 67, 68, 69, 70, 71, 72, 73, 74, 75, 76, 77, 78, 79, 80, 0, 31, 32, 33, 34, 81, 82, 83, 84, 85, 86, 87, 88, 89, 90, 91, 92, 93, 94, 95, 96, 97, 98, 99, 100, 101, 102, 103, 104, 105, 106, 107, 108, 109, 110, 111, 112, 113, 114, 115, 116, 117, 118, 119] rfl (by decide +kernel)
set_option maxRecDepth 20000 in
theorem gX7_readAll_X7_readOne : GoodIn wsX7_readAll (wsV RX7 55 RX7 yX7_readOne wsX7_readOne) := goodIn_app (goodIn_of _ (by decide +kernel)) ggX7_readAll_X7_readOne
set_option maxRecDepth 20000 in
theorem ggX7_readAll_X8_next : GoodIn wsX7_readAll wsX8_next := goodIn_r _ [11, 12, 13, 14, 15, 16, 17, 18, 19, 20, 21, 84, 85, 86, 87, 88, 89, 90, 91, 92, 93, 94, 95, 96, 97, 98] rfl (by decide +kernel)
set_option maxRecDepth 20000 in
theorem gX7_readAll_X8_next : GoodIn wsX7_readAll (wsV RX7 48 RX8 yX8_next wsX8_next) := goodIn_app (goodIn_of _ (by decide +kernel)) ggX7_readAll_X8_next
set_option maxRecDepth 20000 in
theorem ggX7_readAll_X6_add : GoodIn wsX7_readAll wsX6_add := goodIn_r _ [26, 27, 28, 29, 30, 99, 100, 101, 102, 103, 104, 105] rfl (by decide +kernel)
set_option maxRecDepth 20000 in
theorem gX7_readAll_X6_add : GoodIn wsX7_readAll (wsV RX7 51 RX6 yX6_add wsX6_add) := goodIn_app (goodIn_of _ (by decide +kernel)) ggX7_readAll_X6_add
theorem dX7_readAll_0 : decode cX7_readAll 0 = .ok (.aload_n 0, 1) := by decide +kernel
theorem dX7_readAll_1 : decode cX7_readAll 1 = .ok (.iload_n 1, 1) := by decide +kernel
theorem dX7_readAll_2 : decode cX7_readAll 2 = .ok (.invokevirtual 55, 3) := by decide +kernel
theorem dX7_readAll_5 : decode cX7_readAll 5 = .ok (.ifCond .ne 5, 3) := by decide +kernel
theorem dX7_readAll_8 : decode cX7_readAll 8 = .ok (.iconst 0, 1) := by decide +kernel
theorem dX7_readAll_9 : decode cX7_readAll 9 = .ok (.ireturn, 1) := by decide +kernel
theorem dX7_readAll_10 : decode cX7_readAll 10 = .ok (.iconst 0, 1) := by decide +kernel
theorem dX7_readAll_11 : decode cX7_readAll 11 = .ok (.istore_n 2, 1) := by decide +kernel
theorem dX7_readAll_12 : decode cX7_readAll 12 = .ok (.iload_n 2, 1) := by decide +kernel
theorem dX7_readAll_13 : decode cX7_readAll 13 = .ok (.sipush 200, 3) := by decide +kernel
theorem dX7_readAll_16 : decode cX7_readAll 16 = .ok (.if_icmp .ge 52, 3) := by decide +kernel
theorem dX7_readAll_19 : decode cX7_readAll 19 = .ok (.aload_n 0, 1) := by decide +kernel
theorem dX7_readAll_20 : decode cX7_readAll 20 = .ok (.getfield 9, 3) := by decide +kernel
theorem dX7_readAll_23 : decode cX7_readAll 23 = .ok (.getfield 32, 3) := by decide +kernel
theorem dX7_readAll_26 : decode cX7_readAll 26 = .ok (.bipush 21, 2) := by decide +kernel
theorem dX7_readAll_28 : decode cX7_readAll 28 = .ok (.if_icmp .ne 40, 3) := by decide +kernel
theorem dX7_readAll_31 : decode cX7_readAll 31 = .ok (.aload_n 0, 1) := by decide +kernel
theorem dX7_readAll_32 : decode cX7_readAll 32 = .ok (.getfield 9, 3) := by decide +kernel
theorem dX7_readAll_35 : decode cX7_readAll 35 = .ok (.invokevirtual 48, 3) := by decide +kernel
theorem dX7_readAll_38 : decode cX7_readAll 38 = .ok (.aload_n 0, 1) := by decide +kernel
theorem dX7_readAll_39 : decode cX7_readAll 39 = .ok (.iload_n 1, 1) := by decide +kernel
theorem dX7_readAll_40 : decode cX7_readAll 40 = .ok (.invokevirtual 55, 3) := by decide +kernel
theorem dX7_readAll_43 : decode cX7_readAll 43 = .ok (.ifCond .eq 17, 3) := by decide +kernel
theorem dX7_readAll_46 : decode cX7_readAll 46 = .ok (.aload_n 0, 1) := by decide +kernel
theorem dX7_readAll_47 : decode cX7_readAll 47 = .ok (.getfield 19, 3) := by decide +kernel
theorem dX7_readAll_50 : decode cX7_readAll 50 = .ok (.bipush 21, 2) := by decide +kernel
theorem dX7_readAll_52 : decode cX7_readAll 52 = .ok (.iconst (-1), 1) := by decide +kernel
theorem dX7_readAll_53 : decode cX7_readAll 53 = .ok (.iconst (-1), 1) := by decide +kernel
theorem dX7_readAll_54 : decode cX7_readAll 54 = .ok (.invokevirtual 51, 3) := by decide +kernel
theorem dX7_readAll_57 : decode cX7_readAll 57 = .ok (.ifCond .ne 5, 3) := by decide +kernel
theorem dX7_readAll_60 : decode cX7_readAll 60 = .ok (.iconst 0, 1) := by decide +kernel
theorem dX7_readAll_61 : decode cX7_readAll 61 = .ok (.ireturn, 1) := by decide +kernel
theorem dX7_readAll_62 : decode cX7_readAll 62 = .ok (.iinc 2 1, 3) := by decide +kernel
theorem dX7_readAll_65 : decode cX7_readAll 65 = .ok (.goto (-53), 3) := by decide +kernel
theorem dX7_readAll_68 : decode cX7_readAll 68 = .ok (.iconst 1, 1) := by decide +kernel
theorem dX7_readAll_69 : decode cX7_readAll 69 = .ok (.ireturn, 1) := by decide +kernel
set_option maxRecDepth 20000 in
theorem ggX7_readOne_X7_beginsOne : GoodIn wsX7_readOne wsX7_beginsOne := goodIn_r _ [6] rfl (by decide +kernel)
set_option maxRecDepth 20000 in
theorem gX7_readOne_X7_beginsOne : GoodIn wsX7_readOne (va_wsS RX7 58 yX7_beginsOne wsX7_beginsOne) := goodIn_app (goodIn_of _ (by decide +kernel)) ggX7_readOne_X7_beginsOne
set_option maxRecDepth 20000 in
theorem ggX7_readOne_X8_blame : GoodIn wsX7_readOne wsX8_blame := goodIn_r _ [11, 12, 13, 14, 84, 85, 86, 87, 88, 89, 90, 91, 92, 93, 94, 95, 96, 97, 98] rfl (by decide +kernel)
set_option maxRecDepth 20000 in
theorem gX7_readOne_X8_blame : GoodIn wsX7_readOne (wsV RX7 38 RX8 yX8_blame wsX8_blame) := goodIn_app (goodIn_of _ (by decide +kernel)) ggX7_readOne_X8_blame
set_option maxRecDepth 20000 in
theorem ggX7_readOne_X8_next : GoodIn wsX7_readOne wsX8_next := goodIn_r _ [18, 19, 20, 21, 22, 23, 13, 24, 25, 26, 27, 84, 85, 86, 87, 88, 89, 90, 91, 92, 93, 94, 95, 96, 97, 98] rfl (by decide +kernel)
set_option maxRecDepth 20000 in
theorem gX7_readOne_X8_next : GoodIn wsX7_readOne (wsV RX7 48 RX8 yX8_next wsX8_next) := goodIn_app (goodIn_of _ (by decide +kernel)) ggX7_readOne_X8_next
set_option maxRecDepth 20000 in
theorem ggX7_readOne_X7_readOne : GoodIn wsX7_readOne wsX7_readOne := goodIn_r _ [0, 1, 2, 3, 4, 5, 6, 7, 8, 9, 10, 11, 12, 13, 14, 15, 16, 17, 18, 19, 20, 21, 22, 23, 24, 25, 26, 27, 28, 29, 30, 31, 32, 33, 34, 35, 36, 37, 38, 39, 40, 41, 42, 43, 44, 45, 46, 47, 48, 49, 50, 51, 52, 53, 54, 55, 56, 57, 58, 59, 60, 61, 62, 63, 64, 65, 66, 67, 68, 69, 70, 71, 72, 73, 74, 75, 76, 77, 78, 79, 80, 81, 82, 83, 84, 85, 86, 87, 88, 89, 90, 91, 92, 93, 94, 95, 96, 97, 98, 99, 100, 101, 102, 103, 104, 105, 106, 107, 108, 109, 110, 111, 112, 113, 114, 115, 116, 117, 118, 119] rfl (by decide +kernel)
set_option maxRecDepth 20000 in
theorem gX7_readOne_X7_readOne : GoodIn wsX7_readOne (wsV RX7 55 RX7 yX7_readOne wsX7_readOne) := goodIn_app (goodIn_of _ (by decide +kernel)) ggX7_readOne_X7_readOne
set_option maxRecDepth 20000 in
theorem ggX7_readOne_X6_add : GoodIn wsX7_readOne wsX6_add := goodIn_r _ [35, 36, 37, 38, 39, 99, 100, 101, 102, 103, 104, 105] rfl (by decide +kernel)
set_option maxRecDepth 20000 in
theorem gX7_readOne_X6_add : GoodIn wsX7_readOne (wsV RX7 51 RX6 yX6_add wsX6_add) := goodIn_app (goodIn_of _ (by decide +kernel)) ggX7_readOne_X6_add
set_option maxRecDepth 20000 in
theorem ggX7_readOne_X7_readCond : GoodIn wsX7_readOne wsX7_readCond := goodIn_r _ [77, 1, 2, 78, 79, 80, 5, 15, 16, 17, 10, 18, 19, 20, 21, 22, 23, 13, 24, 25, 26, 27, 31, 32, 33, 34, 35, 36, 37, 38, 39, 76, 28, 29, 30, 0, 3, 4, 6, 7, 8, 9, 11, 12, 14, 40, 41, 42, 43, 44, 45, 46, 47, 48, 49, 50, 51, 52, 53, 54, 55, 56, 57, 58, 59, 60, 61, 62, 63, 64, 65, 66, 67, 68, 69, 70, 71, 72, 73, 74, 75, 81, 82, 83, 84, 85, 86, 87, 88, 89, 90, 91, 92, 93, 94, 95, 96, 97, 98, 99, 100, 101, 102, 103, 104, 105, 106, 107, 108, 109, 110, 111, 112, 113, 114, 115, 116, 117, 118, 119] rfl (by decide +kernel)
set_option maxRecDepth 20000 in
theorem gX7_readOne_X7_readCond : GoodIn wsX7_readOne (wsV RX7 28 RX7 yX7_readCond wsX7_readCond) := goodIn_app (goodIn_of _ (by decide +kernel)) ggX7_readOne_X7_readCond
set_option maxRecDepth 20000 in
theorem ggX7_readOne_X8_take : GoodIn wsX7_readOne wsX8_take := goodIn_r _ [46, 22, 47, 8, 9, 10, 11, 12, 13, 14, 48, 16, 17, 18, 19, 20, 21, 23, 24, 25, 26, 27, 84, 85, 86, 87, 88, 89, 90, 91, 92, 93, 94, 95, 96, 97, 98] rfl (by decide +kernel)
set_option maxRecDepth 20000 in
theorem gX7_readOne_X8_take : GoodIn wsX7_readOne (wsV RX7 64 RX8 yX8_take wsX8_take) := goodIn_app (goodIn_of _ (by decide +kernel)) ggX7_readOne_X8_take
set_option maxRecDepth 20000 in
theorem ggX7_readOne_X7_readOn : GoodIn wsX7_readOne wsX7_readOn := goodIn_r _ [52, 1, 53, 2, 54, 55, 56, 10, 57, 27, 58, 59, 60, 61, 62, 63, 64, 65, 66, 22, 47, 8, 9, 11, 12, 13, 14, 15, 16, 17, 18, 19, 20, 21, 23, 24, 25, 26, 31, 32, 33, 34, 35, 36, 37, 38, 39, 81, 82, 83, 84, 85, 86, 87, 88, 89, 90, 91, 92, 93, 94, 95, 96, 97, 98, 106, 107, 108, 109, 110, 111, 112, 113, 114, 115, 116, 117, 118, 119, 99, 100, 101, 102, 103, 104, 105] rfl (by decide +kernel)
set_option maxRecDepth 20000 in
theorem gX7_readOne_X7_readOn : GoodIn wsX7_readOne (wsV RX7 67 RX7 yX7_readOn wsX7_readOn) := goodIn_app (goodIn_of _ (by decide +kernel)) ggX7_readOne_X7_readOn
set_option maxRecDepth 20000 in
theorem ggX7_readOne_X7_readMeasure : GoodIn wsX7_readOne wsX7_readMeasure := goodIn_r _ [70, 1, 2, 7, 8, 9, 10, 11, 12, 13, 14, 15, 16, 17, 18, 19, 20, 21, 22, 23, 24, 25, 26, 27, 71, 72, 73, 74, 75, 47, 48, 31, 32, 33, 34, 35, 36, 37, 38, 39, 81, 82, 83, 84, 85, 86, 87, 88, 89, 90, 91, 92, 93, 94, 95, 96, 97, 98, 99, 100, 101, 102, 103, 104, 105] rfl (by decide +kernel)
set_option maxRecDepth 20000 in
theorem gX7_readOne_X7_readMeasure : GoodIn wsX7_readOne (wsV RX7 71 RX7 yX7_readMeasure wsX7_readMeasure) := goodIn_app (goodIn_of _ (by decide +kernel)) ggX7_readOne_X7_readMeasure
theorem dX7_readOne_0 : decode cX7_readOne 0 = .ok (.aload_n 0, 1) := by decide +kernel
theorem dX7_readOne_1 : decode cX7_readOne 1 = .ok (.getfield 9, 3) := by decide +kernel
theorem dX7_readOne_4 : decode cX7_readOne 4 = .ok (.getfield 32, 3) := by decide +kernel
theorem dX7_readOne_7 : decode cX7_readOne 7 = .ok (.istore_n 2, 1) := by decide +kernel
theorem dX7_readOne_8 : decode cX7_readOne 8 = .ok (.iload_n 2, 1) := by decide +kernel
theorem dX7_readOne_9 : decode cX7_readOne 9 = .ok (.invokestatic 58, 3) := by decide +kernel
theorem dX7_readOne_12 : decode cX7_readOne 12 = .ok (.ifCond .ne 12, 3) := by decide +kernel
theorem dX7_readOne_15 : decode cX7_readOne 15 = .ok (.aload_n 0, 1) := by decide +kernel
theorem dX7_readOne_16 : decode cX7_readOne 16 = .ok (.getfield 9, 3) := by decide +kernel
theorem dX7_readOne_19 : decode cX7_readOne 19 = .ok (.iconst 1, 1) := by decide +kernel
theorem dX7_readOne_20 : decode cX7_readOne 20 = .ok (.invokevirtual 38, 3) := by decide +kernel
theorem dX7_readOne_23 : decode cX7_readOne 23 = .ok (.ireturn, 1) := by decide +kernel
theorem dX7_readOne_24 : decode cX7_readOne 24 = .ok (.aload_n 0, 1) := by decide +kernel
theorem dX7_readOne_25 : decode cX7_readOne 25 = .ok (.getfield 19, 3) := by decide +kernel
theorem dX7_readOne_28 : decode cX7_readOne 28 = .ok (.getfield 61, 3) := by decide +kernel
theorem dX7_readOne_31 : decode cX7_readOne 31 = .ok (.bipush 20, 2) := by decide +kernel
theorem dX7_readOne_33 : decode cX7_readOne 33 = .ok (.if_icmp .ge 9, 3) := by decide +kernel
theorem dX7_readOne_36 : decode cX7_readOne 36 = .ok (.iload_n 1, 1) := by decide +kernel
theorem dX7_readOne_37 : decode cX7_readOne 37 = .ok (.bipush 8, 2) := by decide +kernel
theorem dX7_readOne_39 : decode cX7_readOne 39 = .ok (.if_icmp .le 12, 3) := by decide +kernel
theorem dX7_readOne_42 : decode cX7_readOne 42 = .ok (.aload_n 0, 1) := by decide +kernel
theorem dX7_readOne_43 : decode cX7_readOne 43 = .ok (.getfield 9, 3) := by decide +kernel
theorem dX7_readOne_46 : decode cX7_readOne 46 = .ok (.iconst 4, 1) := by decide +kernel
theorem dX7_readOne_47 : decode cX7_readOne 47 = .ok (.invokevirtual 38, 3) := by decide +kernel
theorem dX7_readOne_50 : decode cX7_readOne 50 = .ok (.ireturn, 1) := by decide +kernel
theorem dX7_readOne_51 : decode cX7_readOne 51 = .ok (.aload_n 0, 1) := by decide +kernel
theorem dX7_readOne_52 : decode cX7_readOne 52 = .ok (.getfield 19, 3) := by decide +kernel
theorem dX7_readOne_55 : decode cX7_readOne 55 = .ok (.dup, 1) := by decide +kernel
theorem dX7_readOne_56 : decode cX7_readOne 56 = .ok (.getfield 61, 3) := by decide +kernel
theorem dX7_readOne_59 : decode cX7_readOne 59 = .ok (.iconst 1, 1) := by decide +kernel
theorem dX7_readOne_60 : decode cX7_readOne 60 = .ok (.iadd, 1) := by decide +kernel
theorem dX7_readOne_61 : decode cX7_readOne 61 = .ok (.putfield 61, 3) := by decide +kernel
theorem dX7_readOne_64 : decode cX7_readOne 64 = .ok (.aload_n 0, 1) := by decide +kernel
theorem dX7_readOne_65 : decode cX7_readOne 65 = .ok (.getfield 9, 3) := by decide +kernel
theorem dX7_readOne_68 : decode cX7_readOne 68 = .ok (.invokevirtual 48, 3) := by decide +kernel
theorem dX7_readOne_71 : decode cX7_readOne 71 = .ok (.iload_n 2, 1) := by decide +kernel
theorem dX7_readOne_72 : decode cX7_readOne 72 = .ok (.tableswitch 177 22 44 #[108, 177, 177, 166, 177, 171, 171, 171, 171, 177, 177, 177, 177, 177, 177, 177, 177, 177, 177, 177, 177, 177, 138], 108) := by decide +kernel
theorem dX7_readOne_180 : decode cX7_readOne 180 = .ok (.aload_n 0, 1) := by decide +kernel
theorem dX7_readOne_181 : decode cX7_readOne 181 = .ok (.iload_n 1, 1) := by decide +kernel
theorem dX7_readOne_182 : decode cX7_readOne 182 = .ok (.iconst 1, 1) := by decide +kernel
theorem dX7_readOne_183 : decode cX7_readOne 183 = .ok (.iadd, 1) := by decide +kernel
theorem dX7_readOne_184 : decode cX7_readOne 184 = .ok (.invokevirtual 55, 3) := by decide +kernel
theorem dX7_readOne_187 : decode cX7_readOne 187 = .ok (.ifCond .eq 21, 3) := by decide +kernel
theorem dX7_readOne_190 : decode cX7_readOne 190 = .ok (.aload_n 0, 1) := by decide +kernel
theorem dX7_readOne_191 : decode cX7_readOne 191 = .ok (.getfield 19, 3) := by decide +kernel
theorem dX7_readOne_194 : decode cX7_readOne 194 = .ok (.bipush 22, 2) := by decide +kernel
theorem dX7_readOne_196 : decode cX7_readOne 196 = .ok (.iconst (-1), 1) := by decide +kernel
theorem dX7_readOne_197 : decode cX7_readOne 197 = .ok (.iconst (-1), 1) := by decide +kernel
theorem dX7_readOne_198 : decode cX7_readOne 198 = .ok (.invokevirtual 51, 3) := by decide +kernel
theorem dX7_readOne_201 : decode cX7_readOne 201 = .ok (.ifCond .eq 7, 3) := by decide +kernel
theorem dX7_readOne_204 : decode cX7_readOne 204 = .ok (.iconst 1, 1) := by decide +kernel
theorem dX7_readOne_205 : decode cX7_readOne 205 = .ok (.goto 4, 3) := by decide +kernel
theorem dX7_readOne_208 : decode cX7_readOne 208 = .ok (.iconst 0, 1) := by decide +kernel
theorem dX7_readOne_209 : decode cX7_readOne 209 = .ok (.ireturn, 1) := by decide +kernel
theorem dX7_readOne_210 : decode cX7_readOne 210 = .ok (.aload_n 0, 1) := by decide +kernel
theorem dX7_readOne_211 : decode cX7_readOne 211 = .ok (.iload_n 1, 1) := by decide +kernel
theorem dX7_readOne_212 : decode cX7_readOne 212 = .ok (.iconst 1, 1) := by decide +kernel
theorem dX7_readOne_213 : decode cX7_readOne 213 = .ok (.iadd, 1) := by decide +kernel
theorem dX7_readOne_214 : decode cX7_readOne 214 = .ok (.invokevirtual 28, 3) := by decide +kernel
theorem dX7_readOne_217 : decode cX7_readOne 217 = .ok (.ifCond .eq 19, 3) := by decide +kernel
theorem dX7_readOne_220 : decode cX7_readOne 220 = .ok (.aload_n 0, 1) := by decide +kernel
theorem dX7_readOne_221 : decode cX7_readOne 221 = .ok (.getfield 9, 3) := by decide +kernel
theorem dX7_readOne_224 : decode cX7_readOne 224 = .ok (.bipush 45, 2) := by decide +kernel
theorem dX7_readOne_226 : decode cX7_readOne 226 = .ok (.invokevirtual 64, 3) := by decide +kernel
theorem dX7_readOne_229 : decode cX7_readOne 229 = .ok (.ifCond .eq 7, 3) := by decide +kernel
theorem dX7_readOne_232 : decode cX7_readOne 232 = .ok (.iconst 1, 1) := by decide +kernel
theorem dX7_readOne_233 : decode cX7_readOne 233 = .ok (.goto 4, 3) := by decide +kernel
theorem dX7_readOne_236 : decode cX7_readOne 236 = .ok (.iconst 0, 1) := by decide +kernel
theorem dX7_readOne_237 : decode cX7_readOne 237 = .ok (.ireturn, 1) := by decide +kernel
theorem dX7_readOne_238 : decode cX7_readOne 238 = .ok (.aload_n 0, 1) := by decide +kernel
theorem dX7_readOne_239 : decode cX7_readOne 239 = .ok (.invokevirtual 67, 3) := by decide +kernel
theorem dX7_readOne_242 : decode cX7_readOne 242 = .ok (.ireturn, 1) := by decide +kernel
theorem dX7_readOne_243 : decode cX7_readOne 243 = .ok (.aload_n 0, 1) := by decide +kernel
theorem dX7_readOne_244 : decode cX7_readOne 244 = .ok (.iload_n 2, 1) := by decide +kernel
theorem dX7_readOne_245 : decode cX7_readOne 245 = .ok (.invokevirtual 71, 3) := by decide +kernel
theorem dX7_readOne_248 : decode cX7_readOne 248 = .ok (.ireturn, 1) := by decide +kernel
theorem dX7_readOne_249 : decode cX7_readOne 249 = .ok (.aload_n 0, 1) := by decide +kernel
theorem dX7_readOne_250 : decode cX7_readOne 250 = .ok (.getfield 19, 3) := by decide +kernel
theorem dX7_readOne_253 : decode cX7_readOne 253 = .ok (.iload_n 2, 1) := by decide +kernel
theorem dX7_readOne_254 : decode cX7_readOne 254 = .ok (.bipush 42, 2) := by decide +kernel
theorem dX7_readOne_256 : decode cX7_readOne 256 = .ok (.iconst 1, 1) := by decide +kernel
theorem dX7_readOne_257 : decode cX7_readOne 257 = .ok (.invokevirtual 51, 3) := by decide +kernel
theorem dX7_readOne_260 : decode cX7_readOne 260 = .ok (.ireturn, 1) := by decide +kernel
theorem dX7_beginsOne_0 : decode cX7_beginsOne 0 = .ok (.iload_n 0, 1) := by decide +kernel
theorem dX7_beginsOne_1 : decode cX7_beginsOne 1 = .ok (.tableswitch 157 10 44 #[155, 155, 157, 157, 157, 157, 157, 157, 157, 157, 157, 157, 155, 155, 155, 155, 155, 155, 155, 155, 155, 157, 157, 157, 157, 157, 157, 157, 157, 157, 157, 157, 157, 157, 155], 155) := by decide +kernel
theorem dX7_beginsOne_156 : decode cX7_beginsOne 156 = .ok (.iconst 1, 1) := by decide +kernel
theorem dX7_beginsOne_157 : decode cX7_beginsOne 157 = .ok (.ireturn, 1) := by decide +kernel
theorem dX7_beginsOne_158 : decode cX7_beginsOne 158 = .ok (.iconst 0, 1) := by decide +kernel
theorem dX7_beginsOne_159 : decode cX7_beginsOne 159 = .ok (.ireturn, 1) := by decide +kernel
set_option maxRecDepth 20000 in
theorem ggX7_readOn_X8_hillHere : GoodIn wsX7_readOn wsX8_hillHere := goodIn_r _ [8, 9, 10, 11, 12, 13, 14, 15, 16, 17, 7, 18, 19, 20, 21, 22, 23, 24, 25, 26, 50, 51, 52, 53, 54, 55, 56, 57, 58, 59, 60, 61, 62, 63, 64, 65, 66, 67, 68, 69, 70, 71, 72, 73, 74, 75, 76, 77, 78] rfl (by decide +kernel)
set_option maxRecDepth 20000 in
theorem gX7_readOn_X8_hillHere : GoodIn wsX7_readOn (wsV RX7 74 RX8 yX8_hillHere wsX8_hillHere) := goodIn_app (goodIn_of _ (by decide +kernel)) ggX7_readOn_X8_hillHere
set_option maxRecDepth 20000 in
theorem ggX7_readOn_X8_next : GoodIn wsX7_readOn wsX8_next := goodIn_r _ [30, 31, 32, 33, 19, 34, 25, 35, 36, 37, 9, 50, 51, 52, 53, 54, 55, 56, 57, 58, 59, 60, 61, 62, 63, 64] rfl (by decide +kernel)
set_option maxRecDepth 20000 in
theorem gX7_readOn_X8_next : GoodIn wsX7_readOn (wsV RX7 48 RX8 yX8_next wsX8_next) := goodIn_app (goodIn_of _ (by decide +kernel)) ggX7_readOn_X8_next
set_option maxRecDepth 20000 in
theorem ggX7_readOn_X6_add : GoodIn wsX7_readOn wsX6_add := goodIn_r _ [42, 43, 44, 45, 46, 79, 80, 81, 82, 83, 84, 85] rfl (by decide +kernel)
set_option maxRecDepth 20000 in
theorem gX7_readOn_X6_add : GoodIn wsX7_readOn (wsV RX7 51 RX6 yX6_add wsX6_add) := goodIn_app (goodIn_of _ (by decide +kernel)) ggX7_readOn_X6_add
theorem dX7_readOn_0 : decode cX7_readOn 0 = .ok (.aload_n 0, 1) := by decide +kernel
theorem dX7_readOn_1 : decode cX7_readOn 1 = .ok (.getfield 9, 3) := by decide +kernel
theorem dX7_readOn_4 : decode cX7_readOn 4 = .ok (.aload_n 0, 1) := by decide +kernel
theorem dX7_readOn_5 : decode cX7_readOn 5 = .ok (.getfield 15, 3) := by decide +kernel
theorem dX7_readOn_8 : decode cX7_readOn 8 = .ok (.invokevirtual 74, 3) := by decide +kernel
theorem dX7_readOn_11 : decode cX7_readOn 11 = .ok (.istore_n 1, 1) := by decide +kernel
theorem dX7_readOn_12 : decode cX7_readOn 12 = .ok (.iload_n 1, 1) := by decide +kernel
theorem dX7_readOn_13 : decode cX7_readOn 13 = .ok (.iconst (-1), 1) := by decide +kernel
theorem dX7_readOn_14 : decode cX7_readOn 14 = .ok (.if_icmp .ne 5, 3) := by decide +kernel
theorem dX7_readOn_17 : decode cX7_readOn 17 = .ok (.iconst 0, 1) := by decide +kernel
theorem dX7_readOn_18 : decode cX7_readOn 18 = .ok (.ireturn, 1) := by decide +kernel
theorem dX7_readOn_19 : decode cX7_readOn 19 = .ok (.aload_n 0, 1) := by decide +kernel
theorem dX7_readOn_20 : decode cX7_readOn 20 = .ok (.getfield 9, 3) := by decide +kernel
theorem dX7_readOn_23 : decode cX7_readOn 23 = .ok (.invokevirtual 48, 3) := by decide +kernel
theorem dX7_readOn_26 : decode cX7_readOn 26 = .ok (.aload_n 0, 1) := by decide +kernel
theorem dX7_readOn_27 : decode cX7_readOn 27 = .ok (.getfield 19, 3) := by decide +kernel
theorem dX7_readOn_30 : decode cX7_readOn 30 = .ok (.bipush 25, 2) := by decide +kernel
theorem dX7_readOn_32 : decode cX7_readOn 32 = .ok (.bipush 42, 2) := by decide +kernel
theorem dX7_readOn_34 : decode cX7_readOn 34 = .ok (.iload_n 1, 1) := by decide +kernel
theorem dX7_readOn_35 : decode cX7_readOn 35 = .ok (.invokevirtual 51, 3) := by decide +kernel
theorem dX7_readOn_38 : decode cX7_readOn 38 = .ok (.ireturn, 1) := by decide +kernel
set_option maxRecDepth 20000 in
theorem ggX7_readMeasure_X8_blame : GoodIn wsX7_readMeasure wsX8_blame := goodIn_r _ [7, 8, 9, 10, 43, 44, 45, 46, 47, 48, 49, 50, 51, 52, 53, 54, 55, 56, 57] rfl (by decide +kernel)
set_option maxRecDepth 20000 in
theorem gX7_readMeasure_X8_blame : GoodIn wsX7_readMeasure (wsV RX7 38 RX8 yX8_blame wsX8_blame) := goodIn_app (goodIn_of _ (by decide +kernel)) ggX7_readMeasure_X8_blame
set_option maxRecDepth 20000 in
theorem ggX7_readMeasure_X8_next : GoodIn wsX7_readMeasure wsX8_next := goodIn_r _ [14, 15, 16, 17, 18, 19, 9, 20, 21, 22, 23, 43, 44, 45, 46, 47, 48, 49, 50, 51, 52, 53, 54, 55, 56, 57] rfl (by decide +kernel)
set_option maxRecDepth 20000 in
theorem gX7_readMeasure_X8_next : GoodIn wsX7_readMeasure (wsV RX7 48 RX8 yX8_next wsX8_next) := goodIn_app (goodIn_of _ (by decide +kernel)) ggX7_readMeasure_X8_next
set_option maxRecDepth 20000 in
theorem ggX7_readMeasure_X8_takeNumber : GoodIn wsX7_readMeasure wsX8_takeNumber := goodIn_r _ [27, 18, 21, 28, 29, 4, 5, 6, 7, 8, 9, 10, 30, 12, 13, 14, 15, 16, 17, 19, 20, 22, 23, 43, 44, 45, 46, 47, 48, 49, 50, 51, 52, 53, 54, 55, 56, 57] rfl (by decide +kernel)
set_option maxRecDepth 20000 in
theorem gX7_readMeasure_X8_takeNumber : GoodIn wsX7_readMeasure (wsV RX7 78 RX8 yX8_takeNumber wsX8_takeNumber) := goodIn_app (goodIn_of _ (by decide +kernel)) ggX7_readMeasure_X8_takeNumber
set_option maxRecDepth 20000 in
theorem ggX7_readMeasure_X6_add : GoodIn wsX7_readMeasure wsX6_add := goodIn_r _ [35, 36, 37, 38, 39, 58, 59, 60, 61, 62, 63, 64] rfl (by decide +kernel)
set_option maxRecDepth 20000 in
theorem gX7_readMeasure_X6_add : GoodIn wsX7_readMeasure (wsV RX7 51 RX6 yX6_add wsX6_add) := goodIn_app (goodIn_of _ (by decide +kernel)) ggX7_readMeasure_X6_add
theorem dX7_readMeasure_0 : decode cX7_readMeasure 0 = .ok (.aload_n 0, 1) := by decide +kernel
theorem dX7_readMeasure_1 : decode cX7_readMeasure 1 = .ok (.getfield 9, 3) := by decide +kernel
theorem dX7_readMeasure_4 : decode cX7_readMeasure 4 = .ok (.getfield 32, 3) := by decide +kernel
theorem dX7_readMeasure_7 : decode cX7_readMeasure 7 = .ok (.istore_n 2, 1) := by decide +kernel
theorem dX7_readMeasure_8 : decode cX7_readMeasure 8 = .ok (.iload_n 2, 1) := by decide +kernel
theorem dX7_readMeasure_9 : decode cX7_readMeasure 9 = .ok (.bipush 41, 2) := by decide +kernel
theorem dX7_readMeasure_11 : decode cX7_readMeasure 11 = .ok (.if_icmp .eq 24, 3) := by decide +kernel
theorem dX7_readMeasure_14 : decode cX7_readMeasure 14 = .ok (.iload_n 2, 1) := by decide +kernel
theorem dX7_readMeasure_15 : decode cX7_readMeasure 15 = .ok (.bipush 42, 2) := by decide +kernel
theorem dX7_readMeasure_17 : decode cX7_readMeasure 17 = .ok (.if_icmp .eq 18, 3) := by decide +kernel
theorem dX7_readMeasure_20 : decode cX7_readMeasure 20 = .ok (.iload_n 2, 1) := by decide +kernel
theorem dX7_readMeasure_21 : decode cX7_readMeasure 21 = .ok (.bipush 43, 2) := by decide +kernel
theorem dX7_readMeasure_23 : decode cX7_readMeasure 23 = .ok (.if_icmp .eq 12, 3) := by decide +kernel
theorem dX7_readMeasure_26 : decode cX7_readMeasure 26 = .ok (.aload_n 0, 1) := by decide +kernel
theorem dX7_readMeasure_27 : decode cX7_readMeasure 27 = .ok (.getfield 9, 3) := by decide +kernel
theorem dX7_readMeasure_30 : decode cX7_readMeasure 30 = .ok (.iconst 1, 1) := by decide +kernel
theorem dX7_readMeasure_31 : decode cX7_readMeasure 31 = .ok (.invokevirtual 38, 3) := by decide +kernel
theorem dX7_readMeasure_34 : decode cX7_readMeasure 34 = .ok (.ireturn, 1) := by decide +kernel
theorem dX7_readMeasure_35 : decode cX7_readMeasure 35 = .ok (.aload_n 0, 1) := by decide +kernel
theorem dX7_readMeasure_36 : decode cX7_readMeasure 36 = .ok (.getfield 9, 3) := by decide +kernel
theorem dX7_readMeasure_39 : decode cX7_readMeasure 39 = .ok (.invokevirtual 48, 3) := by decide +kernel
theorem dX7_readMeasure_42 : decode cX7_readMeasure 42 = .ok (.aload_n 0, 1) := by decide +kernel
theorem dX7_readMeasure_43 : decode cX7_readMeasure 43 = .ok (.getfield 9, 3) := by decide +kernel
theorem dX7_readMeasure_46 : decode cX7_readMeasure 46 = .ok (.iconst 0, 1) := by decide +kernel
theorem dX7_readMeasure_47 : decode cX7_readMeasure 47 = .ok (.sipush 999, 3) := by decide +kernel
theorem dX7_readMeasure_50 : decode cX7_readMeasure 50 = .ok (.invokevirtual 78, 3) := by decide +kernel
theorem dX7_readMeasure_53 : decode cX7_readMeasure 53 = .ok (.ifCond .eq 26, 3) := by decide +kernel
theorem dX7_readMeasure_56 : decode cX7_readMeasure 56 = .ok (.aload_n 0, 1) := by decide +kernel
theorem dX7_readMeasure_57 : decode cX7_readMeasure 57 = .ok (.getfield 19, 3) := by decide +kernel
theorem dX7_readMeasure_60 : decode cX7_readMeasure 60 = .ok (.iload_n 1, 1) := by decide +kernel
theorem dX7_readMeasure_61 : decode cX7_readMeasure 61 = .ok (.iload_n 2, 1) := by decide +kernel
theorem dX7_readMeasure_62 : decode cX7_readMeasure 62 = .ok (.aload_n 0, 1) := by decide +kernel
theorem dX7_readMeasure_63 : decode cX7_readMeasure 63 = .ok (.getfield 9, 3) := by decide +kernel
theorem dX7_readMeasure_66 : decode cX7_readMeasure 66 = .ok (.getfield 82, 3) := by decide +kernel
theorem dX7_readMeasure_69 : decode cX7_readMeasure 69 = .ok (.invokevirtual 51, 3) := by decide +kernel
theorem dX7_readMeasure_72 : decode cX7_readMeasure 72 = .ok (.ifCond .eq 7, 3) := by decide +kernel
theorem dX7_readMeasure_75 : decode cX7_readMeasure 75 = .ok (.iconst 1, 1) := by decide +kernel
theorem dX7_readMeasure_76 : decode cX7_readMeasure 76 = .ok (.goto 4, 3) := by decide +kernel
theorem dX7_readMeasure_79 : decode cX7_readMeasure 79 = .ok (.iconst 0, 1) := by decide +kernel
theorem dX7_readMeasure_80 : decode cX7_readMeasure 80 = .ok (.ireturn, 1) := by decide +kernel
