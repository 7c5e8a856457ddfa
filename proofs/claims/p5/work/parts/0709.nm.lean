theorem dX12_stands_35 : decode cX12_stands 35 = .ok (.aload_n 0, 1) := by decide +kernel
theorem dX12_stands_36 : decode cX12_stands 36 = .ok (.getfield 33, 3) := by decide +kernel
theorem dX12_stands_39 : decode cX12_stands 39 = .ok (.bipush 23, 2) := by decide +kernel
theorem dX12_stands_41 : decode cX12_stands 41 = .ok (.iload_n 2, 1) := by decide +kernel
theorem dX12_stands_42 : decode cX12_stands 42 = .ok (.iadd, 1) := by decide +kernel
theorem dX12_stands_43 : decode cX12_stands 43 = .ok (.iaload, 1) := by decide +kernel
theorem dX12_stands_44 : decode cX12_stands 44 = .ok (.iastore, 1) := by decide +kernel
theorem dX12_stands_45 : decode cX12_stands 45 = .ok (.return_, 1) := by decide +kernel
set_option maxRecDepth 20000 in
theorem ggX12_asNow_X12_stands : GoodIn wsX12_asNow wsX12_stands := goodIn_r _ [6, 7, 1, 8, 9, 10, 11, 12, 13, 14, 15, 16, 17, 18, 19, 20, 21, 22, 23, 24, 25, 26, 27, 28, 29, 30, 31, 32, 33, 34, 35, 36, 37, 38, 39, 40, 41, 42, 43, 44, 45, 46, 47, 48, 49, 50, 51, 52, 53, 54, 55, 56] rfl (by decide +kernel)
set_option maxRecDepth 20000 in
theorem gX12_asNow_X12_stands : GoodIn wsX12_asNow (wsV RX12 279 RX12 yX12_stands wsX12_stands) := goodIn_app (goodIn_of _ (by decide +kernel)) ggX12_asNow_X12_stands
theorem dX12_asNow_0 : decode cX12_asNow 0 = .ok (.iconst 0, 1) := by decide +kernel
theorem dX12_asNow_1 : decode cX12_asNow 1 = .ok (.istore_n 1, 1) := by decide +kernel
theorem dX12_asNow_2 : decode cX12_asNow 2 = .ok (.iload_n 1, 1) := by decide +kernel
theorem dX12_asNow_3 : decode cX12_asNow 3 = .ok (.aload_n 0, 1) := by decide +kernel
theorem dX12_asNow_4 : decode cX12_asNow 4 = .ok (.getfield 33, 3) := by decide +kernel
theorem dX12_asNow_7 : decode cX12_asNow 7 = .ok (.iconst 1, 1) := by decide +kernel
theorem dX12_asNow_8 : decode cX12_asNow 8 = .ok (.iaload, 1) := by decide +kernel
theorem dX12_asNow_9 : decode cX12_asNow 9 = .ok (.if_icmp .ge 24, 3) := by decide +kernel
theorem dX12_asNow_12 : decode cX12_asNow 12 = .ok (.aload_n 0, 1) := by decide +kernel
theorem dX12_asNow_13 : decode cX12_asNow 13 = .ok (.iload_n 1, 1) := by decide +kernel
theorem dX12_asNow_14 : decode cX12_asNow 14 = .ok (.aload_n 0, 1) := by decide +kernel
theorem dX12_asNow_15 : decode cX12_asNow 15 = .ok (.getfield 33, 3) := by decide +kernel
theorem dX12_asNow_18 : decode cX12_asNow 18 = .ok (.sipush 214, 3) := by decide +kernel
theorem dX12_asNow_21 : decode cX12_asNow 21 = .ok (.iload_n 1, 1) := by decide +kernel
theorem dX12_asNow_22 : decode cX12_asNow 22 = .ok (.iadd, 1) := by decide +kernel
theorem dX12_asNow_23 : decode cX12_asNow 23 = .ok (.iaload, 1) := by decide +kernel
theorem dX12_asNow_24 : decode cX12_asNow 24 = .ok (.invokevirtual 279, 3) := by decide +kernel
theorem dX12_asNow_27 : decode cX12_asNow 27 = .ok (.iinc 1 1, 3) := by decide +kernel
theorem dX12_asNow_30 : decode cX12_asNow 30 = .ok (.goto (-28), 3) := by decide +kernel
theorem dX12_asNow_33 : decode cX12_asNow 33 = .ok (.return_, 1) := by decide +kernel
set_option maxRecDepth 20000 in
theorem ggX12_farOf_X12_off : GoodIn wsX12_farOf wsX12_off := goodIn_r _ [7] rfl (by decide +kernel)
set_option maxRecDepth 20000 in
theorem gX12_farOf_X12_off : GoodIn wsX12_farOf (va_wsS RX12 283 yX12_off wsX12_off) := goodIn_app (goodIn_of _ (by decide +kernel)) ggX12_farOf_X12_off
theorem dX12_farOf_0 : decode cX12_farOf 0 = .ok (.aload_n 0, 1) := by decide +kernel
theorem dX12_farOf_1 : decode cX12_farOf 1 = .ok (.getfield 50, 3) := by decide +kernel
theorem dX12_farOf_4 : decode cX12_farOf 4 = .ok (.iload_n 1, 1) := by decide +kernel
theorem dX12_farOf_5 : decode cX12_farOf 5 = .ok (.iaload, 1) := by decide +kernel
theorem dX12_farOf_6 : decode cX12_farOf 6 = .ok (.aload_n 0, 1) := by decide +kernel
theorem dX12_farOf_7 : decode cX12_farOf 7 = .ok (.getfield 33, 3) := by decide +kernel
theorem dX12_farOf_10 : decode cX12_farOf 10 = .ok (.sipush 131, 3) := by decide +kernel
theorem dX12_farOf_13 : decode cX12_farOf 13 = .ok (.bipush 10, 2) := by decide +kernel
theorem dX12_farOf_15 : decode cX12_farOf 15 = .ok (.iload_n 2, 1) := by decide +kernel
theorem dX12_farOf_16 : decode cX12_farOf 16 = .ok (.imul, 1) := by decide +kernel
theorem dX12_farOf_17 : decode cX12_farOf 17 = .ok (.iadd, 1) := by decide +kernel
theorem dX12_farOf_18 : decode cX12_farOf 18 = .ok (.iload_n 3, 1) := by decide +kernel
theorem dX12_farOf_19 : decode cX12_farOf 19 = .ok (.iadd, 1) := by decide +kernel
theorem dX12_farOf_20 : decode cX12_farOf 20 = .ok (.iaload, 1) := by decide +kernel
theorem dX12_farOf_21 : decode cX12_farOf 21 = .ok (.invokestatic 283, 3) := by decide +kernel
theorem dX12_farOf_24 : decode cX12_farOf 24 = .ok (.aload_n 0, 1) := by decide +kernel
theorem dX12_farOf_25 : decode cX12_farOf 25 = .ok (.getfield 53, 3) := by decide +kernel
theorem dX12_farOf_28 : decode cX12_farOf 28 = .ok (.iload_n 1, 1) := by decide +kernel
theorem dX12_farOf_29 : decode cX12_farOf 29 = .ok (.iaload, 1) := by decide +kernel
theorem dX12_farOf_30 : decode cX12_farOf 30 = .ok (.aload_n 0, 1) := by decide +kernel
theorem dX12_farOf_31 : decode cX12_farOf 31 = .ok (.getfield 33, 3) := by decide +kernel
theorem dX12_farOf_34 : decode cX12_farOf 34 = .ok (.sipush 171, 3) := by decide +kernel
theorem dX12_farOf_37 : decode cX12_farOf 37 = .ok (.bipush 10, 2) := by decide +kernel
theorem dX12_farOf_39 : decode cX12_farOf 39 = .ok (.iload_n 2, 1) := by decide +kernel
theorem dX12_farOf_40 : decode cX12_farOf 40 = .ok (.imul, 1) := by decide +kernel
theorem dX12_farOf_41 : decode cX12_farOf 41 = .ok (.iadd, 1) := by decide +kernel
theorem dX12_farOf_42 : decode cX12_farOf 42 = .ok (.iload_n 3, 1) := by decide +kernel
theorem dX12_farOf_43 : decode cX12_farOf 43 = .ok (.iadd, 1) := by decide +kernel
theorem dX12_farOf_44 : decode cX12_farOf 44 = .ok (.iaload, 1) := by decide +kernel
theorem dX12_farOf_45 : decode cX12_farOf 45 = .ok (.invokestatic 283, 3) := by decide +kernel
theorem dX12_farOf_48 : decode cX12_farOf 48 = .ok (.iadd, 1) := by decide +kernel
theorem dX12_farOf_49 : decode cX12_farOf 49 = .ok (.ireturn, 1) := by decide +kernel
theorem dX12_isWindward_0 : decode cX12_isWindward 0 = .ok (.aload_n 0, 1) := by decide +kernel
theorem dX12_isWindward_1 : decode cX12_isWindward 1 = .ok (.getfield 33, 3) := by decide +kernel
theorem dX12_isWindward_4 : decode cX12_isWindward 4 = .ok (.sipush 131, 3) := by decide +kernel
theorem dX12_isWindward_7 : decode cX12_isWindward 7 = .ok (.bipush 10, 2) := by decide +kernel
theorem dX12_isWindward_9 : decode cX12_isWindward 9 = .ok (.iload_n 2, 1) := by decide +kernel
theorem dX12_isWindward_10 : decode cX12_isWindward 10 = .ok (.imul, 1) := by decide +kernel
theorem dX12_isWindward_11 : decode cX12_isWindward 11 = .ok (.iadd, 1) := by decide +kernel
theorem dX12_isWindward_12 : decode cX12_isWindward 12 = .ok (.iload_n 3, 1) := by decide +kernel
theorem dX12_isWindward_13 : decode cX12_isWindward 13 = .ok (.iadd, 1) := by decide +kernel
theorem dX12_isWindward_14 : decode cX12_isWindward 14 = .ok (.iaload, 1) := by decide +kernel
theorem dX12_isWindward_15 : decode cX12_isWindward 15 = .ok (.istore 4, 2) := by decide +kernel
theorem dX12_isWindward_17 : decode cX12_isWindward 17 = .ok (.aload_n 0, 1) := by decide +kernel
theorem dX12_isWindward_18 : decode cX12_isWindward 18 = .ok (.getfield 33, 3) := by decide +kernel
theorem dX12_isWindward_21 : decode cX12_isWindward 21 = .ok (.sipush 171, 3) := by decide +kernel
theorem dX12_isWindward_24 : decode cX12_isWindward 24 = .ok (.bipush 10, 2) := by decide +kernel
theorem dX12_isWindward_26 : decode cX12_isWindward 26 = .ok (.iload_n 2, 1) := by decide +kernel
theorem dX12_isWindward_27 : decode cX12_isWindward 27 = .ok (.imul, 1) := by decide +kernel
theorem dX12_isWindward_28 : decode cX12_isWindward 28 = .ok (.iadd, 1) := by decide +kernel
theorem dX12_isWindward_29 : decode cX12_isWindward 29 = .ok (.iload_n 3, 1) := by decide +kernel
theorem dX12_isWindward_30 : decode cX12_isWindward 30 = .ok (.iadd, 1) := by decide +kernel
theorem dX12_isWindward_31 : decode cX12_isWindward 31 = .ok (.iaload, 1) := by decide +kernel
theorem dX12_isWindward_32 : decode cX12_isWindward 32 = .ok (.istore 5, 2) := by decide +kernel
theorem dX12_isWindward_34 : decode cX12_isWindward 34 = .ok (.aload_n 0, 1) := by decide +kernel
theorem dX12_isWindward_35 : decode cX12_isWindward 35 = .ok (.getfield 33, 3) := by decide +kernel
theorem dX12_isWindward_38 : decode cX12_isWindward 38 = .ok (.iconst 5, 1) := by decide +kernel
theorem dX12_isWindward_39 : decode cX12_isWindward 39 = .ok (.iaload, 1) := by decide +kernel
theorem dX12_isWindward_40 : decode cX12_isWindward 40 = .ok (.ifCond .ne 22, 3) := by decide +kernel
theorem dX12_isWindward_43 : decode cX12_isWindward 43 = .ok (.aload_n 0, 1) := by decide +kernel
theorem dX12_isWindward_44 : decode cX12_isWindward 44 = .ok (.getfield 53, 3) := by decide +kernel
theorem dX12_isWindward_47 : decode cX12_isWindward 47 = .ok (.iload_n 1, 1) := by decide +kernel
theorem dX12_isWindward_48 : decode cX12_isWindward 48 = .ok (.iaload, 1) := by decide +kernel
theorem dX12_isWindward_49 : decode cX12_isWindward 49 = .ok (.iload 5, 2) := by decide +kernel
theorem dX12_isWindward_51 : decode cX12_isWindward 51 = .ok (.if_icmp .ge 7, 3) := by decide +kernel
theorem dX12_isWindward_54 : decode cX12_isWindward 54 = .ok (.iconst 1, 1) := by decide +kernel
theorem dX12_isWindward_55 : decode cX12_isWindward 55 = .ok (.goto 81, 3) := by decide +kernel
theorem dX12_isWindward_58 : decode cX12_isWindward 58 = .ok (.iconst 0, 1) := by decide +kernel
theorem dX12_isWindward_59 : decode cX12_isWindward 59 = .ok (.goto 77, 3) := by decide +kernel
theorem dX12_isWindward_62 : decode cX12_isWindward 62 = .ok (.aload_n 0, 1) := by decide +kernel
theorem dX12_isWindward_63 : decode cX12_isWindward 63 = .ok (.getfield 33, 3) := by decide +kernel
theorem dX12_isWindward_66 : decode cX12_isWindward 66 = .ok (.iconst 5, 1) := by decide +kernel
theorem dX12_isWindward_67 : decode cX12_isWindward 67 = .ok (.iaload, 1) := by decide +kernel
theorem dX12_isWindward_68 : decode cX12_isWindward 68 = .ok (.iconst 1, 1) := by decide +kernel
theorem dX12_isWindward_69 : decode cX12_isWindward 69 = .ok (.if_icmp .ne 22, 3) := by decide +kernel
theorem dX12_isWindward_72 : decode cX12_isWindward 72 = .ok (.aload_n 0, 1) := by decide +kernel
theorem dX12_isWindward_73 : decode cX12_isWindward 73 = .ok (.getfield 50, 3) := by decide +kernel
theorem dX12_isWindward_76 : decode cX12_isWindward 76 = .ok (.iload_n 1, 1) := by decide +kernel
theorem dX12_isWindward_77 : decode cX12_isWindward 77 = .ok (.iaload, 1) := by decide +kernel
theorem dX12_isWindward_78 : decode cX12_isWindward 78 = .ok (.iload 4, 2) := by decide +kernel
theorem dX12_isWindward_80 : decode cX12_isWindward 80 = .ok (.if_icmp .le 7, 3) := by decide +kernel
theorem dX12_isWindward_83 : decode cX12_isWindward 83 = .ok (.iconst 1, 1) := by decide +kernel
theorem dX12_isWindward_84 : decode cX12_isWindward 84 = .ok (.goto 52, 3) := by decide +kernel
theorem dX12_isWindward_87 : decode cX12_isWindward 87 = .ok (.iconst 0, 1) := by decide +kernel
theorem dX12_isWindward_88 : decode cX12_isWindward 88 = .ok (.goto 48, 3) := by decide +kernel
theorem dX12_isWindward_91 : decode cX12_isWindward 91 = .ok (.aload_n 0, 1) := by decide +kernel
theorem dX12_isWindward_92 : decode cX12_isWindward 92 = .ok (.getfield 33, 3) := by decide +kernel
theorem dX12_isWindward_95 : decode cX12_isWindward 95 = .ok (.iconst 5, 1) := by decide +kernel
theorem dX12_isWindward_96 : decode cX12_isWindward 96 = .ok (.iaload, 1) := by decide +kernel
theorem dX12_isWindward_97 : decode cX12_isWindward 97 = .ok (.iconst 2, 1) := by decide +kernel
theorem dX12_isWindward_98 : decode cX12_isWindward 98 = .ok (.if_icmp .ne 22, 3) := by decide +kernel
theorem dX12_isWindward_101 : decode cX12_isWindward 101 = .ok (.aload_n 0, 1) := by decide +kernel
theorem dX12_isWindward_102 : decode cX12_isWindward 102 = .ok (.getfield 53, 3) := by decide +kernel
theorem dX12_isWindward_105 : decode cX12_isWindward 105 = .ok (.iload_n 1, 1) := by decide +kernel
theorem dX12_isWindward_106 : decode cX12_isWindward 106 = .ok (.iaload, 1) := by decide +kernel
theorem dX12_isWindward_107 : decode cX12_isWindward 107 = .ok (.iload 5, 2) := by decide +kernel
theorem dX12_isWindward_109 : decode cX12_isWindward 109 = .ok (.if_icmp .le 7, 3) := by decide +kernel
theorem dX12_isWindward_112 : decode cX12_isWindward 112 = .ok (.iconst 1, 1) := by decide +kernel
theorem dX12_isWindward_113 : decode cX12_isWindward 113 = .ok (.goto 23, 3) := by decide +kernel
theorem dX12_isWindward_116 : decode cX12_isWindward 116 = .ok (.iconst 0, 1) := by decide +kernel
theorem dX12_isWindward_117 : decode cX12_isWindward 117 = .ok (.goto 19, 3) := by decide +kernel
theorem dX12_isWindward_120 : decode cX12_isWindward 120 = .ok (.aload_n 0, 1) := by decide +kernel
theorem dX12_isWindward_121 : decode cX12_isWindward 121 = .ok (.getfield 50, 3) := by decide +kernel
theorem dX12_isWindward_124 : decode cX12_isWindward 124 = .ok (.iload_n 1, 1) := by decide +kernel
theorem dX12_isWindward_125 : decode cX12_isWindward 125 = .ok (.iaload, 1) := by decide +kernel
theorem dX12_isWindward_126 : decode cX12_isWindward 126 = .ok (.iload 4, 2) := by decide +kernel
theorem dX12_isWindward_128 : decode cX12_isWindward 128 = .ok (.if_icmp .ge 7, 3) := by decide +kernel
theorem dX12_isWindward_131 : decode cX12_isWindward 131 = .ok (.iconst 1, 1) := by decide +kernel
theorem dX12_isWindward_132 : decode cX12_isWindward 132 = .ok (.goto 4, 3) := by decide +kernel
theorem dX12_isWindward_135 : decode cX12_isWindward 135 = .ok (.iconst 0, 1) := by decide +kernel
theorem dX12_isWindward_136 : decode cX12_isWindward 136 = .ok (.ireturn, 1) := by decide +kernel
set_option maxRecDepth 20000 in
theorem ggX12_canHear_X12_isWindward : GoodIn wsX12_canHear wsX12_isWindward := goodIn_r _ [8, 1, 9, 3, 21, 22, 23, 24, 25, 26, 27, 28, 29, 30, 31, 32, 33, 34, 35, 36, 37, 38, 39, 40, 41, 42, 43, 44, 45, 46, 47, 48, 49, 50, 51, 52, 53, 54, 55, 56, 57, 58, 59, 60, 61, 62, 63, 64, 65, 66, 67] rfl (by decide +kernel)
set_option maxRecDepth 20000 in
theorem gX12_canHear_X12_isWindward : GoodIn wsX12_canHear (wsV RX12 286 RX12 yX12_isWindward wsX12_isWindward) := goodIn_app (goodIn_of _ (by decide +kernel)) ggX12_canHear_X12_isWindward
set_option maxRecDepth 20000 in
theorem ggX12_canHear_X12_valleyOf : GoodIn wsX12_canHear wsX12_valleyOf := goodIn_r _ [13, 1, 21, 22, 23, 24, 25, 26, 27, 28, 29, 30, 31, 32, 33, 34, 35, 36, 37, 38, 39, 40, 41, 42, 43, 44, 45, 46, 47, 48, 49, 50, 51, 52, 53, 54, 55, 56, 57, 58, 59, 60, 61, 62, 63, 64, 65, 66, 67] rfl (by decide +kernel)
set_option maxRecDepth 20000 in
theorem gX12_canHear_X12_valleyOf : GoodIn wsX12_canHear (wsV RX12 265 RX12 yX12_valleyOf wsX12_valleyOf) := goodIn_app (goodIn_of _ (by decide +kernel)) ggX12_canHear_X12_valleyOf
set_option maxRecDepth 20000 in
theorem ggX12_canHear_X12_farOf : GoodIn wsX12_canHear wsX12_farOf := goodIn_r _ [17, 3, 1, 9, 18, 19, 7, 20, 21, 22, 23, 24, 25, 26, 27, 28, 29, 30, 31, 32, 33, 34, 35, 36, 37, 38, 39, 40, 41, 42, 43, 44, 45, 46, 47, 48, 49, 50, 51, 52, 53, 54, 55, 56, 57, 58, 59, 60, 61, 62, 63, 64, 65, 66, 67] rfl (by decide +kernel)
set_option maxRecDepth 20000 in
theorem gX12_canHear_X12_farOf : GoodIn wsX12_canHear (wsV RX12 289 RX12 yX12_farOf wsX12_farOf) := goodIn_app (goodIn_of _ (by decide +kernel)) ggX12_canHear_X12_farOf
theorem dX12_canHear_0 : decode cX12_canHear 0 = .ok (.aload_n 0, 1) := by decide +kernel
theorem dX12_canHear_1 : decode cX12_canHear 1 = .ok (.getfield 33, 3) := by decide +kernel
theorem dX12_canHear_4 : decode cX12_canHear 4 = .ok (.bipush 63, 2) := by decide +kernel
theorem dX12_canHear_6 : decode cX12_canHear 6 = .ok (.iload_n 1, 1) := by decide +kernel
theorem dX12_canHear_7 : decode cX12_canHear 7 = .ok (.iadd, 1) := by decide +kernel
theorem dX12_canHear_8 : decode cX12_canHear 8 = .ok (.iaload, 1) := by decide +kernel
theorem dX12_canHear_9 : decode cX12_canHear 9 = .ok (.ifCond .le 17, 3) := by decide +kernel
theorem dX12_canHear_12 : decode cX12_canHear 12 = .ok (.aload_n 0, 1) := by decide +kernel
theorem dX12_canHear_13 : decode cX12_canHear 13 = .ok (.getfield 33, 3) := by decide +kernel
theorem dX12_canHear_16 : decode cX12_canHear 16 = .ok (.bipush 63, 2) := by decide +kernel
theorem dX12_canHear_18 : decode cX12_canHear 18 = .ok (.iload_n 1, 1) := by decide +kernel
theorem dX12_canHear_19 : decode cX12_canHear 19 = .ok (.iadd, 1) := by decide +kernel
theorem dX12_canHear_20 : decode cX12_canHear 20 = .ok (.iaload, 1) := by decide +kernel
theorem dX12_canHear_21 : decode cX12_canHear 21 = .ok (.iconst 1, 1) := by decide +kernel
theorem dX12_canHear_22 : decode cX12_canHear 22 = .ok (.isub, 1) := by decide +kernel
theorem dX12_canHear_23 : decode cX12_canHear 23 = .ok (.goto 4, 3) := by decide +kernel
theorem dX12_canHear_26 : decode cX12_canHear 26 = .ok (.iload_n 1, 1) := by decide +kernel
theorem dX12_canHear_27 : decode cX12_canHear 27 = .ok (.istore 4, 2) := by decide +kernel
theorem dX12_canHear_29 : decode cX12_canHear 29 = .ok (.iload 4, 2) := by decide +kernel
theorem dX12_canHear_31 : decode cX12_canHear 31 = .ok (.iload_n 1, 1) := by decide +kernel
theorem dX12_canHear_32 : decode cX12_canHear 32 = .ok (.if_icmp .eq 18, 3) := by decide +kernel
theorem dX12_canHear_35 : decode cX12_canHear 35 = .ok (.aload_n 0, 1) := by decide +kernel
theorem dX12_canHear_36 : decode cX12_canHear 36 = .ok (.getfield 33, 3) := by decide +kernel
theorem dX12_canHear_39 : decode cX12_canHear 39 = .ok (.bipush 63, 2) := by decide +kernel
theorem dX12_canHear_41 : decode cX12_canHear 41 = .ok (.iload 4, 2) := by decide +kernel
theorem dX12_canHear_43 : decode cX12_canHear 43 = .ok (.iadd, 1) := by decide +kernel
theorem dX12_canHear_44 : decode cX12_canHear 44 = .ok (.iaload, 1) := by decide +kernel
theorem dX12_canHear_45 : decode cX12_canHear 45 = .ok (.ifCond .le 5, 3) := by decide +kernel
theorem dX12_canHear_48 : decode cX12_canHear 48 = .ok (.iconst 0, 1) := by decide +kernel
theorem dX12_canHear_49 : decode cX12_canHear 49 = .ok (.ireturn, 1) := by decide +kernel
theorem dX12_canHear_50 : decode cX12_canHear 50 = .ok (.aload_n 0, 1) := by decide +kernel
theorem dX12_canHear_51 : decode cX12_canHear 51 = .ok (.getfield 33, 3) := by decide +kernel
theorem dX12_canHear_54 : decode cX12_canHear 54 = .ok (.bipush 39, 2) := by decide +kernel
theorem dX12_canHear_56 : decode cX12_canHear 56 = .ok (.iload 4, 2) := by decide +kernel
theorem dX12_canHear_58 : decode cX12_canHear 58 = .ok (.iadd, 1) := by decide +kernel
theorem dX12_canHear_59 : decode cX12_canHear 59 = .ok (.iaload, 1) := by decide +kernel
theorem dX12_canHear_60 : decode cX12_canHear 60 = .ok (.aload_n 0, 1) := by decide +kernel
theorem dX12_canHear_61 : decode cX12_canHear 61 = .ok (.getfield 33, 3) := by decide +kernel
theorem dX12_canHear_64 : decode cX12_canHear 64 = .ok (.bipush 83, 2) := by decide +kernel
theorem dX12_canHear_66 : decode cX12_canHear 66 = .ok (.iload_n 2, 1) := by decide +kernel
theorem dX12_canHear_67 : decode cX12_canHear 67 = .ok (.iadd, 1) := by decide +kernel
theorem dX12_canHear_68 : decode cX12_canHear 68 = .ok (.iaload, 1) := by decide +kernel
theorem dX12_canHear_69 : decode cX12_canHear 69 = .ok (.iadd, 1) := by decide +kernel
theorem dX12_canHear_70 : decode cX12_canHear 70 = .ok (.aload_n 0, 1) := by decide +kernel
theorem dX12_canHear_71 : decode cX12_canHear 71 = .ok (.getfield 56, 3) := by decide +kernel
theorem dX12_canHear_74 : decode cX12_canHear 74 = .ok (.iload 4, 2) := by decide +kernel
theorem dX12_canHear_76 : decode cX12_canHear 76 = .ok (.iaload, 1) := by decide +kernel
theorem dX12_canHear_77 : decode cX12_canHear 77 = .ok (.isub, 1) := by decide +kernel
theorem dX12_canHear_78 : decode cX12_canHear 78 = .ok (.aload_n 0, 1) := by decide +kernel
theorem dX12_canHear_79 : decode cX12_canHear 79 = .ok (.iload 4, 2) := by decide +kernel
theorem dX12_canHear_81 : decode cX12_canHear 81 = .ok (.iload_n 2, 1) := by decide +kernel
theorem dX12_canHear_82 : decode cX12_canHear 82 = .ok (.iload_n 3, 1) := by decide +kernel
theorem dX12_canHear_83 : decode cX12_canHear 83 = .ok (.invokevirtual 286, 3) := by decide +kernel
theorem dX12_canHear_86 : decode cX12_canHear 86 = .ok (.ifCond .eq 13, 3) := by decide +kernel
theorem dX12_canHear_89 : decode cX12_canHear 89 = .ok (.aload_n 0, 1) := by decide +kernel
theorem dX12_canHear_90 : decode cX12_canHear 90 = .ok (.getfield 33, 3) := by decide +kernel
theorem dX12_canHear_93 : decode cX12_canHear 93 = .ok (.bipush 6, 2) := by decide +kernel
theorem dX12_canHear_95 : decode cX12_canHear 95 = .ok (.iaload, 1) := by decide +kernel
theorem dX12_canHear_96 : decode cX12_canHear 96 = .ok (.goto 4, 3) := by decide +kernel
theorem dX12_canHear_99 : decode cX12_canHear 99 = .ok (.iconst 0, 1) := by decide +kernel
theorem dX12_canHear_100 : decode cX12_canHear 100 = .ok (.iadd, 1) := by decide +kernel
theorem dX12_canHear_101 : decode cX12_canHear 101 = .ok (.istore 5, 2) := by decide +kernel
theorem dX12_canHear_103 : decode cX12_canHear 103 = .ok (.aload_n 0, 1) := by decide +kernel
theorem dX12_canHear_104 : decode cX12_canHear 104 = .ok (.aload_n 0, 1) := by decide +kernel
theorem dX12_canHear_105 : decode cX12_canHear 105 = .ok (.getfield 50, 3) := by decide +kernel
theorem dX12_canHear_108 : decode cX12_canHear 108 = .ok (.iload 4, 2) := by decide +kernel
theorem dX12_canHear_110 : decode cX12_canHear 110 = .ok (.iaload, 1) := by decide +kernel
theorem dX12_canHear_111 : decode cX12_canHear 111 = .ok (.invokevirtual 265, 3) := by decide +kernel
theorem dX12_canHear_114 : decode cX12_canHear 114 = .ok (.aload_n 0, 1) := by decide +kernel
