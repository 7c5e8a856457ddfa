theorem dX12_takesName_6 : decode cX12_takesName 6 = .ok (.ifCond .ne 5, 3) := by decide +kernel
theorem dX12_takesName_9 : decode cX12_takesName 9 = .ok (.iconst 0, 1) := by decide +kernel
theorem dX12_takesName_10 : decode cX12_takesName 10 = .ok (.ireturn, 1) := by decide +kernel
theorem dX12_takesName_11 : decode cX12_takesName 11 = .ok (.aload_n 0, 1) := by decide +kernel
theorem dX12_takesName_12 : decode cX12_takesName 12 = .ok (.invokevirtual 188, 3) := by decide +kernel
theorem dX12_takesName_15 : decode cX12_takesName 15 = .ok (.iconst 1, 1) := by decide +kernel
theorem dX12_takesName_16 : decode cX12_takesName 16 = .ok (.ireturn, 1) := by decide +kernel
set_option maxRecDepth 20000 in
theorem ggX12_isOnce_X12_bitOf : GoodIn wsX12_isOnce wsX12_bitOf := goodIn_r _ [5] rfl (by decide +kernel)
set_option maxRecDepth 20000 in
theorem gX12_isOnce_X12_bitOf : GoodIn wsX12_isOnce (va_wsS RX12 216 yX12_bitOf wsX12_bitOf) := goodIn_app (goodIn_of _ (by decide +kernel)) ggX12_isOnce_X12_bitOf
set_option maxRecDepth 20000 in
theorem ggX12_isOnce_X12_bad : GoodIn wsX12_isOnce wsX12_bad := goodIn_r _ [9, 10, 11, 12, 35, 36, 37, 38, 39, 40, 41, 42, 43, 44, 45, 46, 47, 48, 49, 50, 51, 52, 53, 54, 55, 56, 57, 58, 59, 60, 61, 62, 63, 64, 65, 66, 67, 68, 69, 70, 71, 72, 73, 74, 75, 76, 77, 78, 79, 80, 81] rfl (by decide +kernel)
set_option maxRecDepth 20000 in
theorem gX12_isOnce_X12_bad : GoodIn wsX12_isOnce (wsV RX12 185 RX12 yX12_bad wsX12_bad) := goodIn_app (goodIn_of _ (by decide +kernel)) ggX12_isOnce_X12_bad
set_option maxRecDepth 20000 in
theorem ggX12_isOnce_X12_next : GoodIn wsX12_isOnce wsX12_next := goodIn_r _ [16, 17, 11, 18, 19, 20, 21, 22, 23, 24, 25, 26, 4, 27, 28, 29, 30, 31, 32, 33, 34, 35, 36, 37, 38, 39, 40, 41, 42, 43, 44, 45, 46, 47, 48, 49, 50, 51, 52, 53, 54, 55, 56, 57, 58, 59, 60, 61, 62, 63, 64, 65, 66, 67, 68, 69, 70, 71, 72, 73, 74, 75, 76, 77, 78, 79, 80, 81] rfl (by decide +kernel)
set_option maxRecDepth 20000 in
theorem gX12_isOnce_X12_next : GoodIn wsX12_isOnce (wsV RX12 188 RX12 yX12_next wsX12_next) := goodIn_app (goodIn_of _ (by decide +kernel)) ggX12_isOnce_X12_next
theorem dX12_isOnce_0 : decode cX12_isOnce 0 = .ok (.aload_n 0, 1) := by decide +kernel
theorem dX12_isOnce_1 : decode cX12_isOnce 1 = .ok (.getfield 213, 3) := by decide +kernel
theorem dX12_isOnce_4 : decode cX12_isOnce 4 = .ok (.iload_n 1, 1) := by decide +kernel
theorem dX12_isOnce_5 : decode cX12_isOnce 5 = .ok (.invokestatic 216, 3) := by decide +kernel
theorem dX12_isOnce_8 : decode cX12_isOnce 8 = .ok (.ifCond .eq 9, 3) := by decide +kernel
theorem dX12_isOnce_11 : decode cX12_isOnce 11 = .ok (.aload_n 0, 1) := by decide +kernel
theorem dX12_isOnce_12 : decode cX12_isOnce 12 = .ok (.iconst 3, 1) := by decide +kernel
theorem dX12_isOnce_13 : decode cX12_isOnce 13 = .ok (.invokevirtual 185, 3) := by decide +kernel
theorem dX12_isOnce_16 : decode cX12_isOnce 16 = .ok (.ireturn, 1) := by decide +kernel
theorem dX12_isOnce_17 : decode cX12_isOnce 17 = .ok (.aload_n 0, 1) := by decide +kernel
theorem dX12_isOnce_18 : decode cX12_isOnce 18 = .ok (.dup, 1) := by decide +kernel
theorem dX12_isOnce_19 : decode cX12_isOnce 19 = .ok (.getfield 213, 3) := by decide +kernel
theorem dX12_isOnce_22 : decode cX12_isOnce 22 = .ok (.iconst 1, 1) := by decide +kernel
theorem dX12_isOnce_23 : decode cX12_isOnce 23 = .ok (.iload_n 1, 1) := by decide +kernel
theorem dX12_isOnce_24 : decode cX12_isOnce 24 = .ok (.ishl, 1) := by decide +kernel
theorem dX12_isOnce_25 : decode cX12_isOnce 25 = .ok (.ior, 1) := by decide +kernel
theorem dX12_isOnce_26 : decode cX12_isOnce 26 = .ok (.putfield 213, 3) := by decide +kernel
theorem dX12_isOnce_29 : decode cX12_isOnce 29 = .ok (.aload_n 0, 1) := by decide +kernel
theorem dX12_isOnce_30 : decode cX12_isOnce 30 = .ok (.invokevirtual 188, 3) := by decide +kernel
theorem dX12_isOnce_33 : decode cX12_isOnce 33 = .ok (.iconst 1, 1) := by decide +kernel
theorem dX12_isOnce_34 : decode cX12_isOnce 34 = .ok (.ireturn, 1) := by decide +kernel
set_option maxRecDepth 20000 in
theorem ggX12_line_X12_isWord : GoodIn wsX12_line wsX12_isWord := goodIn_r _ [19, 20, 21, 105, 106, 107, 108, 109, 110, 111, 112, 113, 114, 115, 116, 117, 118, 119, 120, 121, 122, 123, 124, 125, 126, 127, 128, 129, 130, 131, 132, 133, 134, 135, 136, 137, 138, 139, 140, 141, 142, 143, 144, 145, 146, 147, 148, 149, 150, 151] rfl (by decide +kernel)
set_option maxRecDepth 20000 in
theorem gX12_line_X12_isWord : GoodIn wsX12_line (wsV RX12 219 RX12 yX12_isWord wsX12_isWord) := goodIn_app (goodIn_of _ (by decide +kernel)) ggX12_line_X12_isWord
set_option maxRecDepth 20000 in
theorem ggX12_line_X12_isOnce : GoodIn wsX12_line wsX12_isOnce := goodIn_r _ [25, 26, 27, 28, 18, 29, 30, 31, 32, 33, 34, 35, 36, 37, 38, 39, 40, 41, 42, 43, 44, 20, 45, 21, 46, 47, 48, 49, 50, 51, 52, 53, 54, 55, 56, 105, 106, 107, 108, 109, 110, 111, 112, 113, 114, 115, 116, 117, 118, 119, 120, 121, 122, 123, 124, 125, 126, 127, 128, 129, 130, 131, 132, 133, 134, 135, 136, 137, 138, 139, 140, 141, 142, 143, 144, 145, 146, 147, 148, 149, 150, 151] rfl (by decide +kernel)
set_option maxRecDepth 20000 in
theorem gX12_line_X12_isOnce : GoodIn wsX12_line (wsV RX12 223 RX12 yX12_isOnce wsX12_isOnce) := goodIn_app (goodIn_of _ (by decide +kernel)) ggX12_line_X12_isOnce
set_option maxRecDepth 20000 in
theorem ggX12_line_X12_puts : GoodIn wsX12_line wsX12_puts := goodIn_r _ [60, 8, 12, 61, 62, 63, 18, 64, 20, 45, 30, 31, 32, 33, 34, 35, 36, 65, 66, 67, 37, 38, 39, 40, 41, 42, 43, 44, 21, 46, 47, 48, 49, 50, 51, 52, 53, 54, 55, 56, 105, 106, 107, 108, 109, 110, 111, 112, 113, 114, 115, 116, 117, 118, 119, 120, 121, 122, 123, 124, 125, 126, 127, 128, 129, 130, 131, 132, 133, 134, 135, 136, 137, 138, 139, 140, 141, 142, 143, 144, 145, 146, 147, 148, 149, 150, 151] rfl (by decide +kernel)
set_option maxRecDepth 20000 in
theorem gX12_line_X12_puts : GoodIn wsX12_line (wsV RX12 226 RX12 yX12_puts wsX12_puts) := goodIn_app (goodIn_of _ (by decide +kernel)) ggX12_line_X12_puts
set_option maxRecDepth 20000 in
theorem ggX12_line_X12_bad : GoodIn wsX12_line wsX12_bad := goodIn_r _ [33, 34, 35, 36, 105, 106, 107, 108, 109, 110, 111, 112, 113, 114, 115, 116, 117, 118, 119, 120, 121, 122, 123, 124, 125, 126, 127, 128, 129, 130, 131, 132, 133, 134, 135, 136, 137, 138, 139, 140, 141, 142, 143, 144, 145, 146, 147, 148, 149, 150, 151] rfl (by decide +kernel)
set_option maxRecDepth 20000 in
theorem gX12_line_X12_bad : GoodIn wsX12_line (wsV RX12 185 RX12 yX12_bad wsX12_bad) := goodIn_app (goodIn_of _ (by decide +kernel)) ggX12_line_X12_bad
set_option maxRecDepth 20000 in
theorem ggX12_line_X12_next : GoodIn wsX12_line wsX12_next := goodIn_r _ [40, 41, 35, 42, 43, 44, 20, 45, 21, 46, 47, 48, 18, 49, 50, 51, 52, 53, 54, 55, 56, 105, 106, 107, 108, 109, 110, 111, 112, 113, 114, 115, 116, 117, 118, 119, 120, 121, 122, 123, 124, 125, 126, 127, 128, 129, 130, 131, 132, 133, 134, 135, 136, 137, 138, 139, 140, 141, 142, 143, 144, 145, 146, 147, 148, 149, 150, 151] rfl (by decide +kernel)
set_option maxRecDepth 20000 in
theorem gX12_line_X12_next : GoodIn wsX12_line (wsV RX12 188 RX12 yX12_next wsX12_next) := goodIn_app (goodIn_of _ (by decide +kernel)) ggX12_line_X12_next
set_option maxRecDepth 20000 in
theorem ggX12_line_X12_fresh : GoodIn wsX12_line wsX12_fresh := goodIn_r _ [71, 8, 72, 21, 73, 74, 75, 18, 76, 20, 77, 30, 31, 32, 33, 34, 35, 36, 78, 79, 80, 81, 37, 38, 39, 40, 41, 42, 43, 44, 45, 46, 47, 48, 49, 50, 51, 52, 53, 54, 55, 56, 105, 106, 107, 108, 109, 110, 111, 112, 113, 114, 115, 116, 117, 118, 119, 120, 121, 122, 123, 124, 125, 126, 127, 128, 129, 130, 131, 132, 133, 134, 135, 136, 137, 138, 139, 140, 141, 142, 143, 144, 145, 146, 147, 148, 149, 150, 151] rfl (by decide +kernel)
set_option maxRecDepth 20000 in
theorem gX12_line_X12_fresh : GoodIn wsX12_line (wsV RX12 229 RX12 yX12_fresh wsX12_fresh) := goodIn_app (goodIn_of _ (by decide +kernel)) ggX12_line_X12_fresh
set_option maxRecDepth 20000 in
theorem ggX12_line_X12_looksAt : GoodIn wsX12_line wsX12_looksAt := goodIn_r _ [85, 12, 73, 74, 75, 18, 76, 20, 21, 77, 30, 31, 32, 33, 34, 35, 36, 78, 79, 80, 81, 72, 105, 106, 107, 108, 109, 110, 111, 112, 113, 114, 115, 116, 117, 118, 119, 120, 121, 122, 123, 124, 125, 126, 127, 128, 129, 130, 131, 132, 133, 134, 135, 136, 137, 138, 139, 140, 141, 142, 143, 144, 145, 146, 147, 148, 149, 150, 151] rfl (by decide +kernel)
set_option maxRecDepth 20000 in
theorem gX12_line_X12_looksAt : GoodIn wsX12_line (wsV RX12 210 RX12 yX12_looksAt wsX12_looksAt) := goodIn_app (goodIn_of _ (by decide +kernel)) ggX12_line_X12_looksAt
set_option maxRecDepth 20000 in
theorem ggX12_line_X12_bitOf : GoodIn wsX12_line wsX12_bitOf := goodIn_r _ [29] rfl (by decide +kernel)
set_option maxRecDepth 20000 in
theorem gX12_line_X12_bitOf : GoodIn wsX12_line (va_wsS RX12 216 yX12_bitOf wsX12_bitOf) := goodIn_app (goodIn_of _ (by decide +kernel)) ggX12_line_X12_bitOf
set_option maxRecDepth 20000 in
theorem ggX12_line_X12_takesName : GoodIn wsX12_line wsX12_takesName := goodIn_r _ [89, 82, 83, 84, 18, 85, 12, 73, 74, 75, 76, 20, 21, 77, 30, 31, 32, 33, 34, 35, 36, 78, 79, 80, 81, 72, 37, 38, 39, 40, 41, 42, 43, 44, 45, 46, 47, 48, 49, 50, 51, 52, 53, 54, 55, 56, 105, 106, 107, 108, 109, 110, 111, 112, 113, 114, 115, 116, 117, 118, 119, 120, 121, 122, 123, 124, 125, 126, 127, 128, 129, 130, 131, 132, 133, 134, 135, 136, 137, 138, 139, 140, 141, 142, 143, 144, 145, 146, 147, 148, 149, 150, 151] rfl (by decide +kernel)
set_option maxRecDepth 20000 in
theorem gX12_line_X12_takesName : GoodIn wsX12_line (wsV RX12 235 RX12 yX12_takesName wsX12_takesName) := goodIn_app (goodIn_of _ (by decide +kernel)) ggX12_line_X12_takesName
set_option maxRecDepth 20000 in
theorem ggX12_line_X12_readFlight : GoodIn wsX12_line wsX12_readFlight := goodIn_r _ [93, 8, 20, 12, 30, 31, 32, 18, 33, 34, 35, 36, 37, 38, 39, 40, 41, 42, 43, 44, 45, 21, 46, 47, 48, 49, 50, 51, 52, 53, 54, 55, 56, 57, 58, 59, 60, 61, 62, 63, 64, 65, 66, 67, 94, 95, 96, 97, 105, 106, 107, 108, 109, 110, 111, 112, 113, 114, 115, 116, 117, 118, 119, 120, 121, 122, 123, 124, 125, 126, 127, 128, 129, 130, 131, 132, 133, 134, 135, 136, 137, 138, 139, 140, 141, 142, 143, 144, 145, 146, 147, 148, 149, 150, 151] rfl (by decide +kernel)
set_option maxRecDepth 20000 in
theorem gX12_line_X12_readFlight : GoodIn wsX12_line (wsV RX12 238 RX12 yX12_readFlight wsX12_readFlight) := goodIn_app (goodIn_of _ (by decide +kernel)) ggX12_line_X12_readFlight
set_option maxRecDepth 20000 in
theorem ggX12_line_X12_ofMan : GoodIn wsX12_line wsX12_ofMan := goodIn_r _ [101, 102, 103, 104, 8, 12, 15, 16, 17, 18, 19, 20, 21, 30, 31, 32, 33, 34, 35, 36, 37, 38, 39, 40, 41, 42, 43, 44, 45, 46, 47, 48, 49, 50, 51, 52, 53, 54, 55, 56, 82, 83, 84, 85, 73, 74, 75, 76, 77, 78, 79, 80, 81, 72, 61, 62, 63, 64, 65, 66, 67, 105, 106, 107, 108, 109, 110, 111, 112, 113, 114, 115, 116, 117, 118, 119, 120, 121, 122, 123, 124, 125, 126, 127, 128, 129, 130, 131, 132, 133, 134, 135, 136, 137, 138, 139, 140, 141, 142, 143, 144, 145, 146, 147, 148, 149, 150, 151] rfl (by decide +kernel)
set_option maxRecDepth 20000 in
theorem gX12_line_X12_ofMan : GoodIn wsX12_line (wsV RX12 241 RX12 yX12_ofMan wsX12_ofMan) := goodIn_app (goodIn_of _ (by decide +kernel)) ggX12_line_X12_ofMan
theorem dX12_line_0 : decode cX12_line 0 = .ok (.aload_n 0, 1) := by decide +kernel
theorem dX12_line_1 : decode cX12_line 1 = .ok (.ldc2_w 87, 3) := by decide +kernel
theorem dX12_line_4 : decode cX12_line 4 = .ok (.invokevirtual 219, 3) := by decide +kernel
theorem dX12_line_7 : decode cX12_line 7 = .ok (.ifCond .eq 28, 3) := by decide +kernel
theorem dX12_line_10 : decode cX12_line 10 = .ok (.aload_n 0, 1) := by decide +kernel
theorem dX12_line_11 : decode cX12_line 11 = .ok (.iconst 0, 1) := by decide +kernel
theorem dX12_line_12 : decode cX12_line 12 = .ok (.invokevirtual 223, 3) := by decide +kernel
theorem dX12_line_15 : decode cX12_line 15 = .ok (.ifCond .eq 18, 3) := by decide +kernel
theorem dX12_line_18 : decode cX12_line 18 = .ok (.aload_n 0, 1) := by decide +kernel
theorem dX12_line_19 : decode cX12_line 19 = .ok (.iconst 3, 1) := by decide +kernel
theorem dX12_line_20 : decode cX12_line 20 = .ok (.iconst 0, 1) := by decide +kernel
theorem dX12_line_21 : decode cX12_line 21 = .ok (.bipush 20, 2) := by decide +kernel
theorem dX12_line_23 : decode cX12_line 23 = .ok (.invokevirtual 226, 3) := by decide +kernel
theorem dX12_line_26 : decode cX12_line 26 = .ok (.ifCond .eq 7, 3) := by decide +kernel
theorem dX12_line_29 : decode cX12_line 29 = .ok (.iconst 1, 1) := by decide +kernel
theorem dX12_line_30 : decode cX12_line 30 = .ok (.goto 4, 3) := by decide +kernel
theorem dX12_line_33 : decode cX12_line 33 = .ok (.iconst 0, 1) := by decide +kernel
theorem dX12_line_34 : decode cX12_line 34 = .ok (.ireturn, 1) := by decide +kernel
theorem dX12_line_35 : decode cX12_line 35 = .ok (.aload_n 0, 1) := by decide +kernel
theorem dX12_line_36 : decode cX12_line 36 = .ok (.ldc2_w 89, 3) := by decide +kernel
theorem dX12_line_39 : decode cX12_line 39 = .ok (.invokevirtual 219, 3) := by decide +kernel
theorem dX12_line_42 : decode cX12_line 42 = .ok (.ifCond .eq 29, 3) := by decide +kernel
theorem dX12_line_45 : decode cX12_line 45 = .ok (.aload_n 0, 1) := by decide +kernel
theorem dX12_line_46 : decode cX12_line 46 = .ok (.iconst 1, 1) := by decide +kernel
theorem dX12_line_47 : decode cX12_line 47 = .ok (.invokevirtual 223, 3) := by decide +kernel
theorem dX12_line_50 : decode cX12_line 50 = .ok (.ifCond .eq 19, 3) := by decide +kernel
theorem dX12_line_53 : decode cX12_line 53 = .ok (.aload_n 0, 1) := by decide +kernel
theorem dX12_line_54 : decode cX12_line 54 = .ok (.iconst 4, 1) := by decide +kernel
theorem dX12_line_55 : decode cX12_line 55 = .ok (.iconst 0, 1) := by decide +kernel
theorem dX12_line_56 : decode cX12_line 56 = .ok (.sipush 999, 3) := by decide +kernel
theorem dX12_line_59 : decode cX12_line 59 = .ok (.invokevirtual 226, 3) := by decide +kernel
theorem dX12_line_62 : decode cX12_line 62 = .ok (.ifCond .eq 7, 3) := by decide +kernel
theorem dX12_line_65 : decode cX12_line 65 = .ok (.iconst 1, 1) := by decide +kernel
theorem dX12_line_66 : decode cX12_line 66 = .ok (.goto 4, 3) := by decide +kernel
theorem dX12_line_69 : decode cX12_line 69 = .ok (.iconst 0, 1) := by decide +kernel
theorem dX12_line_70 : decode cX12_line 70 = .ok (.ireturn, 1) := by decide +kernel
theorem dX12_line_71 : decode cX12_line 71 = .ok (.aload_n 0, 1) := by decide +kernel
theorem dX12_line_72 : decode cX12_line 72 = .ok (.ldc2_w 91, 3) := by decide +kernel
theorem dX12_line_75 : decode cX12_line 75 = .ok (.invokevirtual 219, 3) := by decide +kernel
theorem dX12_line_78 : decode cX12_line 78 = .ok (.ifCond .eq 102, 3) := by decide +kernel
theorem dX12_line_81 : decode cX12_line 81 = .ok (.aload_n 0, 1) := by decide +kernel
theorem dX12_line_82 : decode cX12_line 82 = .ok (.iconst 2, 1) := by decide +kernel
theorem dX12_line_83 : decode cX12_line 83 = .ok (.invokevirtual 223, 3) := by decide +kernel
theorem dX12_line_86 : decode cX12_line 86 = .ok (.ifCond .ne 5, 3) := by decide +kernel
theorem dX12_line_89 : decode cX12_line 89 = .ok (.iconst 0, 1) := by decide +kernel
theorem dX12_line_90 : decode cX12_line 90 = .ok (.ireturn, 1) := by decide +kernel
theorem dX12_line_91 : decode cX12_line 91 = .ok (.aload_n 0, 1) := by decide +kernel
theorem dX12_line_92 : decode cX12_line 92 = .ok (.ldc2_w 93, 3) := by decide +kernel
theorem dX12_line_95 : decode cX12_line 95 = .ok (.invokevirtual 219, 3) := by decide +kernel
theorem dX12_line_98 : decode cX12_line 98 = .ok (.ifCond .eq 7, 3) := by decide +kernel
theorem dX12_line_101 : decode cX12_line 101 = .ok (.iconst 0, 1) := by decide +kernel
theorem dX12_line_102 : decode cX12_line 102 = .ok (.goto 46, 3) := by decide +kernel
theorem dX12_line_105 : decode cX12_line 105 = .ok (.aload_n 0, 1) := by decide +kernel
theorem dX12_line_106 : decode cX12_line 106 = .ok (.ldc2_w 95, 3) := by decide +kernel
theorem dX12_line_109 : decode cX12_line 109 = .ok (.invokevirtual 219, 3) := by decide +kernel
theorem dX12_line_112 : decode cX12_line 112 = .ok (.ifCond .eq 7, 3) := by decide +kernel
theorem dX12_line_115 : decode cX12_line 115 = .ok (.iconst 1, 1) := by decide +kernel
theorem dX12_line_116 : decode cX12_line 116 = .ok (.goto 32, 3) := by decide +kernel
theorem dX12_line_119 : decode cX12_line 119 = .ok (.aload_n 0, 1) := by decide +kernel
theorem dX12_line_120 : decode cX12_line 120 = .ok (.ldc2_w 97, 3) := by decide +kernel
theorem dX12_line_123 : decode cX12_line 123 = .ok (.invokevirtual 219, 3) := by decide +kernel
theorem dX12_line_126 : decode cX12_line 126 = .ok (.ifCond .eq 7, 3) := by decide +kernel
theorem dX12_line_129 : decode cX12_line 129 = .ok (.iconst 2, 1) := by decide +kernel
theorem dX12_line_130 : decode cX12_line 130 = .ok (.goto 18, 3) := by decide +kernel
theorem dX12_line_133 : decode cX12_line 133 = .ok (.aload_n 0, 1) := by decide +kernel
theorem dX12_line_134 : decode cX12_line 134 = .ok (.ldc2_w 99, 3) := by decide +kernel
theorem dX12_line_137 : decode cX12_line 137 = .ok (.invokevirtual 219, 3) := by decide +kernel
theorem dX12_line_140 : decode cX12_line 140 = .ok (.ifCond .eq 7, 3) := by decide +kernel
theorem dX12_line_143 : decode cX12_line 143 = .ok (.iconst 3, 1) := by decide +kernel
theorem dX12_line_144 : decode cX12_line 144 = .ok (.goto 4, 3) := by decide +kernel
theorem dX12_line_147 : decode cX12_line 147 = .ok (.iconst (-1), 1) := by decide +kernel
theorem dX12_line_148 : decode cX12_line 148 = .ok (.istore_n 1, 1) := by decide +kernel
theorem dX12_line_149 : decode cX12_line 149 = .ok (.iload_n 1, 1) := by decide +kernel
theorem dX12_line_150 : decode cX12_line 150 = .ok (.ifCond .ge 9, 3) := by decide +kernel
theorem dX12_line_153 : decode cX12_line 153 = .ok (.aload_n 0, 1) := by decide +kernel
theorem dX12_line_154 : decode cX12_line 154 = .ok (.iconst 1, 1) := by decide +kernel
theorem dX12_line_155 : decode cX12_line 155 = .ok (.invokevirtual 185, 3) := by decide +kernel
theorem dX12_line_158 : decode cX12_line 158 = .ok (.ireturn, 1) := by decide +kernel
theorem dX12_line_159 : decode cX12_line 159 = .ok (.aload_n 0, 1) := by decide +kernel
theorem dX12_line_160 : decode cX12_line 160 = .ok (.getfield 37, 3) := by decide +kernel
theorem dX12_line_163 : decode cX12_line 163 = .ok (.iconst 5, 1) := by decide +kernel
theorem dX12_line_164 : decode cX12_line 164 = .ok (.iload_n 1, 1) := by decide +kernel
theorem dX12_line_165 : decode cX12_line 165 = .ok (.iastore, 1) := by decide +kernel
theorem dX12_line_166 : decode cX12_line 166 = .ok (.aload_n 0, 1) := by decide +kernel
theorem dX12_line_167 : decode cX12_line 167 = .ok (.invokevirtual 188, 3) := by decide +kernel
theorem dX12_line_170 : decode cX12_line 170 = .ok (.aload_n 0, 1) := by decide +kernel
theorem dX12_line_171 : decode cX12_line 171 = .ok (.bipush 6, 2) := by decide +kernel
theorem dX12_line_173 : decode cX12_line 173 = .ok (.iconst 0, 1) := by decide +kernel
theorem dX12_line_174 : decode cX12_line 174 = .ok (.bipush 9, 2) := by decide +kernel
theorem dX12_line_176 : decode cX12_line 176 = .ok (.invokevirtual 226, 3) := by decide +kernel
theorem dX12_line_179 : decode cX12_line 179 = .ok (.ireturn, 1) := by decide +kernel
theorem dX12_line_180 : decode cX12_line 180 = .ok (.aload_n 0, 1) := by decide +kernel
theorem dX12_line_181 : decode cX12_line 181 = .ok (.ldc2_w 101, 3) := by decide +kernel
theorem dX12_line_184 : decode cX12_line 184 = .ok (.invokevirtual 219, 3) := by decide +kernel
theorem dX12_line_187 : decode cX12_line 187 = .ok (.ifCond .eq 79, 3) := by decide +kernel
theorem dX12_line_190 : decode cX12_line 190 = .ok (.aload_n 0, 1) := by decide +kernel
theorem dX12_line_191 : decode cX12_line 191 = .ok (.getfield 37, 3) := by decide +kernel
theorem dX12_line_194 : decode cX12_line 194 = .ok (.iconst 0, 1) := by decide +kernel
theorem dX12_line_195 : decode cX12_line 195 = .ok (.iaload, 1) := by decide +kernel
theorem dX12_line_196 : decode cX12_line 196 = .ok (.istore_n 1, 1) := by decide +kernel
theorem dX12_line_197 : decode cX12_line 197 = .ok (.iload_n 1, 1) := by decide +kernel
theorem dX12_line_198 : decode cX12_line 198 = .ok (.bipush 8, 2) := by decide +kernel
theorem dX12_line_200 : decode cX12_line 200 = .ok (.if_icmp .ne 9, 3) := by decide +kernel
theorem dX12_line_203 : decode cX12_line 203 = .ok (.aload_n 0, 1) := by decide +kernel
theorem dX12_line_204 : decode cX12_line 204 = .ok (.iconst 4, 1) := by decide +kernel
theorem dX12_line_205 : decode cX12_line 205 = .ok (.invokevirtual 185, 3) := by decide +kernel
theorem dX12_line_208 : decode cX12_line 208 = .ok (.ireturn, 1) := by decide +kernel
theorem dX12_line_209 : decode cX12_line 209 = .ok (.aload_n 0, 1) := by decide +kernel
theorem dX12_line_210 : decode cX12_line 210 = .ok (.invokevirtual 188, 3) := by decide +kernel
theorem dX12_line_213 : decode cX12_line 213 = .ok (.aload_n 0, 1) := by decide +kernel
theorem dX12_line_214 : decode cX12_line 214 = .ok (.bipush 16, 2) := by decide +kernel
theorem dX12_line_216 : decode cX12_line 216 = .ok (.iload_n 1, 1) := by decide +kernel
theorem dX12_line_217 : decode cX12_line 217 = .ok (.iadd, 1) := by decide +kernel
theorem dX12_line_218 : decode cX12_line 218 = .ok (.invokevirtual 229, 3) := by decide +kernel
theorem dX12_line_221 : decode cX12_line 221 = .ok (.ifCond .eq 31, 3) := by decide +kernel
theorem dX12_line_224 : decode cX12_line 224 = .ok (.aload_n 0, 1) := by decide +kernel
theorem dX12_line_225 : decode cX12_line 225 = .ok (.bipush 7, 2) := by decide +kernel
theorem dX12_line_227 : decode cX12_line 227 = .ok (.iload_n 1, 1) := by decide +kernel
theorem dX12_line_228 : decode cX12_line 228 = .ok (.iadd, 1) := by decide +kernel
theorem dX12_line_229 : decode cX12_line 229 = .ok (.iconst 0, 1) := by decide +kernel
theorem dX12_line_230 : decode cX12_line 230 = .ok (.bipush 20, 2) := by decide +kernel
theorem dX12_line_232 : decode cX12_line 232 = .ok (.invokevirtual 226, 3) := by decide +kernel
theorem dX12_line_235 : decode cX12_line 235 = .ok (.ifCond .eq 17, 3) := by decide +kernel
theorem dX12_line_238 : decode cX12_line 238 = .ok (.aload_n 0, 1) := by decide +kernel
theorem dX12_line_239 : decode cX12_line 239 = .ok (.bipush 15, 2) := by decide +kernel
theorem dX12_line_241 : decode cX12_line 241 = .ok (.iload_n 1, 1) := by decide +kernel
theorem dX12_line_242 : decode cX12_line 242 = .ok (.iadd, 1) := by decide +kernel
theorem dX12_line_243 : decode cX12_line 243 = .ok (.iconst 0, 1) := by decide +kernel
theorem dX12_line_244 : decode cX12_line 244 = .ok (.bipush 20, 2) := by decide +kernel
theorem dX12_line_246 : decode cX12_line 246 = .ok (.invokevirtual 226, 3) := by decide +kernel
theorem dX12_line_249 : decode cX12_line 249 = .ok (.ifCond .ne 5, 3) := by decide +kernel
theorem dX12_line_252 : decode cX12_line 252 = .ok (.iconst 0, 1) := by decide +kernel
theorem dX12_line_253 : decode cX12_line 253 = .ok (.ireturn, 1) := by decide +kernel
theorem dX12_line_254 : decode cX12_line 254 = .ok (.aload_n 0, 1) := by decide +kernel
theorem dX12_line_255 : decode cX12_line 255 = .ok (.getfield 37, 3) := by decide +kernel
theorem dX12_line_258 : decode cX12_line 258 = .ok (.iconst 0, 1) := by decide +kernel
theorem dX12_line_259 : decode cX12_line 259 = .ok (.dup2, 1) := by decide +kernel
theorem dX12_line_260 : decode cX12_line 260 = .ok (.iaload, 1) := by decide +kernel
theorem dX12_line_261 : decode cX12_line 261 = .ok (.iconst 1, 1) := by decide +kernel
theorem dX12_line_262 : decode cX12_line 262 = .ok (.iadd, 1) := by decide +kernel
theorem dX12_line_263 : decode cX12_line 263 = .ok (.iastore, 1) := by decide +kernel
theorem dX12_line_264 : decode cX12_line 264 = .ok (.iconst 1, 1) := by decide +kernel
theorem dX12_line_265 : decode cX12_line 265 = .ok (.ireturn, 1) := by decide +kernel
theorem dX12_line_266 : decode cX12_line 266 = .ok (.aload_n 0, 1) := by decide +kernel
theorem dX12_line_267 : decode cX12_line 267 = .ok (.ldc2_w 103, 3) := by decide +kernel
theorem dX12_line_270 : decode cX12_line 270 = .ok (.invokevirtual 219, 3) := by decide +kernel
theorem dX12_line_273 : decode cX12_line 273 = .ok (.ifCond .eq 77, 3) := by decide +kernel
theorem dX12_line_276 : decode cX12_line 276 = .ok (.aload_n 0, 1) := by decide +kernel
theorem dX12_line_277 : decode cX12_line 277 = .ok (.invokevirtual 188, 3) := by decide +kernel
theorem dX12_line_280 : decode cX12_line 280 = .ok (.aload_n 0, 1) := by decide +kernel
theorem dX12_line_281 : decode cX12_line 281 = .ok (.bipush 16, 2) := by decide +kernel
theorem dX12_line_283 : decode cX12_line 283 = .ok (.aload_n 0, 1) := by decide +kernel
theorem dX12_line_284 : decode cX12_line 284 = .ok (.getfield 37, 3) := by decide +kernel
theorem dX12_line_287 : decode cX12_line 287 = .ok (.iconst 0, 1) := by decide +kernel
theorem dX12_line_288 : decode cX12_line 288 = .ok (.iaload, 1) := by decide +kernel
theorem dX12_line_289 : decode cX12_line 289 = .ok (.invokevirtual 210, 3) := by decide +kernel
theorem dX12_line_292 : decode cX12_line 292 = .ok (.ifCond .ne 5, 3) := by decide +kernel
theorem dX12_line_295 : decode cX12_line 295 = .ok (.iconst 0, 1) := by decide +kernel
theorem dX12_line_296 : decode cX12_line 296 = .ok (.ireturn, 1) := by decide +kernel
theorem dX12_line_297 : decode cX12_line 297 = .ok (.aload_n 0, 1) := by decide +kernel
theorem dX12_line_298 : decode cX12_line 298 = .ok (.getfield 232, 3) := by decide +kernel
theorem dX12_line_301 : decode cX12_line 301 = .ok (.aload_n 0, 1) := by decide +kernel
