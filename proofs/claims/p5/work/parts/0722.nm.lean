set_option maxRecDepth 20000 in
theorem ggX12_livesLine_X12_ends : GoodIn wsX12_livesLine wsX12_ends := goodIn_r _ [69, 1, 54, 73, 74, 75, 76, 77, 78, 79, 80, 81, 82, 83, 84, 85, 86, 87, 88, 89, 90, 91, 92, 93, 94, 95, 96, 97, 98, 99, 100, 101, 102, 103, 104, 105, 106, 107, 108, 109, 110, 111, 112, 113, 114, 115, 116, 117, 118, 119] rfl (by decide +kernel)
set_option maxRecDepth 20000 in
theorem gX12_livesLine_X12_ends : GoodIn wsX12_livesLine (wsV RX12 363 RX12 yX12_ends wsX12_ends) := goodIn_app (goodIn_of _ (by decide +kernel)) ggX12_livesLine_X12_ends
set_option maxRecDepth 20000 in
theorem ggX12_livesLine_X12_lesser : GoodIn wsX12_livesLine wsX12_lesser := goodIn_r _ [72] rfl (by decide +kernel)
set_option maxRecDepth 20000 in
theorem gX12_livesLine_X12_lesser : GoodIn wsX12_livesLine (va_wsS RX12 339 yX12_lesser wsX12_lesser) := goodIn_app (goodIn_of _ (by decide +kernel)) ggX12_livesLine_X12_lesser
theorem dX12_livesLine_0 : decode cX12_livesLine 0 = .ok (.iload_n 1, 1) := by decide +kernel
theorem dX12_livesLine_1 : decode cX12_livesLine 1 = .ok (.tableswitch 92 0 4 #[35, 49, 63, 72, 81], 35) := by decide +kernel
theorem dX12_livesLine_36 : decode cX12_livesLine 36 = .ok (.aload_n 0, 1) := by decide +kernel
theorem dX12_livesLine_37 : decode cX12_livesLine 37 = .ok (.getfield 33, 3) := by decide +kernel
theorem dX12_livesLine_40 : decode cX12_livesLine 40 = .ok (.sipush 212, 3) := by decide +kernel
theorem dX12_livesLine_43 : decode cX12_livesLine 43 = .ok (.iload_n 2, 1) := by decide +kernel
theorem dX12_livesLine_44 : decode cX12_livesLine 44 = .ok (.iconst 1, 1) := by decide +kernel
theorem dX12_livesLine_45 : decode cX12_livesLine 45 = .ok (.iadd, 1) := by decide +kernel
theorem dX12_livesLine_46 : decode cX12_livesLine 46 = .ok (.iastore, 1) := by decide +kernel
theorem dX12_livesLine_47 : decode cX12_livesLine 47 = .ok (.goto 69, 3) := by decide +kernel
theorem dX12_livesLine_50 : decode cX12_livesLine 50 = .ok (.aload_n 0, 1) := by decide +kernel
theorem dX12_livesLine_51 : decode cX12_livesLine 51 = .ok (.getfield 33, 3) := by decide +kernel
theorem dX12_livesLine_54 : decode cX12_livesLine 54 = .ok (.sipush 214, 3) := by decide +kernel
theorem dX12_livesLine_57 : decode cX12_livesLine 57 = .ok (.iload_n 2, 1) := by decide +kernel
theorem dX12_livesLine_58 : decode cX12_livesLine 58 = .ok (.iadd, 1) := by decide +kernel
theorem dX12_livesLine_59 : decode cX12_livesLine 59 = .ok (.iload_n 3, 1) := by decide +kernel
theorem dX12_livesLine_60 : decode cX12_livesLine 60 = .ok (.iastore, 1) := by decide +kernel
theorem dX12_livesLine_61 : decode cX12_livesLine 61 = .ok (.goto 55, 3) := by decide +kernel
theorem dX12_livesLine_64 : decode cX12_livesLine 64 = .ok (.aload_n 0, 1) := by decide +kernel
theorem dX12_livesLine_65 : decode cX12_livesLine 65 = .ok (.iload_n 2, 1) := by decide +kernel
theorem dX12_livesLine_66 : decode cX12_livesLine 66 = .ok (.iload_n 3, 1) := by decide +kernel
theorem dX12_livesLine_67 : decode cX12_livesLine 67 = .ok (.invokevirtual 348, 3) := by decide +kernel
theorem dX12_livesLine_70 : decode cX12_livesLine 70 = .ok (.goto 46, 3) := by decide +kernel
theorem dX12_livesLine_73 : decode cX12_livesLine 73 = .ok (.aload_n 0, 1) := by decide +kernel
theorem dX12_livesLine_74 : decode cX12_livesLine 74 = .ok (.iload_n 2, 1) := by decide +kernel
theorem dX12_livesLine_75 : decode cX12_livesLine 75 = .ok (.iload_n 3, 1) := by decide +kernel
theorem dX12_livesLine_76 : decode cX12_livesLine 76 = .ok (.invokevirtual 354, 3) := by decide +kernel
theorem dX12_livesLine_79 : decode cX12_livesLine 79 = .ok (.goto 37, 3) := by decide +kernel
theorem dX12_livesLine_82 : decode cX12_livesLine 82 = .ok (.aload_n 0, 1) := by decide +kernel
theorem dX12_livesLine_83 : decode cX12_livesLine 83 = .ok (.invokevirtual 360, 3) := by decide +kernel
theorem dX12_livesLine_86 : decode cX12_livesLine 86 = .ok (.aload_n 0, 1) := by decide +kernel
theorem dX12_livesLine_87 : decode cX12_livesLine 87 = .ok (.invokevirtual 363, 3) := by decide +kernel
theorem dX12_livesLine_90 : decode cX12_livesLine 90 = .ok (.goto 26, 3) := by decide +kernel
theorem dX12_livesLine_93 : decode cX12_livesLine 93 = .ok (.aload_n 0, 1) := by decide +kernel
theorem dX12_livesLine_94 : decode cX12_livesLine 94 = .ok (.getfield 33, 3) := by decide +kernel
theorem dX12_livesLine_97 : decode cX12_livesLine 97 = .ok (.sipush 213, 3) := by decide +kernel
theorem dX12_livesLine_100 : decode cX12_livesLine 100 = .ok (.bipush 99, 2) := by decide +kernel
theorem dX12_livesLine_102 : decode cX12_livesLine 102 = .ok (.aload_n 0, 1) := by decide +kernel
theorem dX12_livesLine_103 : decode cX12_livesLine 103 = .ok (.getfield 33, 3) := by decide +kernel
theorem dX12_livesLine_106 : decode cX12_livesLine 106 = .ok (.sipush 213, 3) := by decide +kernel
theorem dX12_livesLine_109 : decode cX12_livesLine 109 = .ok (.iaload, 1) := by decide +kernel
theorem dX12_livesLine_110 : decode cX12_livesLine 110 = .ok (.iload_n 2, 1) := by decide +kernel
theorem dX12_livesLine_111 : decode cX12_livesLine 111 = .ok (.iadd, 1) := by decide +kernel
theorem dX12_livesLine_112 : decode cX12_livesLine 112 = .ok (.invokestatic 339, 3) := by decide +kernel
theorem dX12_livesLine_115 : decode cX12_livesLine 115 = .ok (.iastore, 1) := by decide +kernel
theorem dX12_livesLine_116 : decode cX12_livesLine 116 = .ok (.return_, 1) := by decide +kernel
set_option maxRecDepth 20000 in
theorem ggX12_roll_X12_isIn : GoodIn wsX12_roll wsX12_isIn := goodIn_r _ [16] rfl (by decide +kernel)
set_option maxRecDepth 20000 in
theorem gX12_roll_X12_isIn : GoodIn wsX12_roll (va_wsS RX12 191 yX12_isIn wsX12_isIn) := goodIn_app (goodIn_of _ (by decide +kernel)) ggX12_roll_X12_isIn
set_option maxRecDepth 20000 in
theorem ggX12_roll_X12_taken : GoodIn wsX12_roll wsX12_taken := goodIn_r _ [20, 21, 22, 23, 24, 215, 216, 217, 218, 219, 220, 221, 222, 223, 224, 225, 226, 227, 228, 229, 230, 231, 232, 233, 234, 235, 236, 237, 238, 239, 240, 241, 242, 243, 244, 245, 246, 247, 248, 249, 250, 251, 252, 253, 254, 255, 256, 257, 258, 259, 260, 261] rfl (by decide +kernel)
set_option maxRecDepth 20000 in
theorem gX12_roll_X12_taken : GoodIn wsX12_roll (wsV RX12 244 RX12 yX12_taken wsX12_taken) := goodIn_app (goodIn_of _ (by decide +kernel)) ggX12_roll_X12_taken
set_option maxRecDepth 20000 in
theorem ggX12_roll_X12_next : GoodIn wsX12_roll wsX12_next := goodIn_r _ [28, 23, 29, 30, 22, 24, 4, 31, 32, 33, 34, 35, 15, 36, 37, 38, 39, 40, 41, 42, 43, 215, 216, 217, 218, 219, 220, 221, 222, 223, 224, 225, 226, 227, 228, 229, 230, 231, 232, 233, 234, 235, 236, 237, 238, 239, 240, 241, 242, 243, 244, 245, 246, 247, 248, 249, 250, 251, 252, 253, 254, 255, 256, 257, 258, 259, 260, 261] rfl (by decide +kernel)
set_option maxRecDepth 20000 in
theorem gX12_roll_X12_next : GoodIn wsX12_roll (wsV RX12 188 RX12 yX12_next wsX12_next) := goodIn_app (goodIn_of _ (by decide +kernel)) ggX12_roll_X12_next
set_option maxRecDepth 20000 in
theorem ggX12_roll_X12_rollLine : GoodIn wsX12_roll wsX12_rollLine := goodIn_r _ [47, 3, 48, 49, 50, 7, 51, 8, 52, 53, 54, 55, 56, 57, 15, 58, 4, 32, 59, 60, 61, 62, 2, 29, 5, 25, 26, 27, 28, 23, 30, 22, 24, 31, 33, 34, 35, 36, 37, 38, 39, 40, 41, 42, 43, 63, 64, 65, 66, 13, 14, 16, 67, 68, 69, 70, 71, 72, 73, 74, 75, 76, 77, 78, 79, 80, 81, 82, 83, 84, 215, 216, 217, 218, 219, 220, 221, 222, 223, 224, 225, 226, 227, 228, 229, 230, 231, 232, 233, 234, 235, 236, 237, 238, 239, 240, 241, 242, 243, 244, 245, 246, 247, 248, 249, 250, 251, 252, 253, 254, 255, 256, 257, 258, 259, 260, 261] rfl (by decide +kernel)
set_option maxRecDepth 20000 in
theorem gX12_roll_X12_rollLine : GoodIn wsX12_roll (wsV RX12 419 RX12 yX12_rollLine wsX12_rollLine) := goodIn_app (goodIn_of _ (by decide +kernel)) ggX12_roll_X12_rollLine
set_option maxRecDepth 20000 in
theorem ggX12_roll_X12_sign : GoodIn wsX12_roll wsX12_sign := goodIn_r _ [88, 89, 90, 91, 15, 92, 4, 31, 59, 60, 61, 62, 2, 29, 5, 25, 26, 27, 28, 23, 30, 22, 24, 32, 33, 34, 35, 36, 37, 38, 39, 40, 41, 42, 43, 215, 216, 217, 218, 219, 220, 221, 222, 223, 224, 225, 226, 227, 228, 229, 230, 231, 232, 233, 234, 235, 236, 237, 238, 239, 240, 241, 242, 243, 244, 245, 246, 247, 248, 249, 250, 251, 252, 253, 254, 255, 256, 257, 258, 259, 260, 261] rfl (by decide +kernel)
set_option maxRecDepth 20000 in
theorem gX12_roll_X12_sign : GoodIn wsX12_roll (wsV RX12 253 RX12 yX12_sign wsX12_sign) := goodIn_app (goodIn_of _ (by decide +kernel)) ggX12_roll_X12_sign
set_option maxRecDepth 20000 in
theorem ggX12_roll_X12_tries : GoodIn wsX12_roll wsX12_tries := goodIn_r _ [96, 12, 8, 215, 216, 217, 218, 219, 220, 221, 222, 223, 224, 225, 226, 227, 228, 229, 230, 231, 232, 233, 234, 235, 236, 237, 238, 239, 240, 241, 242, 243, 244, 245, 246, 247, 248, 249, 250, 251, 252, 253, 254, 255, 256, 257, 258, 259, 260, 261] rfl (by decide +kernel)
set_option maxRecDepth 20000 in
theorem gX12_roll_X12_tries : GoodIn wsX12_roll (wsV RX12 410 RX12 yX12_tries wsX12_tries) := goodIn_app (goodIn_of _ (by decide +kernel)) ggX12_roll_X12_tries
set_option maxRecDepth 20000 in
theorem ggX12_roll_X12_sum : GoodIn wsX12_roll wsX12_sum := goodIn_r _ [100, 8, 215, 216, 217, 218, 219, 220, 221, 222, 223, 224, 225, 226, 227, 228, 229, 230, 231, 232, 233, 234, 235, 236, 237, 238, 239, 240, 241, 242, 243, 244, 245, 246, 247, 248, 249, 250, 251, 252, 253, 254, 255, 256, 257, 258, 259, 260, 261] rfl (by decide +kernel)
set_option maxRecDepth 20000 in
theorem gX12_roll_X12_sum : GoodIn wsX12_roll (wsV RX12 330 RX12 yX12_sum wsX12_sum) := goodIn_app (goodIn_of _ (by decide +kernel)) ggX12_roll_X12_sum
set_option maxRecDepth 20000 in
theorem ggX12_roll_X12_whyLine : GoodIn wsX12_roll wsX12_whyLine := goodIn_r _ [104, 8, 105, 106, 107, 15, 108, 13, 14, 16, 109, 110, 111, 112, 113, 114, 115, 116, 117, 118, 119, 120, 121, 122, 123, 124, 125, 126, 127, 128, 129, 130, 131, 132, 133, 134, 135, 136, 137, 138, 139, 140, 141, 142, 143, 144, 145, 146, 147, 148, 149, 150, 215, 216, 217, 218, 219, 220, 221, 222, 223, 224, 225, 226, 227, 228, 229, 230, 231, 232, 233, 234, 235, 236, 237, 238, 239, 240, 241, 242, 243, 244, 245, 246, 247, 248, 249, 250, 251, 252, 253, 254, 255, 256, 257, 258, 259, 260, 261] rfl (by decide +kernel)
set_option maxRecDepth 20000 in
theorem gX12_roll_X12_whyLine : GoodIn wsX12_roll (wsV RX12 422 RX12 yX12_whyLine wsX12_whyLine) := goodIn_app (goodIn_of _ (by decide +kernel)) ggX12_roll_X12_whyLine
set_option maxRecDepth 20000 in
theorem ggX12_roll_X12_livesLine : GoodIn wsX12_roll wsX12_livesLine := goodIn_r _ [154, 8, 155, 156, 157, 15, 158, 159, 160, 161, 162, 163, 164, 165, 166, 129, 130, 131, 132, 133, 134, 135, 136, 137, 138, 139, 167, 168, 169, 170, 171, 172, 173, 174, 175, 176, 177, 178, 140, 141, 142, 143, 144, 145, 146, 179, 180, 181, 182, 183, 184, 185, 186, 187, 188, 189, 190, 191, 192, 193, 194, 195, 196, 197, 198, 199, 200, 201, 202, 203, 204, 205, 206, 215, 216, 217, 218, 219, 220, 221, 222, 223, 224, 225, 226, 227, 228, 229, 230, 231, 232, 233, 234, 235, 236, 237, 238, 239, 240, 241, 242, 243, 244, 245, 246, 247, 248, 249, 250, 251, 252, 253, 254, 255, 256, 257, 258, 259, 260, 261] rfl (by decide +kernel)
set_option maxRecDepth 20000 in
theorem gX12_roll_X12_livesLine : GoodIn wsX12_roll (wsV RX12 425 RX12 yX12_livesLine wsX12_livesLine) := goodIn_app (goodIn_of _ (by decide +kernel)) ggX12_roll_X12_livesLine
set_option maxRecDepth 20000 in
theorem ggX12_roll_X12_keep : GoodIn wsX12_roll wsX12_keep := goodIn_r _ [210, 11, 10, 8, 215, 216, 217, 218, 219, 220, 221, 222, 223, 224, 225, 226, 227, 228, 229, 230, 231, 232, 233, 234, 235, 236, 237, 238, 239, 240, 241, 242, 243, 244, 245, 246, 247, 248, 249, 250, 251, 252, 253, 254, 255, 256, 257, 258, 259, 260, 261] rfl (by decide +kernel)
set_option maxRecDepth 20000 in
theorem gX12_roll_X12_keep : GoodIn wsX12_roll (wsV RX12 336 RX12 yX12_keep wsX12_keep) := goodIn_app (goodIn_of _ (by decide +kernel)) ggX12_roll_X12_keep
set_option maxRecDepth 20000 in
theorem ggX12_roll_X12_back : GoodIn wsX12_roll wsX12_back := goodIn_r _ [214, 8, 12, 215, 216, 217, 218, 219, 220, 221, 222, 223, 224, 225, 226, 227, 228, 229, 230, 231, 232, 233, 234, 235, 236, 237, 238, 239, 240, 241, 242, 243, 244, 245, 246, 247, 248, 249, 250, 251, 252, 253, 254, 255, 256, 257, 258, 259, 260, 261] rfl (by decide +kernel)
set_option maxRecDepth 20000 in
theorem gX12_roll_X12_back : GoodIn wsX12_roll (wsV RX12 413 RX12 yX12_back wsX12_back) := goodIn_app (goodIn_of _ (by decide +kernel)) ggX12_roll_X12_back
theorem dX12_roll_0 : decode cX12_roll 0 = .ok (.aload_n 0, 1) := by decide +kernel
theorem dX12_roll_1 : decode cX12_roll 1 = .ok (.iconst 0, 1) := by decide +kernel
theorem dX12_roll_2 : decode cX12_roll 2 = .ok (.putfield 1, 3) := by decide +kernel
theorem dX12_roll_5 : decode cX12_roll 5 = .ok (.iload_n 1, 1) := by decide +kernel
theorem dX12_roll_6 : decode cX12_roll 6 = .ok (.iconst 0, 1) := by decide +kernel
theorem dX12_roll_7 : decode cX12_roll 7 = .ok (.iconst 1, 1) := by decide +kernel
theorem dX12_roll_8 : decode cX12_roll 8 = .ok (.invokestatic 191, 3) := by decide +kernel
theorem dX12_roll_11 : decode cX12_roll 11 = .ok (.ifCond .ne 7, 3) := by decide +kernel
theorem dX12_roll_14 : decode cX12_roll 14 = .ok (.sipush (-1000), 3) := by decide +kernel
theorem dX12_roll_17 : decode cX12_roll 17 = .ok (.ireturn, 1) := by decide +kernel
theorem dX12_roll_18 : decode cX12_roll 18 = .ok (.aload_n 0, 1) := by decide +kernel
theorem dX12_roll_19 : decode cX12_roll 19 = .ok (.sipush 400, 3) := by decide +kernel
theorem dX12_roll_22 : decode cX12_roll 22 = .ok (.invokevirtual 244, 3) := by decide +kernel
theorem dX12_roll_25 : decode cX12_roll 25 = .ok (.aload_n 0, 1) := by decide +kernel
theorem dX12_roll_26 : decode cX12_roll 26 = .ok (.iconst 0, 1) := by decide +kernel
theorem dX12_roll_27 : decode cX12_roll 27 = .ok (.putfield 176, 3) := by decide +kernel
theorem dX12_roll_30 : decode cX12_roll 30 = .ok (.aload_n 0, 1) := by decide +kernel
theorem dX12_roll_31 : decode cX12_roll 31 = .ok (.iconst 0, 1) := by decide +kernel
theorem dX12_roll_32 : decode cX12_roll 32 = .ok (.putfield 416, 3) := by decide +kernel
theorem dX12_roll_35 : decode cX12_roll 35 = .ok (.aload_n 0, 1) := by decide +kernel
theorem dX12_roll_36 : decode cX12_roll 36 = .ok (.invokevirtual 188, 3) := by decide +kernel
theorem dX12_roll_39 : decode cX12_roll 39 = .ok (.aload_n 0, 1) := by decide +kernel
theorem dX12_roll_40 : decode cX12_roll 40 = .ok (.getfield 159, 3) := by decide +kernel
theorem dX12_roll_43 : decode cX12_roll 43 = .ok (.ifCond .eq 40, 3) := by decide +kernel
theorem dX12_roll_46 : decode cX12_roll 46 = .ok (.aload_n 0, 1) := by decide +kernel
theorem dX12_roll_47 : decode cX12_roll 47 = .ok (.invokevirtual 419, 3) := by decide +kernel
theorem dX12_roll_50 : decode cX12_roll 50 = .ok (.ifCond .eq 12, 3) := by decide +kernel
theorem dX12_roll_53 : decode cX12_roll 53 = .ok (.aload_n 0, 1) := by decide +kernel
theorem dX12_roll_54 : decode cX12_roll 54 = .ok (.bipush 59, 2) := by decide +kernel
theorem dX12_roll_56 : decode cX12_roll 56 = .ok (.invokevirtual 253, 3) := by decide +kernel
theorem dX12_roll_59 : decode cX12_roll 59 = .ok (.ifCond .ne 11, 3) := by decide +kernel
theorem dX12_roll_62 : decode cX12_roll 62 = .ok (.bipush (-2), 2) := by decide +kernel
theorem dX12_roll_64 : decode cX12_roll 64 = .ok (.aload_n 0, 1) := by decide +kernel
theorem dX12_roll_65 : decode cX12_roll 65 = .ok (.getfield 179, 3) := by decide +kernel
theorem dX12_roll_68 : decode cX12_roll 68 = .ok (.isub, 1) := by decide +kernel
theorem dX12_roll_69 : decode cX12_roll 69 = .ok (.ireturn, 1) := by decide +kernel
theorem dX12_roll_70 : decode cX12_roll 70 = .ok (.aload_n 0, 1) := by decide +kernel
theorem dX12_roll_71 : decode cX12_roll 71 = .ok (.dup, 1) := by decide +kernel
theorem dX12_roll_72 : decode cX12_roll 72 = .ok (.getfield 416, 3) := by decide +kernel
theorem dX12_roll_75 : decode cX12_roll 75 = .ok (.iconst 1, 1) := by decide +kernel
theorem dX12_roll_76 : decode cX12_roll 76 = .ok (.iadd, 1) := by decide +kernel
theorem dX12_roll_77 : decode cX12_roll 77 = .ok (.putfield 416, 3) := by decide +kernel
theorem dX12_roll_80 : decode cX12_roll 80 = .ok (.goto (-41), 3) := by decide +kernel
theorem dX12_roll_83 : decode cX12_roll 83 = .ok (.aload_n 0, 1) := by decide +kernel
theorem dX12_roll_84 : decode cX12_roll 84 = .ok (.invokevirtual 410, 3) := by decide +kernel
theorem dX12_roll_87 : decode cX12_roll 87 = .ok (.iconst 0, 1) := by decide +kernel
theorem dX12_roll_88 : decode cX12_roll 88 = .ok (.istore_n 2, 1) := by decide +kernel
theorem dX12_roll_89 : decode cX12_roll 89 = .ok (.iload_n 2, 1) := by decide +kernel
theorem dX12_roll_90 : decode cX12_roll 90 = .ok (.iconst 4, 1) := by decide +kernel
theorem dX12_roll_91 : decode cX12_roll 91 = .ok (.if_icmp .ge 16, 3) := by decide +kernel
theorem dX12_roll_94 : decode cX12_roll 94 = .ok (.aload_n 0, 1) := by decide +kernel
theorem dX12_roll_95 : decode cX12_roll 95 = .ok (.getfield 68, 3) := by decide +kernel
theorem dX12_roll_98 : decode cX12_roll 98 = .ok (.iload_n 2, 1) := by decide +kernel
theorem dX12_roll_99 : decode cX12_roll 99 = .ok (.iconst 0, 1) := by decide +kernel
theorem dX12_roll_100 : decode cX12_roll 100 = .ok (.iastore, 1) := by decide +kernel
theorem dX12_roll_101 : decode cX12_roll 101 = .ok (.iinc 2 1, 3) := by decide +kernel
theorem dX12_roll_104 : decode cX12_roll 104 = .ok (.goto (-15), 3) := by decide +kernel
theorem dX12_roll_107 : decode cX12_roll 107 = .ok (.aload_n 0, 1) := by decide +kernel
theorem dX12_roll_108 : decode cX12_roll 108 = .ok (.sipush 238, 3) := by decide +kernel
theorem dX12_roll_111 : decode cX12_roll 111 = .ok (.invokevirtual 330, 3) := by decide +kernel
theorem dX12_roll_114 : decode cX12_roll 114 = .ok (.istore_n 2, 1) := by decide +kernel
theorem dX12_roll_115 : decode cX12_roll 115 = .ok (.iconst (-1), 1) := by decide +kernel
theorem dX12_roll_116 : decode cX12_roll 116 = .ok (.istore_n 3, 1) := by decide +kernel
theorem dX12_roll_117 : decode cX12_roll 117 = .ok (.iconst 0, 1) := by decide +kernel
theorem dX12_roll_118 : decode cX12_roll 118 = .ok (.istore 4, 2) := by decide +kernel
theorem dX12_roll_120 : decode cX12_roll 120 = .ok (.iload 4, 2) := by decide +kernel
theorem dX12_roll_122 : decode cX12_roll 122 = .ok (.aload_n 0, 1) := by decide +kernel
theorem dX12_roll_123 : decode cX12_roll 123 = .ok (.getfield 416, 3) := by decide +kernel
theorem dX12_roll_126 : decode cX12_roll 126 = .ok (.if_icmp .ge 119, 3) := by decide +kernel
theorem dX12_roll_129 : decode cX12_roll 129 = .ok (.iload_n 3, 1) := by decide +kernel
theorem dX12_roll_130 : decode cX12_roll 130 = .ok (.ifCond .ge 115, 3) := by decide +kernel
theorem dX12_roll_133 : decode cX12_roll 133 = .ok (.iconst 3, 1) := by decide +kernel
theorem dX12_roll_134 : decode cX12_roll 134 = .ok (.iload 4, 2) := by decide +kernel
theorem dX12_roll_136 : decode cX12_roll 136 = .ok (.imul, 1) := by decide +kernel
theorem dX12_roll_137 : decode cX12_roll 137 = .ok (.istore 5, 2) := by decide +kernel
theorem dX12_roll_139 : decode cX12_roll 139 = .ok (.aload_n 0, 1) := by decide +kernel
theorem dX12_roll_140 : decode cX12_roll 140 = .ok (.aload_n 0, 1) := by decide +kernel
theorem dX12_roll_141 : decode cX12_roll 141 = .ok (.getfield 40, 3) := by decide +kernel
theorem dX12_roll_144 : decode cX12_roll 144 = .ok (.iload 5, 2) := by decide +kernel
theorem dX12_roll_146 : decode cX12_roll 146 = .ok (.iaload, 1) := by decide +kernel
theorem dX12_roll_147 : decode cX12_roll 147 = .ok (.aload_n 0, 1) := by decide +kernel
theorem dX12_roll_148 : decode cX12_roll 148 = .ok (.getfield 40, 3) := by decide +kernel
theorem dX12_roll_151 : decode cX12_roll 151 = .ok (.iload 5, 2) := by decide +kernel
theorem dX12_roll_153 : decode cX12_roll 153 = .ok (.iconst 1, 1) := by decide +kernel
theorem dX12_roll_154 : decode cX12_roll 154 = .ok (.iadd, 1) := by decide +kernel
theorem dX12_roll_155 : decode cX12_roll 155 = .ok (.iaload, 1) := by decide +kernel
theorem dX12_roll_156 : decode cX12_roll 156 = .ok (.aload_n 0, 1) := by decide +kernel
theorem dX12_roll_157 : decode cX12_roll 157 = .ok (.getfield 40, 3) := by decide +kernel
theorem dX12_roll_160 : decode cX12_roll 160 = .ok (.iload 5, 2) := by decide +kernel
theorem dX12_roll_162 : decode cX12_roll 162 = .ok (.iconst 2, 1) := by decide +kernel
theorem dX12_roll_163 : decode cX12_roll 163 = .ok (.iadd, 1) := by decide +kernel
theorem dX12_roll_164 : decode cX12_roll 164 = .ok (.iaload, 1) := by decide +kernel
theorem dX12_roll_165 : decode cX12_roll 165 = .ok (.invokevirtual 422, 3) := by decide +kernel
theorem dX12_roll_168 : decode cX12_roll 168 = .ok (.istore 6, 2) := by decide +kernel
theorem dX12_roll_170 : decode cX12_roll 170 = .ok (.iload 6, 2) := by decide +kernel
theorem dX12_roll_172 : decode cX12_roll 172 = .ok (.ifCond .le 28, 3) := by decide +kernel
theorem dX12_roll_175 : decode cX12_roll 175 = .ok (.aload_n 0, 1) := by decide +kernel
theorem dX12_roll_176 : decode cX12_roll 176 = .ok (.getfield 68, 3) := by decide +kernel
theorem dX12_roll_179 : decode cX12_roll 179 = .ok (.iconst 0, 1) := by decide +kernel
theorem dX12_roll_180 : decode cX12_roll 180 = .ok (.bipush 10, 2) := by decide +kernel
theorem dX12_roll_182 : decode cX12_roll 182 = .ok (.aload_n 0, 1) := by decide +kernel
theorem dX12_roll_183 : decode cX12_roll 183 = .ok (.getfield 40, 3) := by decide +kernel
theorem dX12_roll_186 : decode cX12_roll 186 = .ok (.iload 5, 2) := by decide +kernel
theorem dX12_roll_188 : decode cX12_roll 188 = .ok (.iaload, 1) := by decide +kernel
theorem dX12_roll_189 : decode cX12_roll 189 = .ok (.imul, 1) := by decide +kernel
theorem dX12_roll_190 : decode cX12_roll 190 = .ok (.iload 6, 2) := by decide +kernel
theorem dX12_roll_192 : decode cX12_roll 192 = .ok (.iadd, 1) := by decide +kernel
theorem dX12_roll_193 : decode cX12_roll 193 = .ok (.iastore, 1) := by decide +kernel
theorem dX12_roll_194 : decode cX12_roll 194 = .ok (.iload 4, 2) := by decide +kernel
theorem dX12_roll_196 : decode cX12_roll 196 = .ok (.istore_n 3, 1) := by decide +kernel
theorem dX12_roll_197 : decode cX12_roll 197 = .ok (.goto 42, 3) := by decide +kernel
theorem dX12_roll_200 : decode cX12_roll 200 = .ok (.aload_n 0, 1) := by decide +kernel
theorem dX12_roll_201 : decode cX12_roll 201 = .ok (.aload_n 0, 1) := by decide +kernel
theorem dX12_roll_202 : decode cX12_roll 202 = .ok (.getfield 40, 3) := by decide +kernel
theorem dX12_roll_205 : decode cX12_roll 205 = .ok (.iload 5, 2) := by decide +kernel
theorem dX12_roll_207 : decode cX12_roll 207 = .ok (.iaload, 1) := by decide +kernel
theorem dX12_roll_208 : decode cX12_roll 208 = .ok (.aload_n 0, 1) := by decide +kernel
theorem dX12_roll_209 : decode cX12_roll 209 = .ok (.getfield 40, 3) := by decide +kernel
theorem dX12_roll_212 : decode cX12_roll 212 = .ok (.iload 5, 2) := by decide +kernel
theorem dX12_roll_214 : decode cX12_roll 214 = .ok (.iconst 1, 1) := by decide +kernel
theorem dX12_roll_215 : decode cX12_roll 215 = .ok (.iadd, 1) := by decide +kernel
theorem dX12_roll_216 : decode cX12_roll 216 = .ok (.iaload, 1) := by decide +kernel
theorem dX12_roll_217 : decode cX12_roll 217 = .ok (.aload_n 0, 1) := by decide +kernel
theorem dX12_roll_218 : decode cX12_roll 218 = .ok (.getfield 40, 3) := by decide +kernel
theorem dX12_roll_221 : decode cX12_roll 221 = .ok (.iload 5, 2) := by decide +kernel
theorem dX12_roll_223 : decode cX12_roll 223 = .ok (.iconst 2, 1) := by decide +kernel
theorem dX12_roll_224 : decode cX12_roll 224 = .ok (.iadd, 1) := by decide +kernel
theorem dX12_roll_225 : decode cX12_roll 225 = .ok (.iaload, 1) := by decide +kernel
theorem dX12_roll_226 : decode cX12_roll 226 = .ok (.invokevirtual 425, 3) := by decide +kernel
theorem dX12_roll_229 : decode cX12_roll 229 = .ok (.aload_n 0, 1) := by decide +kernel
theorem dX12_roll_230 : decode cX12_roll 230 = .ok (.getfield 68, 3) := by decide +kernel
theorem dX12_roll_233 : decode cX12_roll 233 = .ok (.iconst 1, 1) := by decide +kernel
theorem dX12_roll_234 : decode cX12_roll 234 = .ok (.dup2, 1) := by decide +kernel
theorem dX12_roll_235 : decode cX12_roll 235 = .ok (.iaload, 1) := by decide +kernel
theorem dX12_roll_236 : decode cX12_roll 236 = .ok (.iconst 1, 1) := by decide +kernel
theorem dX12_roll_237 : decode cX12_roll 237 = .ok (.iadd, 1) := by decide +kernel
theorem dX12_roll_238 : decode cX12_roll 238 = .ok (.iastore, 1) := by decide +kernel
theorem dX12_roll_239 : decode cX12_roll 239 = .ok (.iinc 4 1, 3) := by decide +kernel
theorem dX12_roll_242 : decode cX12_roll 242 = .ok (.goto (-122), 3) := by decide +kernel
theorem dX12_roll_245 : decode cX12_roll 245 = .ok (.aload_n 0, 1) := by decide +kernel
theorem dX12_roll_246 : decode cX12_roll 246 = .ok (.getfield 68, 3) := by decide +kernel
theorem dX12_roll_249 : decode cX12_roll 249 = .ok (.iconst 2, 1) := by decide +kernel
theorem dX12_roll_250 : decode cX12_roll 250 = .ok (.aload_n 0, 1) := by decide +kernel
theorem dX12_roll_251 : decode cX12_roll 251 = .ok (.getfield 33, 3) := by decide +kernel
theorem dX12_roll_254 : decode cX12_roll 254 = .ok (.sipush 211, 3) := by decide +kernel
theorem dX12_roll_257 : decode cX12_roll 257 = .ok (.iaload, 1) := by decide +kernel
