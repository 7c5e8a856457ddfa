theorem dX12_isSaid_178 : decode cX12_isSaid 178 = .ok (.iload 4, 2) := by decide +kernel
theorem dX12_isSaid_180 : decode cX12_isSaid 180 = .ok (.iaload, 1) := by decide +kernel
theorem dX12_isSaid_181 : decode cX12_isSaid 181 = .ok (.aload_n 0, 1) := by decide +kernel
theorem dX12_isSaid_182 : decode cX12_isSaid 182 = .ok (.getfield 33, 3) := by decide +kernel
theorem dX12_isSaid_185 : decode cX12_isSaid 185 = .ok (.iload 4, 2) := by decide +kernel
theorem dX12_isSaid_187 : decode cX12_isSaid 187 = .ok (.iconst 1, 1) := by decide +kernel
theorem dX12_isSaid_188 : decode cX12_isSaid 188 = .ok (.iadd, 1) := by decide +kernel
theorem dX12_isSaid_189 : decode cX12_isSaid 189 = .ok (.iaload, 1) := by decide +kernel
theorem dX12_isSaid_190 : decode cX12_isSaid 190 = .ok (.aload_n 0, 1) := by decide +kernel
theorem dX12_isSaid_191 : decode cX12_isSaid 191 = .ok (.getfield 33, 3) := by decide +kernel
theorem dX12_isSaid_194 : decode cX12_isSaid 194 = .ok (.iload 4, 2) := by decide +kernel
theorem dX12_isSaid_196 : decode cX12_isSaid 196 = .ok (.iconst 2, 1) := by decide +kernel
theorem dX12_isSaid_197 : decode cX12_isSaid 197 = .ok (.iadd, 1) := by decide +kernel
theorem dX12_isSaid_198 : decode cX12_isSaid 198 = .ok (.iaload, 1) := by decide +kernel
theorem dX12_isSaid_199 : decode cX12_isSaid 199 = .ok (.invokevirtual 467, 3) := by decide +kernel
theorem dX12_isSaid_202 : decode cX12_isSaid 202 = .ok (.bastore, 1) := by decide +kernel
theorem dX12_isSaid_203 : decode cX12_isSaid 203 = .ok (.iinc 2 1, 3) := by decide +kernel
theorem dX12_isSaid_206 : decode cX12_isSaid 206 = .ok (.iinc 3 1, 3) := by decide +kernel
theorem dX12_isSaid_209 : decode cX12_isSaid 209 = .ok (.goto (-205), 3) := by decide +kernel
theorem dX12_isSaid_212 : decode cX12_isSaid 212 = .ok (.aload_n 0, 1) := by decide +kernel
theorem dX12_isSaid_213 : decode cX12_isSaid 213 = .ok (.getfield 74, 3) := by decide +kernel
theorem dX12_isSaid_216 : decode cX12_isSaid 216 = .ok (.iconst 0, 1) := by decide +kernel
theorem dX12_isSaid_217 : decode cX12_isSaid 217 = .ok (.baload, 1) := by decide +kernel
theorem dX12_isSaid_218 : decode cX12_isSaid 218 = .ok (.ireturn, 1) := by decide +kernel
set_option maxRecDepth 20000 in
theorem ggX12_said_X12_isSaid : GoodIn wsX12_said wsX12_isSaid := goodIn_r _ [7, 2, 8, 9, 10, 11, 6, 12, 13, 14, 15, 16, 17, 18, 19, 20, 21, 22, 23, 24, 25, 26, 27, 28, 29, 30, 31, 32, 33, 34, 35, 36, 37, 38, 39, 40, 41, 42, 43, 44, 45, 46, 47, 48, 49, 50, 51, 52, 53, 54, 55, 56, 57, 58, 59, 60, 61, 62, 63, 64, 65, 66, 67, 68, 69, 70, 71, 72, 73, 74, 75, 76, 77, 78, 79, 80, 81, 82, 83, 84, 85, 86, 87, 88, 89, 90, 91, 92, 93, 94, 95, 96, 97, 98, 99, 100, 101, 102, 103, 104, 105] rfl (by decide +kernel)
set_option maxRecDepth 20000 in
theorem gX12_said_X12_isSaid : GoodIn wsX12_said (wsV RX12 471 RX12 yX12_isSaid wsX12_isSaid) := goodIn_app (goodIn_of _ (by decide +kernel)) ggX12_said_X12_isSaid
theorem dX12_said_0 : decode cX12_said 0 = .ok (.aload_n 0, 1) := by decide +kernel
theorem dX12_said_1 : decode cX12_said 1 = .ok (.iconst 0, 1) := by decide +kernel
theorem dX12_said_2 : decode cX12_said 2 = .ok (.putfield 1, 3) := by decide +kernel
theorem dX12_said_5 : decode cX12_said 5 = .ok (.aload_n 0, 1) := by decide +kernel
theorem dX12_said_6 : decode cX12_said 6 = .ok (.getfield 33, 3) := by decide +kernel
theorem dX12_said_9 : decode cX12_said 9 = .ok (.sipush 246, 3) := by decide +kernel
theorem dX12_said_12 : decode cX12_said 12 = .ok (.iaload, 1) := by decide +kernel
theorem dX12_said_13 : decode cX12_said 13 = .ok (.ifCond .eq 8, 3) := by decide +kernel
theorem dX12_said_16 : decode cX12_said 16 = .ok (.iload_n 1, 1) := by decide +kernel
theorem dX12_said_17 : decode cX12_said 17 = .ok (.iconst (-1), 1) := by decide +kernel
theorem dX12_said_18 : decode cX12_said 18 = .ok (.if_icmp .ge 5, 3) := by decide +kernel
theorem dX12_said_21 : decode cX12_said 21 = .ok (.iconst (-1), 1) := by decide +kernel
theorem dX12_said_22 : decode cX12_said 22 = .ok (.ireturn, 1) := by decide +kernel
theorem dX12_said_23 : decode cX12_said 23 = .ok (.iconst 0, 1) := by decide +kernel
theorem dX12_said_24 : decode cX12_said 24 = .ok (.istore_n 2, 1) := by decide +kernel
theorem dX12_said_25 : decode cX12_said 25 = .ok (.iconst 0, 1) := by decide +kernel
theorem dX12_said_26 : decode cX12_said 26 = .ok (.istore_n 3, 1) := by decide +kernel
theorem dX12_said_27 : decode cX12_said 27 = .ok (.iload_n 3, 1) := by decide +kernel
theorem dX12_said_28 : decode cX12_said 28 = .ok (.aload_n 0, 1) := by decide +kernel
theorem dX12_said_29 : decode cX12_said 29 = .ok (.getfield 33, 3) := by decide +kernel
theorem dX12_said_32 : decode cX12_said 32 = .ok (.iconst 1, 1) := by decide +kernel
theorem dX12_said_33 : decode cX12_said 33 = .ok (.iaload, 1) := by decide +kernel
theorem dX12_said_34 : decode cX12_said 34 = .ok (.if_icmp .ge 30, 3) := by decide +kernel
theorem dX12_said_37 : decode cX12_said 37 = .ok (.aload_n 0, 1) := by decide +kernel
theorem dX12_said_38 : decode cX12_said 38 = .ok (.iload_n 3, 1) := by decide +kernel
theorem dX12_said_39 : decode cX12_said 39 = .ok (.invokevirtual 471, 3) := by decide +kernel
theorem dX12_said_42 : decode cX12_said 42 = .ok (.ifCond .ne 6, 3) := by decide +kernel
theorem dX12_said_45 : decode cX12_said 45 = .ok (.goto 13, 3) := by decide +kernel
theorem dX12_said_48 : decode cX12_said 48 = .ok (.iload_n 2, 1) := by decide +kernel
theorem dX12_said_49 : decode cX12_said 49 = .ok (.iload_n 1, 1) := by decide +kernel
theorem dX12_said_50 : decode cX12_said 50 = .ok (.if_icmp .ne 5, 3) := by decide +kernel
theorem dX12_said_53 : decode cX12_said 53 = .ok (.iload_n 3, 1) := by decide +kernel
theorem dX12_said_54 : decode cX12_said 54 = .ok (.ireturn, 1) := by decide +kernel
theorem dX12_said_55 : decode cX12_said 55 = .ok (.iinc 2 1, 3) := by decide +kernel
theorem dX12_said_58 : decode cX12_said 58 = .ok (.iinc 3 1, 3) := by decide +kernel
theorem dX12_said_61 : decode cX12_said 61 = .ok (.goto (-34), 3) := by decide +kernel
theorem dX12_said_64 : decode cX12_said 64 = .ok (.iload_n 1, 1) := by decide +kernel
theorem dX12_said_65 : decode cX12_said 65 = .ok (.iconst (-1), 1) := by decide +kernel
theorem dX12_said_66 : decode cX12_said 66 = .ok (.if_icmp .ne 7, 3) := by decide +kernel
theorem dX12_said_69 : decode cX12_said 69 = .ok (.iload_n 2, 1) := by decide +kernel
theorem dX12_said_70 : decode cX12_said 70 = .ok (.goto 4, 3) := by decide +kernel
theorem dX12_said_73 : decode cX12_said 73 = .ok (.iconst (-1), 1) := by decide +kernel
theorem dX12_said_74 : decode cX12_said 74 = .ok (.ireturn, 1) := by decide +kernel
set_option maxRecDepth 20000 in
theorem ggX12_image_X12_isIn : GoodIn wsX12_image wsX12_isIn := goodIn_r _ [10] rfl (by decide +kernel)
set_option maxRecDepth 20000 in
theorem gX12_image_X12_isIn : GoodIn wsX12_image (va_wsS RX12 191 yX12_isIn wsX12_isIn) := goodIn_app (goodIn_of _ (by decide +kernel)) ggX12_image_X12_isIn
theorem dX12_image_0 : decode cX12_image 0 = .ok (.aload_n 0, 1) := by decide +kernel
theorem dX12_image_1 : decode cX12_image 1 = .ok (.iconst 0, 1) := by decide +kernel
theorem dX12_image_2 : decode cX12_image 2 = .ok (.putfield 1, 3) := by decide +kernel
theorem dX12_image_5 : decode cX12_image 5 = .ok (.iload_n 1, 1) := by decide +kernel
theorem dX12_image_6 : decode cX12_image 6 = .ok (.iconst 0, 1) := by decide +kernel
theorem dX12_image_7 : decode cX12_image 7 = .ok (.iconst 1, 1) := by decide +kernel
theorem dX12_image_8 : decode cX12_image 8 = .ok (.invokestatic 191, 3) := by decide +kernel
theorem dX12_image_11 : decode cX12_image 11 = .ok (.ifCond .ne 5, 3) := by decide +kernel
theorem dX12_image_14 : decode cX12_image 14 = .ok (.iconst 0, 1) := by decide +kernel
theorem dX12_image_15 : decode cX12_image 15 = .ok (.ireturn, 1) := by decide +kernel
theorem dX12_image_16 : decode cX12_image 16 = .ok (.iconst 0, 1) := by decide +kernel
theorem dX12_image_17 : decode cX12_image 17 = .ok (.istore_n 2, 1) := by decide +kernel
theorem dX12_image_18 : decode cX12_image 18 = .ok (.iload_n 2, 1) := by decide +kernel
theorem dX12_image_19 : decode cX12_image 19 = .ok (.sipush 427, 3) := by decide +kernel
theorem dX12_image_22 : decode cX12_image 22 = .ok (.if_icmp .ge 27, 3) := by decide +kernel
theorem dX12_image_25 : decode cX12_image 25 = .ok (.aload_n 0, 1) := by decide +kernel
theorem dX12_image_26 : decode cX12_image 26 = .ok (.getfield 78, 3) := by decide +kernel
theorem dX12_image_29 : decode cX12_image 29 = .ok (.sipush 427, 3) := by decide +kernel
theorem dX12_image_32 : decode cX12_image 32 = .ok (.iload_n 1, 1) := by decide +kernel
theorem dX12_image_33 : decode cX12_image 33 = .ok (.imul, 1) := by decide +kernel
theorem dX12_image_34 : decode cX12_image 34 = .ok (.iload_n 2, 1) := by decide +kernel
theorem dX12_image_35 : decode cX12_image 35 = .ok (.iadd, 1) := by decide +kernel
theorem dX12_image_36 : decode cX12_image 36 = .ok (.aload_n 0, 1) := by decide +kernel
theorem dX12_image_37 : decode cX12_image 37 = .ok (.getfield 33, 3) := by decide +kernel
theorem dX12_image_40 : decode cX12_image 40 = .ok (.iload_n 2, 1) := by decide +kernel
theorem dX12_image_41 : decode cX12_image 41 = .ok (.iaload, 1) := by decide +kernel
theorem dX12_image_42 : decode cX12_image 42 = .ok (.iastore, 1) := by decide +kernel
theorem dX12_image_43 : decode cX12_image 43 = .ok (.iinc 2 1, 3) := by decide +kernel
theorem dX12_image_46 : decode cX12_image 46 = .ok (.goto (-28), 3) := by decide +kernel
theorem dX12_image_49 : decode cX12_image 49 = .ok (.iconst 0, 1) := by decide +kernel
theorem dX12_image_50 : decode cX12_image 50 = .ok (.istore_n 2, 1) := by decide +kernel
theorem dX12_image_51 : decode cX12_image 51 = .ok (.iload_n 2, 1) := by decide +kernel
theorem dX12_image_52 : decode cX12_image 52 = .ok (.bipush 16, 2) := by decide +kernel
theorem dX12_image_54 : decode cX12_image 54 = .ok (.if_icmp .ge 26, 3) := by decide +kernel
theorem dX12_image_57 : decode cX12_image 57 = .ok (.aload_n 0, 1) := by decide +kernel
theorem dX12_image_58 : decode cX12_image 58 = .ok (.getfield 81, 3) := by decide +kernel
theorem dX12_image_61 : decode cX12_image 61 = .ok (.bipush 16, 2) := by decide +kernel
theorem dX12_image_63 : decode cX12_image 63 = .ok (.iload_n 1, 1) := by decide +kernel
theorem dX12_image_64 : decode cX12_image 64 = .ok (.imul, 1) := by decide +kernel
theorem dX12_image_65 : decode cX12_image 65 = .ok (.iload_n 2, 1) := by decide +kernel
theorem dX12_image_66 : decode cX12_image 66 = .ok (.iadd, 1) := by decide +kernel
theorem dX12_image_67 : decode cX12_image 67 = .ok (.aload_n 0, 1) := by decide +kernel
theorem dX12_image_68 : decode cX12_image 68 = .ok (.getfield 43, 3) := by decide +kernel
theorem dX12_image_71 : decode cX12_image 71 = .ok (.iload_n 2, 1) := by decide +kernel
theorem dX12_image_72 : decode cX12_image 72 = .ok (.laload, 1) := by decide +kernel
theorem dX12_image_73 : decode cX12_image 73 = .ok (.lastore, 1) := by decide +kernel
theorem dX12_image_74 : decode cX12_image 74 = .ok (.iinc 2 1, 3) := by decide +kernel
theorem dX12_image_77 : decode cX12_image 77 = .ok (.goto (-26), 3) := by decide +kernel
theorem dX12_image_80 : decode cX12_image 80 = .ok (.aload_n 0, 1) := by decide +kernel
theorem dX12_image_81 : decode cX12_image 81 = .ok (.getfield 84, 3) := by decide +kernel
theorem dX12_image_84 : decode cX12_image 84 = .ok (.iload_n 1, 1) := by decide +kernel
theorem dX12_image_85 : decode cX12_image 85 = .ok (.iconst 1, 1) := by decide +kernel
theorem dX12_image_86 : decode cX12_image 86 = .ok (.bastore, 1) := by decide +kernel
theorem dX12_image_87 : decode cX12_image 87 = .ok (.iconst 1, 1) := by decide +kernel
theorem dX12_image_88 : decode cX12_image 88 = .ok (.ireturn, 1) := by decide +kernel
set_option maxRecDepth 20000 in
theorem ggX12_restore_X12_isIn : GoodIn wsX12_restore wsX12_isIn := goodIn_r _ [11] rfl (by decide +kernel)
set_option maxRecDepth 20000 in
theorem gX12_restore_X12_isIn : GoodIn wsX12_restore (va_wsS RX12 191 yX12_isIn wsX12_isIn) := goodIn_app (goodIn_of _ (by decide +kernel)) ggX12_restore_X12_isIn
theorem dX12_restore_0 : decode cX12_restore 0 = .ok (.aload_n 0, 1) := by decide +kernel
theorem dX12_restore_1 : decode cX12_restore 1 = .ok (.iconst 0, 1) := by decide +kernel
theorem dX12_restore_2 : decode cX12_restore 2 = .ok (.putfield 1, 3) := by decide +kernel
theorem dX12_restore_5 : decode cX12_restore 5 = .ok (.iload_n 1, 1) := by decide +kernel
theorem dX12_restore_6 : decode cX12_restore 6 = .ok (.iconst 0, 1) := by decide +kernel
theorem dX12_restore_7 : decode cX12_restore 7 = .ok (.iconst 1, 1) := by decide +kernel
theorem dX12_restore_8 : decode cX12_restore 8 = .ok (.invokestatic 191, 3) := by decide +kernel
theorem dX12_restore_11 : decode cX12_restore 11 = .ok (.ifCond .eq 12, 3) := by decide +kernel
theorem dX12_restore_14 : decode cX12_restore 14 = .ok (.aload_n 0, 1) := by decide +kernel
theorem dX12_restore_15 : decode cX12_restore 15 = .ok (.getfield 84, 3) := by decide +kernel
theorem dX12_restore_18 : decode cX12_restore 18 = .ok (.iload_n 1, 1) := by decide +kernel
theorem dX12_restore_19 : decode cX12_restore 19 = .ok (.baload, 1) := by decide +kernel
theorem dX12_restore_20 : decode cX12_restore 20 = .ok (.ifCond .ne 5, 3) := by decide +kernel
theorem dX12_restore_23 : decode cX12_restore 23 = .ok (.iconst 0, 1) := by decide +kernel
theorem dX12_restore_24 : decode cX12_restore 24 = .ok (.ireturn, 1) := by decide +kernel
theorem dX12_restore_25 : decode cX12_restore 25 = .ok (.iconst 0, 1) := by decide +kernel
theorem dX12_restore_26 : decode cX12_restore 26 = .ok (.istore_n 2, 1) := by decide +kernel
theorem dX12_restore_27 : decode cX12_restore 27 = .ok (.iload_n 2, 1) := by decide +kernel
theorem dX12_restore_28 : decode cX12_restore 28 = .ok (.sipush 427, 3) := by decide +kernel
theorem dX12_restore_31 : decode cX12_restore 31 = .ok (.if_icmp .ge 27, 3) := by decide +kernel
theorem dX12_restore_34 : decode cX12_restore 34 = .ok (.aload_n 0, 1) := by decide +kernel
theorem dX12_restore_35 : decode cX12_restore 35 = .ok (.getfield 33, 3) := by decide +kernel
theorem dX12_restore_38 : decode cX12_restore 38 = .ok (.iload_n 2, 1) := by decide +kernel
theorem dX12_restore_39 : decode cX12_restore 39 = .ok (.aload_n 0, 1) := by decide +kernel
theorem dX12_restore_40 : decode cX12_restore 40 = .ok (.getfield 78, 3) := by decide +kernel
theorem dX12_restore_43 : decode cX12_restore 43 = .ok (.sipush 427, 3) := by decide +kernel
theorem dX12_restore_46 : decode cX12_restore 46 = .ok (.iload_n 1, 1) := by decide +kernel
theorem dX12_restore_47 : decode cX12_restore 47 = .ok (.imul, 1) := by decide +kernel
theorem dX12_restore_48 : decode cX12_restore 48 = .ok (.iload_n 2, 1) := by decide +kernel
theorem dX12_restore_49 : decode cX12_restore 49 = .ok (.iadd, 1) := by decide +kernel
theorem dX12_restore_50 : decode cX12_restore 50 = .ok (.iaload, 1) := by decide +kernel
theorem dX12_restore_51 : decode cX12_restore 51 = .ok (.iastore, 1) := by decide +kernel
theorem dX12_restore_52 : decode cX12_restore 52 = .ok (.iinc 2 1, 3) := by decide +kernel
theorem dX12_restore_55 : decode cX12_restore 55 = .ok (.goto (-28), 3) := by decide +kernel
theorem dX12_restore_58 : decode cX12_restore 58 = .ok (.iconst 0, 1) := by decide +kernel
theorem dX12_restore_59 : decode cX12_restore 59 = .ok (.istore_n 2, 1) := by decide +kernel
theorem dX12_restore_60 : decode cX12_restore 60 = .ok (.iload_n 2, 1) := by decide +kernel
theorem dX12_restore_61 : decode cX12_restore 61 = .ok (.bipush 16, 2) := by decide +kernel
theorem dX12_restore_63 : decode cX12_restore 63 = .ok (.if_icmp .ge 26, 3) := by decide +kernel
theorem dX12_restore_66 : decode cX12_restore 66 = .ok (.aload_n 0, 1) := by decide +kernel
theorem dX12_restore_67 : decode cX12_restore 67 = .ok (.getfield 43, 3) := by decide +kernel
theorem dX12_restore_70 : decode cX12_restore 70 = .ok (.iload_n 2, 1) := by decide +kernel
theorem dX12_restore_71 : decode cX12_restore 71 = .ok (.aload_n 0, 1) := by decide +kernel
theorem dX12_restore_72 : decode cX12_restore 72 = .ok (.getfield 81, 3) := by decide +kernel
theorem dX12_restore_75 : decode cX12_restore 75 = .ok (.bipush 16, 2) := by decide +kernel
theorem dX12_restore_77 : decode cX12_restore 77 = .ok (.iload_n 1, 1) := by decide +kernel
theorem dX12_restore_78 : decode cX12_restore 78 = .ok (.imul, 1) := by decide +kernel
theorem dX12_restore_79 : decode cX12_restore 79 = .ok (.iload_n 2, 1) := by decide +kernel
theorem dX12_restore_80 : decode cX12_restore 80 = .ok (.iadd, 1) := by decide +kernel
theorem dX12_restore_81 : decode cX12_restore 81 = .ok (.laload, 1) := by decide +kernel
theorem dX12_restore_82 : decode cX12_restore 82 = .ok (.lastore, 1) := by decide +kernel
theorem dX12_restore_83 : decode cX12_restore 83 = .ok (.iinc 2 1, 3) := by decide +kernel
theorem dX12_restore_86 : decode cX12_restore 86 = .ok (.goto (-26), 3) := by decide +kernel
theorem dX12_restore_89 : decode cX12_restore 89 = .ok (.aload_n 0, 1) := by decide +kernel
theorem dX12_restore_90 : decode cX12_restore 90 = .ok (.iconst 0, 1) := by decide +kernel
theorem dX12_restore_91 : decode cX12_restore 91 = .ok (.putfield 256, 3) := by decide +kernel
theorem dX12_restore_94 : decode cX12_restore 94 = .ok (.iconst 1, 1) := by decide +kernel
theorem dX12_restore_95 : decode cX12_restore 95 = .ok (.ireturn, 1) := by decide +kernel
set_option maxRecDepth 20000 in
theorem ggX12_count_X12_chances : GoodIn wsX12_count wsX12_chances := goodIn_r _ [8, 2, 12, 13, 14, 15, 16, 17, 18, 19, 20, 21, 22, 23, 24, 25, 26, 27, 28, 29, 30, 31, 32, 33, 34, 35, 36, 37, 38, 39, 40, 41, 42, 43, 44, 45, 46, 47, 48, 49, 50, 51, 52, 53, 54, 55, 56, 57, 58] rfl (by decide +kernel)
set_option maxRecDepth 20000 in
theorem gX12_count_X12_chances : GoodIn wsX12_count (wsV RX12 372 RX12 yX12_chances wsX12_chances) := goodIn_app (goodIn_of _ (by decide +kernel)) ggX12_count_X12_chances
set_option maxRecDepth 20000 in
theorem ggX12_count_X12_isIn : GoodIn wsX12_count wsX12_isIn := goodIn_r _ [11] rfl (by decide +kernel)
set_option maxRecDepth 20000 in
theorem gX12_count_X12_isIn : GoodIn wsX12_count (va_wsS RX12 191 yX12_isIn wsX12_isIn) := goodIn_app (goodIn_of _ (by decide +kernel)) ggX12_count_X12_isIn
theorem dX12_count_0 : decode cX12_count 0 = .ok (.aload_n 0, 1) := by decide +kernel
theorem dX12_count_1 : decode cX12_count 1 = .ok (.iconst 0, 1) := by decide +kernel
theorem dX12_count_2 : decode cX12_count 2 = .ok (.putfield 1, 3) := by decide +kernel
theorem dX12_count_5 : decode cX12_count 5 = .ok (.iload_n 1, 1) := by decide +kernel
theorem dX12_count_6 : decode cX12_count 6 = .ok (.tableswitch 43 3 5 #[26, 31, 38], 26) := by decide +kernel
theorem dX12_count_32 : decode cX12_count 32 = .ok (.aload_n 0, 1) := by decide +kernel
theorem dX12_count_33 : decode cX12_count 33 = .ok (.invokevirtual 372, 3) := by decide +kernel
theorem dX12_count_36 : decode cX12_count 36 = .ok (.ireturn, 1) := by decide +kernel
theorem dX12_count_37 : decode cX12_count 37 = .ok (.aload_n 0, 1) := by decide +kernel
theorem dX12_count_38 : decode cX12_count 38 = .ok (.getfield 33, 3) := by decide +kernel
theorem dX12_count_41 : decode cX12_count 41 = .ok (.iconst 4, 1) := by decide +kernel
theorem dX12_count_42 : decode cX12_count 42 = .ok (.iaload, 1) := by decide +kernel
theorem dX12_count_43 : decode cX12_count 43 = .ok (.ireturn, 1) := by decide +kernel
theorem dX12_count_44 : decode cX12_count 44 = .ok (.aload_n 0, 1) := by decide +kernel
theorem dX12_count_45 : decode cX12_count 45 = .ok (.getfield 7, 3) := by decide +kernel
theorem dX12_count_48 : decode cX12_count 48 = .ok (.ireturn, 1) := by decide +kernel
theorem dX12_count_49 : decode cX12_count 49 = .ok (.iload_n 1, 1) := by decide +kernel
theorem dX12_count_50 : decode cX12_count 50 = .ok (.iconst 0, 1) := by decide +kernel
theorem dX12_count_51 : decode cX12_count 51 = .ok (.iconst 2, 1) := by decide +kernel
theorem dX12_count_52 : decode cX12_count 52 = .ok (.invokestatic 191, 3) := by decide +kernel
theorem dX12_count_55 : decode cX12_count 55 = .ok (.ifCond .eq 12, 3) := by decide +kernel
theorem dX12_count_58 : decode cX12_count 58 = .ok (.aload_n 0, 1) := by decide +kernel
theorem dX12_count_59 : decode cX12_count 59 = .ok (.getfield 33, 3) := by decide +kernel
theorem dX12_count_62 : decode cX12_count 62 = .ok (.iload_n 1, 1) := by decide +kernel
theorem dX12_count_63 : decode cX12_count 63 = .ok (.iaload, 1) := by decide +kernel
theorem dX12_count_64 : decode cX12_count 64 = .ok (.goto 4, 3) := by decide +kernel
theorem dX12_count_67 : decode cX12_count 67 = .ok (.iconst (-1), 1) := by decide +kernel
theorem dX12_count_68 : decode cX12_count 68 = .ok (.ireturn, 1) := by decide +kernel
