theorem dX12_isWindward_14 : decode cX12_isWindward 14 = .ok (.iaload, 1) := by decide +kernel
theorem dX12_isWindward_15 : decode cX12_isWindward 15 = .ok (.istore 4, 2) := by decide +kernel
theorem dX12_isWindward_17 : decode cX12_isWindward 17 = .ok (.aload_n 0, 1) := by decide +kernel
theorem dX12_isWindward_18 : decode cX12_isWindward 18 = .ok (.getfield 33, 3) := by decide +kernel
theorem dX12_isWindward_21 : decode cX12_isWindward 21 = .ok (.sipush 171, 3) := by decide +kernel
theorem dX12_isWindward_24 : decode cX12_isWindward 24 = .ok (.bipush 10, 2) := by decide +kernel
theorem dX12_isWindward_26 : decode cX12_isWindward 26 = .ok (.iload_n 2, 1) := by decide +kernel
theorem dX12_isWindward_27 : decode cX12_isWindward 27 = .ok (.imul, 1) := by decide +kernel
theorem dX12_isWindward_28 : decode cX12_isWindward 28 = .ok (.iadd, 1) := by decide +kernel
theorem dX12_isWindward_29 : decode cX12_isWindward 29 = .ok (.iload_n 3, 1) := by decide +kernel
theorem dX12_isWindward_30 : decode cX12_isWindward 30 = .ok (.iadd, 1) := by decide +kernel
theorem dX12_isWindward_31 : decode cX12_isWindward 31 = .ok (.iaload, 1) := by decide +kernel
theorem dX12_isWindward_32 : decode cX12_isWindward 32 = .ok (.istore 5, 2) := by decide +kernel
theorem dX12_isWindward_34 : decode cX12_isWindward 34 = .ok (.aload_n 0, 1) := by decide +kernel
theorem dX12_isWindward_35 : decode cX12_isWindward 35 = .ok (.getfield 33, 3) := by decide +kernel
theorem dX12_isWindward_38 : decode cX12_isWindward 38 = .ok (.iconst 5, 1) := by decide +kernel
theorem dX12_isWindward_39 : decode cX12_isWindward 39 = .ok (.iaload, 1) := by decide +kernel
theorem dX12_isWindward_40 : decode cX12_isWindward 40 = .ok (.ifCond .ne 22, 3) := by decide +kernel
theorem dX12_isWindward_43 : decode cX12_isWindward 43 = .ok (.aload_n 0, 1) := by decide +kernel
theorem dX12_isWindward_44 : decode cX12_isWindward 44 = .ok (.getfield 53, 3) := by decide +kernel
theorem dX12_isWindward_47 : decode cX12_isWindward 47 = .ok (.iload_n 1, 1) := by decide +kernel
theorem dX12_isWindward_48 : decode cX12_isWindward 48 = .ok (.iaload, 1) := by decide +kernel
theorem dX12_isWindward_49 : decode cX12_isWindward 49 = .ok (.iload 5, 2) := by decide +kernel
theorem dX12_isWindward_51 : decode cX12_isWindward 51 = .ok (.if_icmp .ge 7, 3) := by decide +kernel
theorem dX12_isWindward_54 : decode cX12_isWindward 54 = .ok (.iconst 1, 1) := by decide +kernel
theorem dX12_isWindward_55 : decode cX12_isWindward 55 = .ok (.goto 81, 3) := by decide +kernel
theorem dX12_isWindward_58 : decode cX12_isWindward 58 = .ok (.iconst 0, 1) := by decide +kernel
theorem dX12_isWindward_59 : decode cX12_isWindward 59 = .ok (.goto 77, 3) := by decide +kernel
theorem dX12_isWindward_62 : decode cX12_isWindward 62 = .ok (.aload_n 0, 1) := by decide +kernel
theorem dX12_isWindward_63 : decode cX12_isWindward 63 = .ok (.getfield 33, 3) := by decide +kernel
theorem dX12_isWindward_66 : decode cX12_isWindward 66 = .ok (.iconst 5, 1) := by decide +kernel
theorem dX12_isWindward_67 : decode cX12_isWindward 67 = .ok (.iaload, 1) := by decide +kernel
theorem dX12_isWindward_68 : decode cX12_isWindward 68 = .ok (.iconst 1, 1) := by decide +kernel
theorem dX12_isWindward_69 : decode cX12_isWindward 69 = .ok (.if_icmp .ne 22, 3) := by decide +kernel
theorem dX12_isWindward_72 : decode cX12_isWindward 72 = .ok (.aload_n 0, 1) := by decide +kernel
theorem dX12_isWindward_73 : decode cX12_isWindward 73 = .ok (.getfield 50, 3) := by decide +kernel
theorem dX12_isWindward_76 : decode cX12_isWindward 76 = .ok (.iload_n 1, 1) := by decide +kernel
theorem dX12_isWindward_77 : decode cX12_isWindward 77 = .ok (.iaload, 1) := by decide +kernel
theorem dX12_isWindward_78 : decode cX12_isWindward 78 = .ok (.iload 4, 2) := by decide +kernel
theorem dX12_isWindward_80 : decode cX12_isWindward 80 = .ok (.if_icmp .le 7, 3) := by decide +kernel
theorem dX12_isWindward_83 : decode cX12_isWindward 83 = .ok (.iconst 1, 1) := by decide +kernel
theorem dX12_isWindward_84 : decode cX12_isWindward 84 = .ok (.goto 52, 3) := by decide +kernel
theorem dX12_isWindward_87 : decode cX12_isWindward 87 = .ok (.iconst 0, 1) := by decide +kernel
theorem dX12_isWindward_88 : decode cX12_isWindward 88 = .ok (.goto 48, 3) := by decide +kernel
theorem dX12_isWindward_91 : decode cX12_isWindward 91 = .ok (.aload_n 0, 1) := by decide +kernel
theorem dX12_isWindward_92 : decode cX12_isWindward 92 = .ok (.getfield 33, 3) := by decide +kernel
theorem dX12_isWindward_95 : decode cX12_isWindward 95 = .ok (.iconst 5, 1) := by decide +kernel
theorem dX12_isWindward_96 : decode cX12_isWindward 96 = .ok (.iaload, 1) := by decide +kernel
theorem dX12_isWindward_97 : decode cX12_isWindward 97 = .ok (.iconst 2, 1) := by decide +kernel
theorem dX12_isWindward_98 : decode cX12_isWindward 98 = .ok (.if_icmp .ne 22, 3) := by decide +kernel
theorem dX12_isWindward_101 : decode cX12_isWindward 101 = .ok (.aload_n 0, 1) := by decide +kernel
theorem dX12_isWindward_102 : decode cX12_isWindward 102 = .ok (.getfield 53, 3) := by decide +kernel
theorem dX12_isWindward_105 : decode cX12_isWindward 105 = .ok (.iload_n 1, 1) := by decide +kernel
theorem dX12_isWindward_106 : decode cX12_isWindward 106 = .ok (.iaload, 1) := by decide +kernel
theorem dX12_isWindward_107 : decode cX12_isWindward 107 = .ok (.iload 5, 2) := by decide +kernel
theorem dX12_isWindward_109 : decode cX12_isWindward 109 = .ok (.if_icmp .le 7, 3) := by decide +kernel
theorem dX12_isWindward_112 : decode cX12_isWindward 112 = .ok (.iconst 1, 1) := by decide +kernel
theorem dX12_isWindward_113 : decode cX12_isWindward 113 = .ok (.goto 23, 3) := by decide +kernel
theorem dX12_isWindward_116 : decode cX12_isWindward 116 = .ok (.iconst 0, 1) := by decide +kernel
theorem dX12_isWindward_117 : decode cX12_isWindward 117 = .ok (.goto 19, 3) := by decide +kernel
theorem dX12_isWindward_120 : decode cX12_isWindward 120 = .ok (.aload_n 0, 1) := by decide +kernel
theorem dX12_isWindward_121 : decode cX12_isWindward 121 = .ok (.getfield 50, 3) := by decide +kernel
theorem dX12_isWindward_124 : decode cX12_isWindward 124 = .ok (.iload_n 1, 1) := by decide +kernel
theorem dX12_isWindward_125 : decode cX12_isWindward 125 = .ok (.iaload, 1) := by decide +kernel
theorem dX12_isWindward_126 : decode cX12_isWindward 126 = .ok (.iload 4, 2) := by decide +kernel
theorem dX12_isWindward_128 : decode cX12_isWindward 128 = .ok (.if_icmp .ge 7, 3) := by decide +kernel
theorem dX12_isWindward_131 : decode cX12_isWindward 131 = .ok (.iconst 1, 1) := by decide +kernel
theorem dX12_isWindward_132 : decode cX12_isWindward 132 = .ok (.goto 4, 3) := by decide +kernel
theorem dX12_isWindward_135 : decode cX12_isWindward 135 = .ok (.iconst 0, 1) := by decide +kernel
theorem dX12_isWindward_136 : decode cX12_isWindward 136 = .ok (.ireturn, 1) := by decide +kernel
set_option maxRecDepth 20000 in
theorem ggX12_canHear_X12_isWindward : GoodIn wsX12_canHear wsX12_isWindward := goodIn_r _ [8, 1, 9, 3, 21, 22, 23, 24, 25, 26, 27, 28, 29, 30, 31, 32, 33, 34, 35, 36, 37, 38, 39, 40, 41, 42, 43, 44, 45, 46, 47, 48, 49, 50, 51, 52, 53, 54, 55, 56, 57, 58, 59, 60, 61, 62, 63, 64, 65, 66, 67] (by decide +kernel) (by decide +kernel)
set_option maxRecDepth 20000 in
theorem gX12_canHear_X12_isWindward : GoodIn wsX12_canHear (wsV RX12 286 RX12 yX12_isWindward wsX12_isWindward) := goodIn_app (goodIn_of _ (by decide +kernel)) ggX12_canHear_X12_isWindward
set_option maxRecDepth 20000 in
theorem ggX12_canHear_X12_valleyOf : GoodIn wsX12_canHear wsX12_valleyOf := goodIn_r _ [13, 1, 21, 22, 23, 24, 25, 26, 27, 28, 29, 30, 31, 32, 33, 34, 35, 36, 37, 38, 39, 40, 41, 42, 43, 44, 45, 46, 47, 48, 49, 50, 51, 52, 53, 54, 55, 56, 57, 58, 59, 60, 61, 62, 63, 64, 65, 66, 67] (by decide +kernel) (by decide +kernel)
set_option maxRecDepth 20000 in
theorem gX12_canHear_X12_valleyOf : GoodIn wsX12_canHear (wsV RX12 265 RX12 yX12_valleyOf wsX12_valleyOf) := goodIn_app (goodIn_of _ (by decide +kernel)) ggX12_canHear_X12_valleyOf
set_option maxRecDepth 20000 in
theorem ggX12_canHear_X12_farOf : GoodIn wsX12_canHear wsX12_farOf := goodIn_r _ [17, 3, 1, 9, 18, 19, 7, 20, 21, 22, 23, 24, 25, 26, 27, 28, 29, 30, 31, 32, 33, 34, 35, 36, 37, 38, 39, 40, 41, 42, 43, 44, 45, 46, 47, 48, 49, 50, 51, 52, 53, 54, 55, 56, 57, 58, 59, 60, 61, 62, 63, 64, 65, 66, 67] (by decide +kernel) (by decide +kernel)
set_option maxRecDepth 20000 in
theorem gX12_canHear_X12_farOf : GoodIn wsX12_canHear (wsV RX12 289 RX12 yX12_farOf wsX12_farOf) := goodIn_app (goodIn_of _ (by decide +kernel)) ggX12_canHear_X12_farOf
theorem dX12_canHear_0 : decode cX12_canHear 0 = .ok (.aload_n 0, 1) := by decide +kernel
theorem dX12_canHear_1 : decode cX12_canHear 1 = .ok (.getfield 33, 3) := by decide +kernel
theorem dX12_canHear_4 : decode cX12_canHear 4 = .ok (.bipush 63, 2) := by decide +kernel
theorem dX12_canHear_6 : decode cX12_canHear 6 = .ok (.iload_n 1, 1) := by decide +kernel
theorem dX12_canHear_7 : decode cX12_canHear 7 = .ok (.iadd, 1) := by decide +kernel
theorem dX12_canHear_8 : decode cX12_canHear 8 = .ok (.iaload, 1) := by decide +kernel
theorem dX12_canHear_9 : decode cX12_canHear 9 = .ok (.ifCond .le 17, 3) := by decide +kernel
theorem dX12_canHear_12 : decode cX12_canHear 12 = .ok (.aload_n 0, 1) := by decide +kernel
theorem dX12_canHear_13 : decode cX12_canHear 13 = .ok (.getfield 33, 3) := by decide +kernel
theorem dX12_canHear_16 : decode cX12_canHear 16 = .ok (.bipush 63, 2) := by decide +kernel
theorem dX12_canHear_18 : decode cX12_canHear 18 = .ok (.iload_n 1, 1) := by decide +kernel
theorem dX12_canHear_19 : decode cX12_canHear 19 = .ok (.iadd, 1) := by decide +kernel
theorem dX12_canHear_20 : decode cX12_canHear 20 = .ok (.iaload, 1) := by decide +kernel
theorem dX12_canHear_21 : decode cX12_canHear 21 = .ok (.iconst 1, 1) := by decide +kernel
theorem dX12_canHear_22 : decode cX12_canHear 22 = .ok (.isub, 1) := by decide +kernel
theorem dX12_canHear_23 : decode cX12_canHear 23 = .ok (.goto 4, 3) := by decide +kernel
theorem dX12_canHear_26 : decode cX12_canHear 26 = .ok (.iload_n 1, 1) := by decide +kernel
theorem dX12_canHear_27 : decode cX12_canHear 27 = .ok (.istore 4, 2) := by decide +kernel
theorem dX12_canHear_29 : decode cX12_canHear 29 = .ok (.iload 4, 2) := by decide +kernel
theorem dX12_canHear_31 : decode cX12_canHear 31 = .ok (.iload_n 1, 1) := by decide +kernel
theorem dX12_canHear_32 : decode cX12_canHear 32 = .ok (.if_icmp .eq 18, 3) := by decide +kernel
theorem dX12_canHear_35 : decode cX12_canHear 35 = .ok (.aload_n 0, 1) := by decide +kernel
theorem dX12_canHear_36 : decode cX12_canHear 36 = .ok (.getfield 33, 3) := by decide +kernel
theorem dX12_canHear_39 : decode cX12_canHear 39 = .ok (.bipush 63, 2) := by decide +kernel
theorem dX12_canHear_41 : decode cX12_canHear 41 = .ok (.iload 4, 2) := by decide +kernel
theorem dX12_canHear_43 : decode cX12_canHear 43 = .ok (.iadd, 1) := by decide +kernel
theorem dX12_canHear_44 : decode cX12_canHear 44 = .ok (.iaload, 1) := by decide +kernel
theorem dX12_canHear_45 : decode cX12_canHear 45 = .ok (.ifCond .le 5, 3) := by decide +kernel
theorem dX12_canHear_48 : decode cX12_canHear 48 = .ok (.iconst 0, 1) := by decide +kernel
theorem dX12_canHear_49 : decode cX12_canHear 49 = .ok (.ireturn, 1) := by decide +kernel
theorem dX12_canHear_50 : decode cX12_canHear 50 = .ok (.aload_n 0, 1) := by decide +kernel
theorem dX12_canHear_51 : decode cX12_canHear 51 = .ok (.getfield 33, 3) := by decide +kernel
theorem dX12_canHear_54 : decode cX12_canHear 54 = .ok (.bipush 39, 2) := by decide +kernel
theorem dX12_canHear_56 : decode cX12_canHear 56 = .ok (.iload 4, 2) := by decide +kernel
theorem dX12_canHear_58 : decode cX12_canHear 58 = .ok (.iadd, 1) := by decide +kernel
theorem dX12_canHear_59 : decode cX12_canHear 59 = .ok (.iaload, 1) := by decide +kernel
theorem dX12_canHear_60 : decode cX12_canHear 60 = .ok (.aload_n 0, 1) := by decide +kernel
theorem dX12_canHear_61 : decode cX12_canHear 61 = .ok (.getfield 33, 3) := by decide +kernel
theorem dX12_canHear_64 : decode cX12_canHear 64 = .ok (.bipush 83, 2) := by decide +kernel
theorem dX12_canHear_66 : decode cX12_canHear 66 = .ok (.iload_n 2, 1) := by decide +kernel
theorem dX12_canHear_67 : decode cX12_canHear 67 = .ok (.iadd, 1) := by decide +kernel
theorem dX12_canHear_68 : decode cX12_canHear 68 = .ok (.iaload, 1) := by decide +kernel
theorem dX12_canHear_69 : decode cX12_canHear 69 = .ok (.iadd, 1) := by decide +kernel
theorem dX12_canHear_70 : decode cX12_canHear 70 = .ok (.aload_n 0, 1) := by decide +kernel
theorem dX12_canHear_71 : decode cX12_canHear 71 = .ok (.getfield 56, 3) := by decide +kernel
theorem dX12_canHear_74 : decode cX12_canHear 74 = .ok (.iload 4, 2) := by decide +kernel
theorem dX12_canHear_76 : decode cX12_canHear 76 = .ok (.iaload, 1) := by decide +kernel
theorem dX12_canHear_77 : decode cX12_canHear 77 = .ok (.isub, 1) := by decide +kernel
theorem dX12_canHear_78 : decode cX12_canHear 78 = .ok (.aload_n 0, 1) := by decide +kernel
theorem dX12_canHear_79 : decode cX12_canHear 79 = .ok (.iload 4, 2) := by decide +kernel
theorem dX12_canHear_81 : decode cX12_canHear 81 = .ok (.iload_n 2, 1) := by decide +kernel
theorem dX12_canHear_82 : decode cX12_canHear 82 = .ok (.iload_n 3, 1) := by decide +kernel
theorem dX12_canHear_83 : decode cX12_canHear 83 = .ok (.invokevirtual 286, 3) := by decide +kernel
theorem dX12_canHear_86 : decode cX12_canHear 86 = .ok (.ifCond .eq 13, 3) := by decide +kernel
theorem dX12_canHear_89 : decode cX12_canHear 89 = .ok (.aload_n 0, 1) := by decide +kernel
theorem dX12_canHear_90 : decode cX12_canHear 90 = .ok (.getfield 33, 3) := by decide +kernel
theorem dX12_canHear_93 : decode cX12_canHear 93 = .ok (.bipush 6, 2) := by decide +kernel
theorem dX12_canHear_95 : decode cX12_canHear 95 = .ok (.iaload, 1) := by decide +kernel
theorem dX12_canHear_96 : decode cX12_canHear 96 = .ok (.goto 4, 3) := by decide +kernel
theorem dX12_canHear_99 : decode cX12_canHear 99 = .ok (.iconst 0, 1) := by decide +kernel
theorem dX12_canHear_100 : decode cX12_canHear 100 = .ok (.iadd, 1) := by decide +kernel
theorem dX12_canHear_101 : decode cX12_canHear 101 = .ok (.istore 5, 2) := by decide +kernel
theorem dX12_canHear_103 : decode cX12_canHear 103 = .ok (.aload_n 0, 1) := by decide +kernel
theorem dX12_canHear_104 : decode cX12_canHear 104 = .ok (.aload_n 0, 1) := by decide +kernel
theorem dX12_canHear_105 : decode cX12_canHear 105 = .ok (.getfield 50, 3) := by decide +kernel
theorem dX12_canHear_108 : decode cX12_canHear 108 = .ok (.iload 4, 2) := by decide +kernel
theorem dX12_canHear_110 : decode cX12_canHear 110 = .ok (.iaload, 1) := by decide +kernel
theorem dX12_canHear_111 : decode cX12_canHear 111 = .ok (.invokevirtual 265, 3) := by decide +kernel
theorem dX12_canHear_114 : decode cX12_canHear 114 = .ok (.aload_n 0, 1) := by decide +kernel
theorem dX12_canHear_115 : decode cX12_canHear 115 = .ok (.aload_n 0, 1) := by decide +kernel
theorem dX12_canHear_116 : decode cX12_canHear 116 = .ok (.getfield 33, 3) := by decide +kernel
theorem dX12_canHear_119 : decode cX12_canHear 119 = .ok (.sipush 131, 3) := by decide +kernel
theorem dX12_canHear_122 : decode cX12_canHear 122 = .ok (.bipush 10, 2) := by decide +kernel
theorem dX12_canHear_124 : decode cX12_canHear 124 = .ok (.iload_n 2, 1) := by decide +kernel
theorem dX12_canHear_125 : decode cX12_canHear 125 = .ok (.imul, 1) := by decide +kernel
theorem dX12_canHear_126 : decode cX12_canHear 126 = .ok (.iadd, 1) := by decide +kernel
theorem dX12_canHear_127 : decode cX12_canHear 127 = .ok (.iload_n 3, 1) := by decide +kernel
theorem dX12_canHear_128 : decode cX12_canHear 128 = .ok (.iadd, 1) := by decide +kernel
theorem dX12_canHear_129 : decode cX12_canHear 129 = .ok (.iaload, 1) := by decide +kernel
theorem dX12_canHear_130 : decode cX12_canHear 130 = .ok (.invokevirtual 265, 3) := by decide +kernel
theorem dX12_canHear_133 : decode cX12_canHear 133 = .ok (.if_icmp .eq 6, 3) := by decide +kernel
theorem dX12_canHear_136 : decode cX12_canHear 136 = .ok (.iinc 5 (-3), 3) := by decide +kernel
theorem dX12_canHear_139 : decode cX12_canHear 139 = .ok (.aload_n 0, 1) := by decide +kernel
theorem dX12_canHear_140 : decode cX12_canHear 140 = .ok (.iload 4, 2) := by decide +kernel
theorem dX12_canHear_142 : decode cX12_canHear 142 = .ok (.iload_n 2, 1) := by decide +kernel
theorem dX12_canHear_143 : decode cX12_canHear 143 = .ok (.iload_n 3, 1) := by decide +kernel
theorem dX12_canHear_144 : decode cX12_canHear 144 = .ok (.invokevirtual 289, 3) := by decide +kernel
theorem dX12_canHear_147 : decode cX12_canHear 147 = .ok (.iload 5, 2) := by decide +kernel
theorem dX12_canHear_149 : decode cX12_canHear 149 = .ok (.if_icmp .gt 7, 3) := by decide +kernel
theorem dX12_canHear_152 : decode cX12_canHear 152 = .ok (.iconst 1, 1) := by decide +kernel
theorem dX12_canHear_153 : decode cX12_canHear 153 = .ok (.goto 4, 3) := by decide +kernel
theorem dX12_canHear_156 : decode cX12_canHear 156 = .ok (.iconst 0, 1) := by decide +kernel
theorem dX12_canHear_157 : decode cX12_canHear 157 = .ok (.ireturn, 1) := by decide +kernel
set_option maxRecDepth 20000 in
theorem ggX12_whoHears_X12_canHear : GoodIn wsX12_whoHears wsX12_canHear := goodIn_r _ [6, 1, 7, 8, 9, 10, 11, 5, 12, 13, 14, 15, 16, 17, 18, 19, 20, 21, 22, 23, 24, 25, 26, 27, 28, 29, 30, 31, 32, 33, 34, 35, 36, 37, 38, 39, 40, 41, 42, 43, 44, 45, 46, 47, 48, 49, 50, 51, 52, 53, 54, 55, 56, 57, 58, 59, 60, 61, 62, 63, 64, 65, 66, 67, 68, 69, 70, 71] (by decide +kernel) (by decide +kernel)
set_option maxRecDepth 20000 in
theorem gX12_whoHears_X12_canHear : GoodIn wsX12_whoHears (wsV RX12 293 RX12 yX12_canHear wsX12_canHear) := goodIn_app (goodIn_of _ (by decide +kernel)) ggX12_whoHears_X12_canHear
theorem dX12_whoHears_0 : decode cX12_whoHears 0 = .ok (.iconst 0, 1) := by decide +kernel
theorem dX12_whoHears_1 : decode cX12_whoHears 1 = .ok (.istore_n 3, 1) := by decide +kernel
theorem dX12_whoHears_2 : decode cX12_whoHears 2 = .ok (.iconst 0, 1) := by decide +kernel
theorem dX12_whoHears_3 : decode cX12_whoHears 3 = .ok (.istore 4, 2) := by decide +kernel
theorem dX12_whoHears_5 : decode cX12_whoHears 5 = .ok (.iload 4, 2) := by decide +kernel
theorem dX12_whoHears_7 : decode cX12_whoHears 7 = .ok (.aload_n 0, 1) := by decide +kernel
theorem dX12_whoHears_8 : decode cX12_whoHears 8 = .ok (.getfield 33, 3) := by decide +kernel
theorem dX12_whoHears_11 : decode cX12_whoHears 11 = .ok (.iconst 1, 1) := by decide +kernel
theorem dX12_whoHears_12 : decode cX12_whoHears 12 = .ok (.iaload, 1) := by decide +kernel
theorem dX12_whoHears_13 : decode cX12_whoHears 13 = .ok (.if_icmp .ge 31, 3) := by decide +kernel
theorem dX12_whoHears_16 : decode cX12_whoHears 16 = .ok (.iload_n 3, 1) := by decide +kernel
theorem dX12_whoHears_17 : decode cX12_whoHears 17 = .ok (.aload_n 0, 1) := by decide +kernel
theorem dX12_whoHears_18 : decode cX12_whoHears 18 = .ok (.iload 4, 2) := by decide +kernel
theorem dX12_whoHears_20 : decode cX12_whoHears 20 = .ok (.iload_n 1, 1) := by decide +kernel
theorem dX12_whoHears_21 : decode cX12_whoHears 21 = .ok (.iload_n 2, 1) := by decide +kernel
theorem dX12_whoHears_22 : decode cX12_whoHears 22 = .ok (.invokevirtual 293, 3) := by decide +kernel
theorem dX12_whoHears_25 : decode cX12_whoHears 25 = .ok (.ifCond .eq 10, 3) := by decide +kernel
theorem dX12_whoHears_28 : decode cX12_whoHears 28 = .ok (.iconst 1, 1) := by decide +kernel
theorem dX12_whoHears_29 : decode cX12_whoHears 29 = .ok (.iload 4, 2) := by decide +kernel
theorem dX12_whoHears_31 : decode cX12_whoHears 31 = .ok (.ishl, 1) := by decide +kernel
theorem dX12_whoHears_32 : decode cX12_whoHears 32 = .ok (.goto 4, 3) := by decide +kernel
theorem dX12_whoHears_35 : decode cX12_whoHears 35 = .ok (.iconst 0, 1) := by decide +kernel
theorem dX12_whoHears_36 : decode cX12_whoHears 36 = .ok (.ior, 1) := by decide +kernel
theorem dX12_whoHears_37 : decode cX12_whoHears 37 = .ok (.istore_n 3, 1) := by decide +kernel
theorem dX12_whoHears_38 : decode cX12_whoHears 38 = .ok (.iinc 4 1, 3) := by decide +kernel
theorem dX12_whoHears_41 : decode cX12_whoHears 41 = .ok (.goto (-36), 3) := by decide +kernel
theorem dX12_whoHears_44 : decode cX12_whoHears 44 = .ok (.iload_n 3, 1) := by decide +kernel
theorem dX12_whoHears_45 : decode cX12_whoHears 45 = .ok (.ireturn, 1) := by decide +kernel
set_option maxRecDepth 20000 in
theorem ggX12_menIn_X12_valleyOf : GoodIn wsX12_menIn wsX12_valleyOf := goodIn_r _ [7, 1, 8, 9, 10, 11, 12, 13, 14, 15, 16, 17, 18, 19, 20, 21, 22, 23, 24, 25, 26, 27, 28, 29, 30, 31, 32, 33, 34, 35, 36, 37, 38, 39, 40, 41, 42, 43, 44, 45, 46, 47, 48, 49, 50, 51, 52, 53, 54] (by decide +kernel) (by decide +kernel)
set_option maxRecDepth 20000 in
theorem gX12_menIn_X12_valleyOf : GoodIn wsX12_menIn (wsV RX12 265 RX12 yX12_valleyOf wsX12_valleyOf) := goodIn_app (goodIn_of _ (by decide +kernel)) ggX12_menIn_X12_valleyOf
theorem dX12_menIn_0 : decode cX12_menIn 0 = .ok (.iconst 0, 1) := by decide +kernel
theorem dX12_menIn_1 : decode cX12_menIn 1 = .ok (.istore_n 2, 1) := by decide +kernel
theorem dX12_menIn_2 : decode cX12_menIn 2 = .ok (.iconst 0, 1) := by decide +kernel
theorem dX12_menIn_3 : decode cX12_menIn 3 = .ok (.istore_n 3, 1) := by decide +kernel
theorem dX12_menIn_4 : decode cX12_menIn 4 = .ok (.iload_n 3, 1) := by decide +kernel
theorem dX12_menIn_5 : decode cX12_menIn 5 = .ok (.aload_n 0, 1) := by decide +kernel
theorem dX12_menIn_6 : decode cX12_menIn 6 = .ok (.getfield 33, 3) := by decide +kernel
theorem dX12_menIn_9 : decode cX12_menIn 9 = .ok (.iconst 1, 1) := by decide +kernel
theorem dX12_menIn_10 : decode cX12_menIn 10 = .ok (.iaload, 1) := by decide +kernel
theorem dX12_menIn_11 : decode cX12_menIn 11 = .ok (.if_icmp .ge 33, 3) := by decide +kernel
theorem dX12_menIn_14 : decode cX12_menIn 14 = .ok (.iload_n 2, 1) := by decide +kernel
theorem dX12_menIn_15 : decode cX12_menIn 15 = .ok (.aload_n 0, 1) := by decide +kernel
theorem dX12_menIn_16 : decode cX12_menIn 16 = .ok (.aload_n 0, 1) := by decide +kernel
theorem dX12_menIn_17 : decode cX12_menIn 17 = .ok (.getfield 50, 3) := by decide +kernel
theorem dX12_menIn_20 : decode cX12_menIn 20 = .ok (.iload_n 3, 1) := by decide +kernel
theorem dX12_menIn_21 : decode cX12_menIn 21 = .ok (.iaload, 1) := by decide +kernel
theorem dX12_menIn_22 : decode cX12_menIn 22 = .ok (.invokevirtual 265, 3) := by decide +kernel
theorem dX12_menIn_25 : decode cX12_menIn 25 = .ok (.iload_n 1, 1) := by decide +kernel
theorem dX12_menIn_26 : decode cX12_menIn 26 = .ok (.if_icmp .ne 9, 3) := by decide +kernel
theorem dX12_menIn_29 : decode cX12_menIn 29 = .ok (.iconst 1, 1) := by decide +kernel
theorem dX12_menIn_30 : decode cX12_menIn 30 = .ok (.iload_n 3, 1) := by decide +kernel
theorem dX12_menIn_31 : decode cX12_menIn 31 = .ok (.ishl, 1) := by decide +kernel
theorem dX12_menIn_32 : decode cX12_menIn 32 = .ok (.goto 4, 3) := by decide +kernel
theorem dX12_menIn_35 : decode cX12_menIn 35 = .ok (.iconst 0, 1) := by decide +kernel
theorem dX12_menIn_36 : decode cX12_menIn 36 = .ok (.ior, 1) := by decide +kernel
theorem dX12_menIn_37 : decode cX12_menIn 37 = .ok (.istore_n 2, 1) := by decide +kernel
theorem dX12_menIn_38 : decode cX12_menIn 38 = .ok (.iinc 3 1, 3) := by decide +kernel
theorem dX12_menIn_41 : decode cX12_menIn 41 = .ok (.goto (-37), 3) := by decide +kernel
theorem dX12_menIn_44 : decode cX12_menIn 44 = .ok (.iload_n 2, 1) := by decide +kernel
theorem dX12_menIn_45 : decode cX12_menIn 45 = .ok (.ireturn, 1) := by decide +kernel
set_option maxRecDepth 20000 in
theorem ggX12_firstIn_X12_whoHears : GoodIn wsX12_firstIn wsX12_whoHears := goodIn_r _ [6, 1, 7, 8, 9, 5, 10, 11, 12, 13, 14, 15, 16, 17, 18, 19, 20, 21, 22, 23, 24, 25, 26, 27, 28, 33, 34, 35, 36, 37, 38, 39, 40, 41, 42, 43, 44, 45, 46, 47, 48, 49, 50, 51, 52, 53, 54, 55, 56, 57, 58, 59, 60, 61, 62, 63, 64, 65, 66, 67, 68, 69, 70, 71, 72, 73, 74, 75, 76, 77, 78, 79] (by decide +kernel) (by decide +kernel)
set_option maxRecDepth 20000 in
theorem gX12_firstIn_X12_whoHears : GoodIn wsX12_firstIn (wsV RX12 296 RX12 yX12_whoHears wsX12_whoHears) := goodIn_app (goodIn_of _ (by decide +kernel)) ggX12_firstIn_X12_whoHears
set_option maxRecDepth 20000 in
theorem ggX12_firstIn_X12_menIn : GoodIn wsX12_firstIn wsX12_menIn := goodIn_r _ [32, 1, 12, 18, 19, 20, 5, 21, 33, 34, 35, 36, 37, 38, 39, 40, 41, 42, 43, 44, 45, 46, 47, 48, 49, 50, 51, 52, 53, 54, 55, 56, 57, 58, 59, 60, 61, 62, 63, 64, 65, 66, 67, 68, 69, 70, 71, 72, 73, 74, 75, 76, 77, 78, 79] (by decide +kernel) (by decide +kernel)
set_option maxRecDepth 20000 in
theorem gX12_firstIn_X12_menIn : GoodIn wsX12_firstIn (wsV RX12 299 RX12 yX12_menIn wsX12_menIn) := goodIn_app (goodIn_of _ (by decide +kernel)) ggX12_firstIn_X12_menIn
theorem dX12_firstIn_0 : decode cX12_firstIn 0 = .ok (.iconst 0, 1) := by decide +kernel
theorem dX12_firstIn_1 : decode cX12_firstIn 1 = .ok (.istore_n 3, 1) := by decide +kernel
theorem dX12_firstIn_2 : decode cX12_firstIn 2 = .ok (.iload_n 3, 1) := by decide +kernel
theorem dX12_firstIn_3 : decode cX12_firstIn 3 = .ok (.aload_n 0, 1) := by decide +kernel
theorem dX12_firstIn_4 : decode cX12_firstIn 4 = .ok (.getfield 33, 3) := by decide +kernel
theorem dX12_firstIn_7 : decode cX12_firstIn 7 = .ok (.bipush 87, 2) := by decide +kernel
theorem dX12_firstIn_9 : decode cX12_firstIn 9 = .ok (.iload_n 1, 1) := by decide +kernel
theorem dX12_firstIn_10 : decode cX12_firstIn 10 = .ok (.iadd, 1) := by decide +kernel
theorem dX12_firstIn_11 : decode cX12_firstIn 11 = .ok (.iaload, 1) := by decide +kernel
theorem dX12_firstIn_12 : decode cX12_firstIn 12 = .ok (.if_icmp .ge 26, 3) := by decide +kernel
theorem dX12_firstIn_15 : decode cX12_firstIn 15 = .ok (.aload_n 0, 1) := by decide +kernel
theorem dX12_firstIn_16 : decode cX12_firstIn 16 = .ok (.iload_n 1, 1) := by decide +kernel
theorem dX12_firstIn_17 : decode cX12_firstIn 17 = .ok (.iload_n 3, 1) := by decide +kernel
theorem dX12_firstIn_18 : decode cX12_firstIn 18 = .ok (.invokevirtual 296, 3) := by decide +kernel
theorem dX12_firstIn_21 : decode cX12_firstIn 21 = .ok (.aload_n 0, 1) := by decide +kernel
theorem dX12_firstIn_22 : decode cX12_firstIn 22 = .ok (.iload_n 2, 1) := by decide +kernel
theorem dX12_firstIn_23 : decode cX12_firstIn 23 = .ok (.invokevirtual 299, 3) := by decide +kernel
theorem dX12_firstIn_26 : decode cX12_firstIn 26 = .ok (.iand, 1) := by decide +kernel
theorem dX12_firstIn_27 : decode cX12_firstIn 27 = .ok (.ifCond .eq 5, 3) := by decide +kernel
theorem dX12_firstIn_30 : decode cX12_firstIn 30 = .ok (.iload_n 3, 1) := by decide +kernel
theorem dX12_firstIn_31 : decode cX12_firstIn 31 = .ok (.ireturn, 1) := by decide +kernel
theorem dX12_firstIn_32 : decode cX12_firstIn 32 = .ok (.iinc 3 1, 3) := by decide +kernel
theorem dX12_firstIn_35 : decode cX12_firstIn 35 = .ok (.goto (-33), 3) := by decide +kernel
theorem dX12_firstIn_38 : decode cX12_firstIn 38 = .ok (.iconst (-1), 1) := by decide +kernel
theorem dX12_firstIn_39 : decode cX12_firstIn 39 = .ok (.ireturn, 1) := by decide +kernel
theorem dX12_weightOf_0 : decode cX12_weightOf 0 = .ok (.aload_n 0, 1) := by decide +kernel
theorem dX12_weightOf_1 : decode cX12_weightOf 1 = .ok (.getfield 33, 3) := by decide +kernel
theorem dX12_weightOf_4 : decode cX12_weightOf 4 = .ok (.bipush 55, 2) := by decide +kernel
theorem dX12_weightOf_6 : decode cX12_weightOf 6 = .ok (.iload_n 1, 1) := by decide +kernel
theorem dX12_weightOf_7 : decode cX12_weightOf 7 = .ok (.iadd, 1) := by decide +kernel
theorem dX12_weightOf_8 : decode cX12_weightOf 8 = .ok (.iaload, 1) := by decide +kernel
theorem dX12_weightOf_9 : decode cX12_weightOf 9 = .ok (.iconst 1, 1) := by decide +kernel
theorem dX12_weightOf_10 : decode cX12_weightOf 10 = .ok (.if_icmp .ne 7, 3) := by decide +kernel
theorem dX12_weightOf_13 : decode cX12_weightOf 13 = .ok (.iconst 1, 1) := by decide +kernel
theorem dX12_weightOf_14 : decode cX12_weightOf 14 = .ok (.goto 4, 3) := by decide +kernel
theorem dX12_weightOf_17 : decode cX12_weightOf 17 = .ok (.iconst 3, 1) := by decide +kernel
theorem dX12_weightOf_18 : decode cX12_weightOf 18 = .ok (.ireturn, 1) := by decide +kernel
set_option maxRecDepth 20000 in
theorem ggX12_gives_X12_bitOf : GoodIn wsX12_gives wsX12_bitOf := goodIn_r _ [7] (by decide +kernel) (by decide +kernel)
set_option maxRecDepth 20000 in
theorem gX12_gives_X12_bitOf : GoodIn wsX12_gives (va_wsS RX12 216 yX12_bitOf wsX12_bitOf) := goodIn_app (goodIn_of _ (by decide +kernel)) ggX12_gives_X12_bitOf
set_option maxRecDepth 20000 in
theorem ggX12_gives_X12_weightOf : GoodIn wsX12_gives wsX12_weightOf := goodIn_r _ [11, 1, 12, 13, 14, 15, 16, 17, 18, 19, 20, 21, 22, 23, 24, 25, 26, 27, 28, 29, 30, 31, 32, 33, 34, 35, 36, 37, 38, 39, 40, 41, 42, 43, 44, 45, 46, 47, 48, 49, 50, 51, 52, 53, 54, 55, 56, 57, 58] (by decide +kernel) (by decide +kernel)
set_option maxRecDepth 20000 in
theorem gX12_gives_X12_weightOf : GoodIn wsX12_gives (wsV RX12 302 RX12 yX12_weightOf wsX12_weightOf) := goodIn_app (goodIn_of _ (by decide +kernel)) ggX12_gives_X12_weightOf
theorem dX12_gives_0 : decode cX12_gives 0 = .ok (.iconst 0, 1) := by decide +kernel
theorem dX12_gives_1 : decode cX12_gives 1 = .ok (.istore 4, 2) := by decide +kernel
theorem dX12_gives_3 : decode cX12_gives 3 = .ok (.iconst 0, 1) := by decide +kernel
theorem dX12_gives_4 : decode cX12_gives 4 = .ok (.istore 5, 2) := by decide +kernel
theorem dX12_gives_6 : decode cX12_gives 6 = .ok (.iload 5, 2) := by decide +kernel
theorem dX12_gives_8 : decode cX12_gives 8 = .ok (.aload_n 0, 1) := by decide +kernel
theorem dX12_gives_9 : decode cX12_gives 9 = .ok (.getfield 33, 3) := by decide +kernel
theorem dX12_gives_12 : decode cX12_gives 12 = .ok (.iconst 1, 1) := by decide +kernel
theorem dX12_gives_13 : decode cX12_gives 13 = .ok (.iaload, 1) := by decide +kernel
theorem dX12_gives_14 : decode cX12_gives 14 = .ok (.if_icmp .ge 33, 3) := by decide +kernel
theorem dX12_gives_17 : decode cX12_gives 17 = .ok (.iload 4, 2) := by decide +kernel
theorem dX12_gives_19 : decode cX12_gives 19 = .ok (.iload_n 1, 1) := by decide +kernel
theorem dX12_gives_20 : decode cX12_gives 20 = .ok (.iload 5, 2) := by decide +kernel
theorem dX12_gives_22 : decode cX12_gives 22 = .ok (.invokestatic 216, 3) := by decide +kernel
theorem dX12_gives_25 : decode cX12_gives 25 = .ok (.ifCond .eq 12, 3) := by decide +kernel
theorem dX12_gives_28 : decode cX12_gives 28 = .ok (.aload_n 0, 1) := by decide +kernel
theorem dX12_gives_29 : decode cX12_gives 29 = .ok (.iload 5, 2) := by decide +kernel
theorem dX12_gives_31 : decode cX12_gives 31 = .ok (.invokevirtual 302, 3) := by decide +kernel
theorem dX12_gives_34 : decode cX12_gives 34 = .ok (.goto 4, 3) := by decide +kernel
theorem dX12_gives_37 : decode cX12_gives 37 = .ok (.iconst 0, 1) := by decide +kernel
theorem dX12_gives_38 : decode cX12_gives 38 = .ok (.iadd, 1) := by decide +kernel
theorem dX12_gives_39 : decode cX12_gives 39 = .ok (.istore 4, 2) := by decide +kernel
theorem dX12_gives_41 : decode cX12_gives 41 = .ok (.iinc 5 1, 3) := by decide +kernel
theorem dX12_gives_44 : decode cX12_gives 44 = .ok (.goto (-38), 3) := by decide +kernel
theorem dX12_gives_47 : decode cX12_gives 47 = .ok (.iconst 0, 1) := by decide +kernel
theorem dX12_gives_48 : decode cX12_gives 48 = .ok (.istore 5, 2) := by decide +kernel
theorem dX12_gives_50 : decode cX12_gives 50 = .ok (.iload 5, 2) := by decide +kernel
theorem dX12_gives_52 : decode cX12_gives 52 = .ok (.aload_n 0, 1) := by decide +kernel
theorem dX12_gives_53 : decode cX12_gives 53 = .ok (.getfield 33, 3) := by decide +kernel
theorem dX12_gives_56 : decode cX12_gives 56 = .ok (.iconst 1, 1) := by decide +kernel
theorem dX12_gives_57 : decode cX12_gives 57 = .ok (.iaload, 1) := by decide +kernel
theorem dX12_gives_58 : decode cX12_gives 58 = .ok (.if_icmp .ge 48, 3) := by decide +kernel
theorem dX12_gives_61 : decode cX12_gives 61 = .ok (.iload_n 1, 1) := by decide +kernel
theorem dX12_gives_62 : decode cX12_gives 62 = .ok (.iload 5, 2) := by decide +kernel
theorem dX12_gives_64 : decode cX12_gives 64 = .ok (.invokestatic 216, 3) := by decide +kernel
theorem dX12_gives_67 : decode cX12_gives 67 = .ok (.ifCond .eq 33, 3) := by decide +kernel
theorem dX12_gives_70 : decode cX12_gives 70 = .ok (.aload_n 0, 1) := by decide +kernel
theorem dX12_gives_71 : decode cX12_gives 71 = .ok (.getfield 59, 3) := by decide +kernel
theorem dX12_gives_74 : decode cX12_gives 74 = .ok (.iload 5, 2) := by decide +kernel
theorem dX12_gives_76 : decode cX12_gives 76 = .ok (.iload_n 2, 1) := by decide +kernel
theorem dX12_gives_77 : decode cX12_gives 77 = .ok (.bipush 8, 2) := by decide +kernel
theorem dX12_gives_79 : decode cX12_gives 79 = .ok (.if_icmp .ne 9, 3) := by decide +kernel
theorem dX12_gives_82 : decode cX12_gives 82 = .ok (.iload_n 3, 1) := by decide +kernel
theorem dX12_gives_83 : decode cX12_gives 83 = .ok (.iconst 2, 1) := by decide +kernel
theorem dX12_gives_84 : decode cX12_gives 84 = .ok (.idiv, 1) := by decide +kernel
theorem dX12_gives_85 : decode cX12_gives 85 = .ok (.goto 4, 3) := by decide +kernel
theorem dX12_gives_88 : decode cX12_gives 88 = .ok (.iload_n 3, 1) := by decide +kernel
theorem dX12_gives_89 : decode cX12_gives 89 = .ok (.aload_n 0, 1) := by decide +kernel
theorem dX12_gives_90 : decode cX12_gives 90 = .ok (.iload 5, 2) := by decide +kernel
theorem dX12_gives_92 : decode cX12_gives 92 = .ok (.invokevirtual 302, 3) := by decide +kernel
theorem dX12_gives_95 : decode cX12_gives 95 = .ok (.imul, 1) := by decide +kernel
theorem dX12_gives_96 : decode cX12_gives 96 = .ok (.iload 4, 2) := by decide +kernel
theorem dX12_gives_98 : decode cX12_gives 98 = .ok (.idiv, 1) := by decide +kernel
theorem dX12_gives_99 : decode cX12_gives 99 = .ok (.iastore, 1) := by decide +kernel
theorem dX12_gives_100 : decode cX12_gives 100 = .ok (.iinc 5 1, 3) := by decide +kernel
theorem dX12_gives_103 : decode cX12_gives 103 = .ok (.goto (-53), 3) := by decide +kernel
theorem dX12_gives_106 : decode cX12_gives 106 = .ok (.aload_n 0, 1) := by decide +kernel
theorem dX12_gives_107 : decode cX12_gives 107 = .ok (.dup, 1) := by decide +kernel
theorem dX12_gives_108 : decode cX12_gives 108 = .ok (.getfield 305, 3) := by decide +kernel
theorem dX12_gives_111 : decode cX12_gives 111 = .ok (.iload_n 1, 1) := by decide +kernel
theorem dX12_gives_112 : decode cX12_gives 112 = .ok (.ior, 1) := by decide +kernel
theorem dX12_gives_113 : decode cX12_gives 113 = .ok (.putfield 305, 3) := by decide +kernel
theorem dX12_gives_116 : decode cX12_gives 116 = .ok (.return_, 1) := by decide +kernel
theorem dX12_sharesNone_0 : decode cX12_sharesNone 0 = .ok (.aload_n 0, 1) := by decide +kernel
theorem dX12_sharesNone_1 : decode cX12_sharesNone 1 = .ok (.iconst 0, 1) := by decide +kernel
theorem dX12_sharesNone_2 : decode cX12_sharesNone 2 = .ok (.putfield 305, 3) := by decide +kernel
theorem dX12_sharesNone_5 : decode cX12_sharesNone 5 = .ok (.iconst 0, 1) := by decide +kernel
theorem dX12_sharesNone_6 : decode cX12_sharesNone 6 = .ok (.istore_n 1, 1) := by decide +kernel
theorem dX12_sharesNone_7 : decode cX12_sharesNone 7 = .ok (.iload_n 1, 1) := by decide +kernel
theorem dX12_sharesNone_8 : decode cX12_sharesNone 8 = .ok (.bipush 8, 2) := by decide +kernel
theorem dX12_sharesNone_10 : decode cX12_sharesNone 10 = .ok (.if_icmp .ge 16, 3) := by decide +kernel
theorem dX12_sharesNone_13 : decode cX12_sharesNone 13 = .ok (.aload_n 0, 1) := by decide +kernel
theorem dX12_sharesNone_14 : decode cX12_sharesNone 14 = .ok (.getfield 59, 3) := by decide +kernel
theorem dX12_sharesNone_17 : decode cX12_sharesNone 17 = .ok (.iload_n 1, 1) := by decide +kernel
theorem dX12_sharesNone_18 : decode cX12_sharesNone 18 = .ok (.iconst 0, 1) := by decide +kernel
theorem dX12_sharesNone_19 : decode cX12_sharesNone 19 = .ok (.iastore, 1) := by decide +kernel
theorem dX12_sharesNone_20 : decode cX12_sharesNone 20 = .ok (.iinc 1 1, 3) := by decide +kernel
theorem dX12_sharesNone_23 : decode cX12_sharesNone 23 = .ok (.goto (-16), 3) := by decide +kernel
theorem dX12_sharesNone_26 : decode cX12_sharesNone 26 = .ok (.return_, 1) := by decide +kernel
set_option maxRecDepth 20000 in
theorem ggX12_sharesBy_X12_sharesNone : GoodIn wsX12_sharesBy wsX12_sharesNone := goodIn_r _ [5, 6, 7, 54, 55, 56, 57, 58, 59, 60, 61, 62, 63, 64, 65, 66, 67, 68, 69, 70, 71, 72, 73, 74, 75, 76, 77, 78, 79, 80, 81, 82, 83, 84, 85, 86, 87, 88, 89, 90, 91, 92, 93, 94, 95, 96, 97, 98, 99, 100] (by decide +kernel) (by decide +kernel)
set_option maxRecDepth 20000 in
theorem gX12_sharesBy_X12_sharesNone : GoodIn wsX12_sharesBy (wsV RX12 308 RX12 yX12_sharesNone wsX12_sharesNone) := goodIn_app (goodIn_of _ (by decide +kernel)) ggX12_sharesBy_X12_sharesNone
set_option maxRecDepth 20000 in
theorem ggX12_sharesBy_X12_firstIn : GoodIn wsX12_sharesBy wsX12_firstIn := goodIn_r _ [11, 12, 13, 14, 15, 4, 16, 17, 18, 19, 20, 21, 22, 23, 24, 25, 26, 27, 28, 29, 30, 31, 32, 33, 34, 35, 36, 37, 38, 39, 40, 41, 42, 54, 55, 56, 57, 58, 59, 60, 61, 62, 63, 64, 65, 66, 67, 68, 69, 70, 71, 72, 73, 74, 75, 76, 77, 78, 79, 80, 81, 82, 83, 84, 85, 86, 87, 88, 89, 90, 91, 92, 93, 94, 95, 96, 97, 98, 99, 100] (by decide +kernel) (by decide +kernel)
set_option maxRecDepth 20000 in
theorem gX12_sharesBy_X12_firstIn : GoodIn wsX12_sharesBy (wsV RX12 311 RX12 yX12_firstIn wsX12_firstIn) := goodIn_app (goodIn_of _ (by decide +kernel)) ggX12_sharesBy_X12_firstIn
set_option maxRecDepth 20000 in
theorem ggX12_sharesBy_X12_whoHears : GoodIn wsX12_sharesBy wsX12_whoHears := goodIn_r _ [16, 12, 17, 18, 19, 4, 20, 21, 22, 23, 24, 25, 26, 27, 28, 29, 30, 31, 32, 33, 34, 35, 36, 37, 38, 54, 55, 56, 57, 58, 59, 60, 61, 62, 63, 64, 65, 66, 67, 68, 69, 70, 71, 72, 73, 74, 75, 76, 77, 78, 79, 80, 81, 82, 83, 84, 85, 86, 87, 88, 89, 90, 91, 92, 93, 94, 95, 96, 97, 98, 99, 100] (by decide +kernel) (by decide +kernel)
set_option maxRecDepth 20000 in
theorem gX12_sharesBy_X12_whoHears : GoodIn wsX12_sharesBy (wsV RX12 296 RX12 yX12_whoHears wsX12_whoHears) := goodIn_app (goodIn_of _ (by decide +kernel)) ggX12_sharesBy_X12_whoHears
set_option maxRecDepth 20000 in
theorem ggX12_sharesBy_X12_menIn : GoodIn wsX12_sharesBy wsX12_menIn := goodIn_r _ [42, 12, 22, 28, 29, 30, 4, 31, 54, 55, 56, 57, 58, 59, 60, 61, 62, 63, 64, 65, 66, 67, 68, 69, 70, 71, 72, 73, 74, 75, 76, 77, 78, 79, 80, 81, 82, 83, 84, 85, 86, 87, 88, 89, 90, 91, 92, 93, 94, 95, 96, 97, 98, 99, 100] (by decide +kernel) (by decide +kernel)
set_option maxRecDepth 20000 in
theorem gX12_sharesBy_X12_menIn : GoodIn wsX12_sharesBy (wsV RX12 299 RX12 yX12_menIn wsX12_menIn) := goodIn_app (goodIn_of _ (by decide +kernel)) ggX12_sharesBy_X12_menIn
set_option maxRecDepth 20000 in
theorem ggX12_sharesBy_X12_gives : GoodIn wsX12_sharesBy wsX12_gives := goodIn_r _ [46, 12, 7, 6, 47, 48, 4, 49, 50, 51, 52, 53, 54, 55, 56, 57, 58, 59, 60, 61, 62, 63, 64, 65, 66, 67, 68, 69, 70, 71, 72, 73, 74, 75, 76, 77, 78, 79, 80, 81, 82, 83, 84, 85, 86, 87, 88, 89, 90, 91, 92, 93, 94, 95, 96, 97, 98, 99, 100] (by decide +kernel) (by decide +kernel)
set_option maxRecDepth 20000 in
theorem gX12_sharesBy_X12_gives : GoodIn wsX12_sharesBy (wsV RX12 314 RX12 yX12_gives wsX12_gives) := goodIn_app (goodIn_of _ (by decide +kernel)) ggX12_sharesBy_X12_gives
theorem dX12_sharesBy_0 : decode cX12_sharesBy 0 = .ok (.aload_n 0, 1) := by decide +kernel
theorem dX12_sharesBy_1 : decode cX12_sharesBy 1 = .ok (.invokevirtual 308, 3) := by decide +kernel
theorem dX12_sharesBy_4 : decode cX12_sharesBy 4 = .ok (.iconst 0, 1) := by decide +kernel
theorem dX12_sharesBy_5 : decode cX12_sharesBy 5 = .ok (.istore_n 3, 1) := by decide +kernel
theorem dX12_sharesBy_6 : decode cX12_sharesBy 6 = .ok (.iload_n 3, 1) := by decide +kernel
theorem dX12_sharesBy_7 : decode cX12_sharesBy 7 = .ok (.iconst 2, 1) := by decide +kernel
theorem dX12_sharesBy_8 : decode cX12_sharesBy 8 = .ok (.if_icmp .ge 42, 3) := by decide +kernel
theorem dX12_sharesBy_11 : decode cX12_sharesBy 11 = .ok (.aload_n 0, 1) := by decide +kernel
theorem dX12_sharesBy_12 : decode cX12_sharesBy 12 = .ok (.iload_n 1, 1) := by decide +kernel
theorem dX12_sharesBy_13 : decode cX12_sharesBy 13 = .ok (.iload_n 3, 1) := by decide +kernel
theorem dX12_sharesBy_14 : decode cX12_sharesBy 14 = .ok (.invokevirtual 311, 3) := by decide +kernel
theorem dX12_sharesBy_17 : decode cX12_sharesBy 17 = .ok (.istore 4, 2) := by decide +kernel
theorem dX12_sharesBy_19 : decode cX12_sharesBy 19 = .ok (.iload 4, 2) := by decide +kernel
theorem dX12_sharesBy_21 : decode cX12_sharesBy 21 = .ok (.ifCond .lt 23, 3) := by decide +kernel
theorem dX12_sharesBy_24 : decode cX12_sharesBy 24 = .ok (.aload_n 0, 1) := by decide +kernel
theorem dX12_sharesBy_25 : decode cX12_sharesBy 25 = .ok (.aload_n 0, 1) := by decide +kernel
theorem dX12_sharesBy_26 : decode cX12_sharesBy 26 = .ok (.iload_n 1, 1) := by decide +kernel
theorem dX12_sharesBy_27 : decode cX12_sharesBy 27 = .ok (.iload 4, 2) := by decide +kernel
theorem dX12_sharesBy_29 : decode cX12_sharesBy 29 = .ok (.invokevirtual 296, 3) := by decide +kernel
theorem dX12_sharesBy_32 : decode cX12_sharesBy 32 = .ok (.aload_n 0, 1) := by decide +kernel
theorem dX12_sharesBy_33 : decode cX12_sharesBy 33 = .ok (.iload_n 3, 1) := by decide +kernel
theorem dX12_sharesBy_34 : decode cX12_sharesBy 34 = .ok (.invokevirtual 299, 3) := by decide +kernel
theorem dX12_sharesBy_37 : decode cX12_sharesBy 37 = .ok (.iand, 1) := by decide +kernel
theorem dX12_sharesBy_38 : decode cX12_sharesBy 38 = .ok (.iload 4, 2) := by decide +kernel
theorem dX12_sharesBy_40 : decode cX12_sharesBy 40 = .ok (.iload_n 2, 1) := by decide +kernel
theorem dX12_sharesBy_41 : decode cX12_sharesBy 41 = .ok (.invokevirtual 314, 3) := by decide +kernel
theorem dX12_sharesBy_44 : decode cX12_sharesBy 44 = .ok (.iinc 3 1, 3) := by decide +kernel
theorem dX12_sharesBy_47 : decode cX12_sharesBy 47 = .ok (.goto (-41), 3) := by decide +kernel
theorem dX12_sharesBy_50 : decode cX12_sharesBy 50 = .ok (.return_, 1) := by decide +kernel
set_option maxRecDepth 20000 in
theorem ggX12_sharesNow_X12_sharesNone : GoodIn wsX12_sharesNow wsX12_sharesNone := goodIn_r _ [7, 8, 9, 35, 36, 37, 38, 39, 40, 41, 42, 43, 44, 45, 46, 47, 48, 49, 50, 51, 52, 53, 54, 55, 56, 57, 58, 59, 60, 61, 62, 63, 64, 65, 66, 67, 68, 69, 70, 71, 72, 73, 74, 75, 76, 77, 78, 79, 80, 81] (by decide +kernel) (by decide +kernel)
set_option maxRecDepth 20000 in
theorem gX12_sharesNow_X12_sharesNone : GoodIn wsX12_sharesNow (wsV RX12 308 RX12 yX12_sharesNone wsX12_sharesNone) := goodIn_app (goodIn_of _ (by decide +kernel)) ggX12_sharesNow_X12_sharesNone
set_option maxRecDepth 20000 in
theorem ggX12_sharesNow_X12_asNow : GoodIn wsX12_sharesNow wsX12_asNow := goodIn_r _ [13, 1, 14, 15, 16, 6, 17, 2, 18, 19, 35, 36, 37, 38, 39, 40, 41, 42, 43, 44, 45, 46, 47, 48, 49, 50, 51, 52, 53, 54, 55, 56, 57, 58, 59, 60, 61, 62, 63, 64, 65, 66, 67, 68, 69, 70, 71, 72, 73, 74, 75, 76, 77, 78, 79, 80, 81] (by decide +kernel) (by decide +kernel)
set_option maxRecDepth 20000 in
theorem gX12_sharesNow_X12_asNow : GoodIn wsX12_sharesNow (wsV RX12 318 RX12 yX12_asNow wsX12_asNow) := goodIn_app (goodIn_of _ (by decide +kernel)) ggX12_sharesNow_X12_asNow
set_option maxRecDepth 20000 in
theorem ggX12_sharesNow_X12_valleyOf : GoodIn wsX12_sharesNow wsX12_valleyOf := goodIn_r _ [23, 1, 35, 36, 37, 38, 39, 40, 41, 42, 43, 44, 45, 46, 47, 48, 49, 50, 51, 52, 53, 54, 55, 56, 57, 58, 59, 60, 61, 62, 63, 64, 65, 66, 67, 68, 69, 70, 71, 72, 73, 74, 75, 76, 77, 78, 79, 80, 81] (by decide +kernel) (by decide +kernel)
set_option maxRecDepth 20000 in
theorem gX12_sharesNow_X12_valleyOf : GoodIn wsX12_sharesNow (wsV RX12 265 RX12 yX12_valleyOf wsX12_valleyOf) := goodIn_app (goodIn_of _ (by decide +kernel)) ggX12_sharesNow_X12_valleyOf
set_option maxRecDepth 20000 in
theorem ggX12_sharesNow_X12_gives : GoodIn wsX12_sharesNow wsX12_gives := goodIn_r _ [27, 1, 9, 8, 28, 29, 6, 30, 31, 32, 33, 34, 35, 36, 37, 38, 39, 40, 41, 42, 43, 44, 45, 46, 47, 48, 49, 50, 51, 52, 53, 54, 55, 56, 57, 58, 59, 60, 61, 62, 63, 64, 65, 66, 67, 68, 69, 70, 71, 72, 73, 74, 75, 76, 77, 78, 79, 80, 81] (by decide +kernel) (by decide +kernel)
set_option maxRecDepth 20000 in
theorem gX12_sharesNow_X12_gives : GoodIn wsX12_sharesNow (wsV RX12 314 RX12 yX12_gives wsX12_gives) := goodIn_app (goodIn_of _ (by decide +kernel)) ggX12_sharesNow_X12_gives
theorem dX12_sharesNow_0 : decode cX12_sharesNow 0 = .ok (.aload_n 0, 1) := by decide +kernel
theorem dX12_sharesNow_1 : decode cX12_sharesNow 1 = .ok (.invokevirtual 308, 3) := by decide +kernel
theorem dX12_sharesNow_4 : decode cX12_sharesNow 4 = .ok (.aload_n 0, 1) := by decide +kernel
theorem dX12_sharesNow_5 : decode cX12_sharesNow 5 = .ok (.invokevirtual 318, 3) := by decide +kernel
theorem dX12_sharesNow_8 : decode cX12_sharesNow 8 = .ok (.iconst 0, 1) := by decide +kernel
theorem dX12_sharesNow_9 : decode cX12_sharesNow 9 = .ok (.istore_n 1, 1) := by decide +kernel
theorem dX12_sharesNow_10 : decode cX12_sharesNow 10 = .ok (.iload_n 1, 1) := by decide +kernel
theorem dX12_sharesNow_11 : decode cX12_sharesNow 11 = .ok (.iconst 2, 1) := by decide +kernel
theorem dX12_sharesNow_12 : decode cX12_sharesNow 12 = .ok (.if_icmp .ge 174, 3) := by decide +kernel
theorem dX12_sharesNow_15 : decode cX12_sharesNow 15 = .ok (.iconst (-1), 1) := by decide +kernel
theorem dX12_sharesNow_16 : decode cX12_sharesNow 16 = .ok (.istore_n 2, 1) := by decide +kernel
theorem dX12_sharesNow_17 : decode cX12_sharesNow 17 = .ok (.iconst 0, 1) := by decide +kernel
theorem dX12_sharesNow_18 : decode cX12_sharesNow 18 = .ok (.istore_n 3, 1) := by decide +kernel
theorem dX12_sharesNow_19 : decode cX12_sharesNow 19 = .ok (.iload_n 3, 1) := by decide +kernel
theorem dX12_sharesNow_20 : decode cX12_sharesNow 20 = .ok (.aload_n 0, 1) := by decide +kernel
theorem dX12_sharesNow_21 : decode cX12_sharesNow 21 = .ok (.getfield 33, 3) := by decide +kernel
theorem dX12_sharesNow_24 : decode cX12_sharesNow 24 = .ok (.iconst 1, 1) := by decide +kernel
theorem dX12_sharesNow_25 : decode cX12_sharesNow 25 = .ok (.iaload, 1) := by decide +kernel
theorem dX12_sharesNow_26 : decode cX12_sharesNow 26 = .ok (.if_icmp .ge 69, 3) := by decide +kernel
theorem dX12_sharesNow_29 : decode cX12_sharesNow 29 = .ok (.aload_n 0, 1) := by decide +kernel
theorem dX12_sharesNow_30 : decode cX12_sharesNow 30 = .ok (.getfield 33, 3) := by decide +kernel
theorem dX12_sharesNow_33 : decode cX12_sharesNow 33 = .ok (.sipush 230, 3) := by decide +kernel
theorem dX12_sharesNow_36 : decode cX12_sharesNow 36 = .ok (.iload_n 3, 1) := by decide +kernel
theorem dX12_sharesNow_37 : decode cX12_sharesNow 37 = .ok (.iadd, 1) := by decide +kernel
theorem dX12_sharesNow_38 : decode cX12_sharesNow 38 = .ok (.iaload, 1) := by decide +kernel
theorem dX12_sharesNow_39 : decode cX12_sharesNow 39 = .ok (.ifCond .le 50, 3) := by decide +kernel
theorem dX12_sharesNow_42 : decode cX12_sharesNow 42 = .ok (.aload_n 0, 1) := by decide +kernel
theorem dX12_sharesNow_43 : decode cX12_sharesNow 43 = .ok (.aload_n 0, 1) := by decide +kernel
theorem dX12_sharesNow_44 : decode cX12_sharesNow 44 = .ok (.getfield 50, 3) := by decide +kernel
theorem dX12_sharesNow_47 : decode cX12_sharesNow 47 = .ok (.iload_n 3, 1) := by decide +kernel
theorem dX12_sharesNow_48 : decode cX12_sharesNow 48 = .ok (.iaload, 1) := by decide +kernel
theorem dX12_sharesNow_49 : decode cX12_sharesNow 49 = .ok (.invokevirtual 265, 3) := by decide +kernel
theorem dX12_sharesNow_52 : decode cX12_sharesNow 52 = .ok (.iload_n 1, 1) := by decide +kernel
theorem dX12_sharesNow_53 : decode cX12_sharesNow 53 = .ok (.if_icmp .ne 36, 3) := by decide +kernel
theorem dX12_sharesNow_56 : decode cX12_sharesNow 56 = .ok (.iload_n 2, 1) := by decide +kernel
theorem dX12_sharesNow_57 : decode cX12_sharesNow 57 = .ok (.ifCond .lt 19, 3) := by decide +kernel
theorem dX12_sharesNow_60 : decode cX12_sharesNow 60 = .ok (.aload_n 0, 1) := by decide +kernel
theorem dX12_sharesNow_61 : decode cX12_sharesNow 61 = .ok (.getfield 33, 3) := by decide +kernel
theorem dX12_sharesNow_64 : decode cX12_sharesNow 64 = .ok (.sipush 230, 3) := by decide +kernel
theorem dX12_sharesNow_67 : decode cX12_sharesNow 67 = .ok (.iload_n 3, 1) := by decide +kernel
theorem dX12_sharesNow_68 : decode cX12_sharesNow 68 = .ok (.iadd, 1) := by decide +kernel
theorem dX12_sharesNow_69 : decode cX12_sharesNow 69 = .ok (.iaload, 1) := by decide +kernel
theorem dX12_sharesNow_70 : decode cX12_sharesNow 70 = .ok (.iconst 1, 1) := by decide +kernel
theorem dX12_sharesNow_71 : decode cX12_sharesNow 71 = .ok (.isub, 1) := by decide +kernel
theorem dX12_sharesNow_72 : decode cX12_sharesNow 72 = .ok (.iload_n 2, 1) := by decide +kernel
theorem dX12_sharesNow_73 : decode cX12_sharesNow 73 = .ok (.if_icmp .ge 16, 3) := by decide +kernel
theorem dX12_sharesNow_76 : decode cX12_sharesNow 76 = .ok (.aload_n 0, 1) := by decide +kernel
theorem dX12_sharesNow_77 : decode cX12_sharesNow 77 = .ok (.getfield 33, 3) := by decide +kernel
theorem dX12_sharesNow_80 : decode cX12_sharesNow 80 = .ok (.sipush 230, 3) := by decide +kernel
theorem dX12_sharesNow_83 : decode cX12_sharesNow 83 = .ok (.iload_n 3, 1) := by decide +kernel
theorem dX12_sharesNow_84 : decode cX12_sharesNow 84 = .ok (.iadd, 1) := by decide +kernel
theorem dX12_sharesNow_85 : decode cX12_sharesNow 85 = .ok (.iaload, 1) := by decide +kernel
theorem dX12_sharesNow_86 : decode cX12_sharesNow 86 = .ok (.iconst 1, 1) := by decide +kernel
theorem dX12_sharesNow_87 : decode cX12_sharesNow 87 = .ok (.isub, 1) := by decide +kernel
theorem dX12_sharesNow_88 : decode cX12_sharesNow 88 = .ok (.istore_n 2, 1) := by decide +kernel
theorem dX12_sharesNow_89 : decode cX12_sharesNow 89 = .ok (.iinc 3 1, 3) := by decide +kernel
theorem dX12_sharesNow_92 : decode cX12_sharesNow 92 = .ok (.goto (-73), 3) := by decide +kernel
theorem dX12_sharesNow_95 : decode cX12_sharesNow 95 = .ok (.iconst 0, 1) := by decide +kernel
theorem dX12_sharesNow_96 : decode cX12_sharesNow 96 = .ok (.istore_n 3, 1) := by decide +kernel
theorem dX12_sharesNow_97 : decode cX12_sharesNow 97 = .ok (.iconst 0, 1) := by decide +kernel
theorem dX12_sharesNow_98 : decode cX12_sharesNow 98 = .ok (.istore 4, 2) := by decide +kernel
theorem dX12_sharesNow_100 : decode cX12_sharesNow 100 = .ok (.iload 4, 2) := by decide +kernel
theorem dX12_sharesNow_102 : decode cX12_sharesNow 102 = .ok (.aload_n 0, 1) := by decide +kernel
theorem dX12_sharesNow_103 : decode cX12_sharesNow 103 = .ok (.getfield 33, 3) := by decide +kernel
theorem dX12_sharesNow_106 : decode cX12_sharesNow 106 = .ok (.iconst 1, 1) := by decide +kernel
theorem dX12_sharesNow_107 : decode cX12_sharesNow 107 = .ok (.iaload, 1) := by decide +kernel
theorem dX12_sharesNow_108 : decode cX12_sharesNow 108 = .ok (.if_icmp .ge 56, 3) := by decide +kernel
theorem dX12_sharesNow_111 : decode cX12_sharesNow 111 = .ok (.iload_n 3, 1) := by decide +kernel
theorem dX12_sharesNow_112 : decode cX12_sharesNow 112 = .ok (.iload_n 2, 1) := by decide +kernel
theorem dX12_sharesNow_113 : decode cX12_sharesNow 113 = .ok (.ifCond .lt 42, 3) := by decide +kernel
theorem dX12_sharesNow_116 : decode cX12_sharesNow 116 = .ok (.aload_n 0, 1) := by decide +kernel
theorem dX12_sharesNow_117 : decode cX12_sharesNow 117 = .ok (.getfield 33, 3) := by decide +kernel
theorem dX12_sharesNow_120 : decode cX12_sharesNow 120 = .ok (.sipush 230, 3) := by decide +kernel
theorem dX12_sharesNow_123 : decode cX12_sharesNow 123 = .ok (.iload 4, 2) := by decide +kernel
theorem dX12_sharesNow_125 : decode cX12_sharesNow 125 = .ok (.iadd, 1) := by decide +kernel
theorem dX12_sharesNow_126 : decode cX12_sharesNow 126 = .ok (.iaload, 1) := by decide +kernel
theorem dX12_sharesNow_127 : decode cX12_sharesNow 127 = .ok (.iload_n 2, 1) := by decide +kernel
theorem dX12_sharesNow_128 : decode cX12_sharesNow 128 = .ok (.iconst 1, 1) := by decide +kernel
theorem dX12_sharesNow_129 : decode cX12_sharesNow 129 = .ok (.iadd, 1) := by decide +kernel
theorem dX12_sharesNow_130 : decode cX12_sharesNow 130 = .ok (.if_icmp .ne 25, 3) := by decide +kernel
theorem dX12_sharesNow_133 : decode cX12_sharesNow 133 = .ok (.aload_n 0, 1) := by decide +kernel
theorem dX12_sharesNow_134 : decode cX12_sharesNow 134 = .ok (.aload_n 0, 1) := by decide +kernel
theorem dX12_sharesNow_135 : decode cX12_sharesNow 135 = .ok (.getfield 50, 3) := by decide +kernel
theorem dX12_sharesNow_138 : decode cX12_sharesNow 138 = .ok (.iload 4, 2) := by decide +kernel
theorem dX12_sharesNow_140 : decode cX12_sharesNow 140 = .ok (.iaload, 1) := by decide +kernel
theorem dX12_sharesNow_141 : decode cX12_sharesNow 141 = .ok (.invokevirtual 265, 3) := by decide +kernel
theorem dX12_sharesNow_144 : decode cX12_sharesNow 144 = .ok (.iload_n 1, 1) := by decide +kernel
theorem dX12_sharesNow_145 : decode cX12_sharesNow 145 = .ok (.if_icmp .ne 10, 3) := by decide +kernel
theorem dX12_sharesNow_148 : decode cX12_sharesNow 148 = .ok (.iconst 1, 1) := by decide +kernel
theorem dX12_sharesNow_149 : decode cX12_sharesNow 149 = .ok (.iload 4, 2) := by decide +kernel
theorem dX12_sharesNow_151 : decode cX12_sharesNow 151 = .ok (.ishl, 1) := by decide +kernel
theorem dX12_sharesNow_152 : decode cX12_sharesNow 152 = .ok (.goto 4, 3) := by decide +kernel
theorem dX12_sharesNow_155 : decode cX12_sharesNow 155 = .ok (.iconst 0, 1) := by decide +kernel
theorem dX12_sharesNow_156 : decode cX12_sharesNow 156 = .ok (.ior, 1) := by decide +kernel
theorem dX12_sharesNow_157 : decode cX12_sharesNow 157 = .ok (.istore_n 3, 1) := by decide +kernel
theorem dX12_sharesNow_158 : decode cX12_sharesNow 158 = .ok (.iinc 4 1, 3) := by decide +kernel
theorem dX12_sharesNow_161 : decode cX12_sharesNow 161 = .ok (.goto (-61), 3) := by decide +kernel
theorem dX12_sharesNow_164 : decode cX12_sharesNow 164 = .ok (.iload_n 3, 1) := by decide +kernel
theorem dX12_sharesNow_165 : decode cX12_sharesNow 165 = .ok (.ifCond .eq 15, 3) := by decide +kernel
theorem dX12_sharesNow_168 : decode cX12_sharesNow 168 = .ok (.aload_n 0, 1) := by decide +kernel
theorem dX12_sharesNow_169 : decode cX12_sharesNow 169 = .ok (.iload_n 3, 1) := by decide +kernel
theorem dX12_sharesNow_170 : decode cX12_sharesNow 170 = .ok (.iload_n 2, 1) := by decide +kernel
theorem dX12_sharesNow_171 : decode cX12_sharesNow 171 = .ok (.aload_n 0, 1) := by decide +kernel
theorem dX12_sharesNow_172 : decode cX12_sharesNow 172 = .ok (.getfield 33, 3) := by decide +kernel
theorem dX12_sharesNow_175 : decode cX12_sharesNow 175 = .ok (.iconst 4, 1) := by decide +kernel
theorem dX12_sharesNow_176 : decode cX12_sharesNow 176 = .ok (.iaload, 1) := by decide +kernel
theorem dX12_sharesNow_177 : decode cX12_sharesNow 177 = .ok (.invokevirtual 314, 3) := by decide +kernel
theorem dX12_sharesNow_180 : decode cX12_sharesNow 180 = .ok (.iinc 1 1, 3) := by decide +kernel
theorem dX12_sharesNow_183 : decode cX12_sharesNow 183 = .ok (.goto (-173), 3) := by decide +kernel
theorem dX12_sharesNow_186 : decode cX12_sharesNow 186 = .ok (.return_, 1) := by decide +kernel
theorem dX12_sum_0 : decode cX12_sum 0 = .ok (.iconst 0, 1) := by decide +kernel
theorem dX12_sum_1 : decode cX12_sum 1 = .ok (.istore_n 2, 1) := by decide +kernel
theorem dX12_sum_2 : decode cX12_sum 2 = .ok (.iconst 0, 1) := by decide +kernel
theorem dX12_sum_3 : decode cX12_sum 3 = .ok (.istore_n 3, 1) := by decide +kernel
theorem dX12_sum_4 : decode cX12_sum 4 = .ok (.iload_n 3, 1) := by decide +kernel
theorem dX12_sum_5 : decode cX12_sum 5 = .ok (.bipush 8, 2) := by decide +kernel
theorem dX12_sum_7 : decode cX12_sum 7 = .ok (.if_icmp .ge 20, 3) := by decide +kernel
theorem dX12_sum_10 : decode cX12_sum 10 = .ok (.iload_n 2, 1) := by decide +kernel
theorem dX12_sum_11 : decode cX12_sum 11 = .ok (.aload_n 0, 1) := by decide +kernel
theorem dX12_sum_12 : decode cX12_sum 12 = .ok (.getfield 33, 3) := by decide +kernel
theorem dX12_sum_15 : decode cX12_sum 15 = .ok (.iload_n 1, 1) := by decide +kernel
theorem dX12_sum_16 : decode cX12_sum 16 = .ok (.iload_n 3, 1) := by decide +kernel
theorem dX12_sum_17 : decode cX12_sum 17 = .ok (.iadd, 1) := by decide +kernel
theorem dX12_sum_18 : decode cX12_sum 18 = .ok (.iaload, 1) := by decide +kernel
theorem dX12_sum_19 : decode cX12_sum 19 = .ok (.iadd, 1) := by decide +kernel
theorem dX12_sum_20 : decode cX12_sum 20 = .ok (.istore_n 2, 1) := by decide +kernel
theorem dX12_sum_21 : decode cX12_sum 21 = .ok (.iinc 3 1, 3) := by decide +kernel
theorem dX12_sum_24 : decode cX12_sum 24 = .ok (.goto (-20), 3) := by decide +kernel
theorem dX12_sum_27 : decode cX12_sum 27 = .ok (.iload_n 2, 1) := by decide +kernel
theorem dX12_sum_28 : decode cX12_sum 28 = .ok (.ireturn, 1) := by decide +kernel
theorem dX12_isPast_0 : decode cX12_isPast 0 = .ok (.aload_n 0, 1) := by decide +kernel
theorem dX12_isPast_1 : decode cX12_isPast 1 = .ok (.getfield 33, 3) := by decide +kernel
theorem dX12_isPast_4 : decode cX12_isPast 4 = .ok (.sipush 212, 3) := by decide +kernel
theorem dX12_isPast_7 : decode cX12_isPast 7 = .ok (.iaload, 1) := by decide +kernel
theorem dX12_isPast_8 : decode cX12_isPast 8 = .ok (.iconst 1, 1) := by decide +kernel
theorem dX12_isPast_9 : decode cX12_isPast 9 = .ok (.isub, 1) := by decide +kernel
theorem dX12_isPast_10 : decode cX12_isPast 10 = .ok (.istore_n 2, 1) := by decide +kernel
theorem dX12_isPast_11 : decode cX12_isPast 11 = .ok (.iload_n 2, 1) := by decide +kernel
theorem dX12_isPast_12 : decode cX12_isPast 12 = .ok (.ifCond .lt 45, 3) := by decide +kernel
theorem dX12_isPast_15 : decode cX12_isPast 15 = .ok (.iload_n 1, 1) := by decide +kernel
theorem dX12_isPast_16 : decode cX12_isPast 16 = .ok (.aload_n 0, 1) := by decide +kernel
theorem dX12_isPast_17 : decode cX12_isPast 17 = .ok (.getfield 33, 3) := by decide +kernel
theorem dX12_isPast_20 : decode cX12_isPast 20 = .ok (.bipush 87, 2) := by decide +kernel
theorem dX12_isPast_22 : decode cX12_isPast 22 = .ok (.iload_n 2, 1) := by decide +kernel
theorem dX12_isPast_23 : decode cX12_isPast 23 = .ok (.iadd, 1) := by decide +kernel
theorem dX12_isPast_24 : decode cX12_isPast 24 = .ok (.iaload, 1) := by decide +kernel
theorem dX12_isPast_25 : decode cX12_isPast 25 = .ok (.if_icmp .ge 32, 3) := by decide +kernel
theorem dX12_isPast_28 : decode cX12_isPast 28 = .ok (.aload_n 0, 1) := by decide +kernel
theorem dX12_isPast_29 : decode cX12_isPast 29 = .ok (.getfield 33, 3) := by decide +kernel
theorem dX12_isPast_32 : decode cX12_isPast 32 = .ok (.bipush 91, 2) := by decide +kernel
theorem dX12_isPast_34 : decode cX12_isPast 34 = .ok (.bipush 10, 2) := by decide +kernel
theorem dX12_isPast_36 : decode cX12_isPast 36 = .ok (.iload_n 2, 1) := by decide +kernel
theorem dX12_isPast_37 : decode cX12_isPast 37 = .ok (.imul, 1) := by decide +kernel
theorem dX12_isPast_38 : decode cX12_isPast 38 = .ok (.iadd, 1) := by decide +kernel
theorem dX12_isPast_39 : decode cX12_isPast 39 = .ok (.iload_n 1, 1) := by decide +kernel
theorem dX12_isPast_40 : decode cX12_isPast 40 = .ok (.iadd, 1) := by decide +kernel
theorem dX12_isPast_41 : decode cX12_isPast 41 = .ok (.iaload, 1) := by decide +kernel
theorem dX12_isPast_42 : decode cX12_isPast 42 = .ok (.aload_n 0, 1) := by decide +kernel
theorem dX12_isPast_43 : decode cX12_isPast 43 = .ok (.getfield 33, 3) := by decide +kernel
theorem dX12_isPast_46 : decode cX12_isPast 46 = .ok (.sipush 213, 3) := by decide +kernel
theorem dX12_isPast_49 : decode cX12_isPast 49 = .ok (.iaload, 1) := by decide +kernel
theorem dX12_isPast_50 : decode cX12_isPast 50 = .ok (.if_icmp .gt 7, 3) := by decide +kernel
theorem dX12_isPast_53 : decode cX12_isPast 53 = .ok (.iconst 1, 1) := by decide +kernel
theorem dX12_isPast_54 : decode cX12_isPast 54 = .ok (.goto 4, 3) := by decide +kernel
theorem dX12_isPast_57 : decode cX12_isPast 57 = .ok (.iconst 0, 1) := by decide +kernel
theorem dX12_isPast_58 : decode cX12_isPast 58 = .ok (.ireturn, 1) := by decide +kernel
set_option maxRecDepth 20000 in
theorem ggX12_pastOf_X12_isPast : GoodIn wsX12_pastOf wsX12_isPast := goodIn_r _ [5, 6, 7, 8, 9, 10, 11, 12, 13, 14, 15, 16, 17, 18, 19, 20, 21, 22, 23, 24, 25, 26, 27, 28, 29, 30, 31, 32, 33, 34, 35, 36, 37, 38, 39, 40, 41, 42, 43, 44, 45, 46, 47, 48, 49, 50, 51, 52, 53] (by decide +kernel) (by decide +kernel)
set_option maxRecDepth 20000 in
theorem gX12_pastOf_X12_isPast : GoodIn wsX12_pastOf (wsV RX12 321 RX12 yX12_isPast wsX12_isPast) := goodIn_app (goodIn_of _ (by decide +kernel)) ggX12_pastOf_X12_isPast
theorem dX12_pastOf_0 : decode cX12_pastOf 0 = .ok (.iconst 0, 1) := by decide +kernel
theorem dX12_pastOf_1 : decode cX12_pastOf 1 = .ok (.istore_n 1, 1) := by decide +kernel
theorem dX12_pastOf_2 : decode cX12_pastOf 2 = .ok (.iload_n 1, 1) := by decide +kernel
theorem dX12_pastOf_3 : decode cX12_pastOf 3 = .ok (.bipush 10, 2) := by decide +kernel
theorem dX12_pastOf_5 : decode cX12_pastOf 5 = .ok (.if_icmp .ge 17, 3) := by decide +kernel
theorem dX12_pastOf_8 : decode cX12_pastOf 8 = .ok (.aload_n 0, 1) := by decide +kernel
theorem dX12_pastOf_9 : decode cX12_pastOf 9 = .ok (.iload_n 1, 1) := by decide +kernel
theorem dX12_pastOf_10 : decode cX12_pastOf 10 = .ok (.invokevirtual 321, 3) := by decide +kernel
theorem dX12_pastOf_13 : decode cX12_pastOf 13 = .ok (.ifCond .eq 9, 3) := by decide +kernel
theorem dX12_pastOf_16 : decode cX12_pastOf 16 = .ok (.iinc 1 1, 3) := by decide +kernel
theorem dX12_pastOf_19 : decode cX12_pastOf 19 = .ok (.goto (-17), 3) := by decide +kernel
theorem dX12_pastOf_22 : decode cX12_pastOf 22 = .ok (.iload_n 1, 1) := by decide +kernel
theorem dX12_pastOf_23 : decode cX12_pastOf 23 = .ok (.ireturn, 1) := by decide +kernel
theorem dX12_swornSet_0 : decode cX12_swornSet 0 = .ok (.iconst 0, 1) := by decide +kernel
theorem dX12_swornSet_1 : decode cX12_swornSet 1 = .ok (.istore_n 1, 1) := by decide +kernel
theorem dX12_swornSet_2 : decode cX12_swornSet 2 = .ok (.iconst 0, 1) := by decide +kernel
theorem dX12_swornSet_3 : decode cX12_swornSet 3 = .ok (.istore_n 2, 1) := by decide +kernel
theorem dX12_swornSet_4 : decode cX12_swornSet 4 = .ok (.iload_n 2, 1) := by decide +kernel
theorem dX12_swornSet_5 : decode cX12_swornSet 5 = .ok (.aload_n 0, 1) := by decide +kernel
theorem dX12_swornSet_6 : decode cX12_swornSet 6 = .ok (.getfield 33, 3) := by decide +kernel
theorem dX12_swornSet_9 : decode cX12_swornSet 9 = .ok (.iconst 1, 1) := by decide +kernel
theorem dX12_swornSet_10 : decode cX12_swornSet 10 = .ok (.iaload, 1) := by decide +kernel
theorem dX12_swornSet_11 : decode cX12_swornSet 11 = .ok (.if_icmp .ge 32, 3) := by decide +kernel
theorem dX12_swornSet_14 : decode cX12_swornSet 14 = .ok (.iload_n 1, 1) := by decide +kernel
theorem dX12_swornSet_15 : decode cX12_swornSet 15 = .ok (.aload_n 0, 1) := by decide +kernel
theorem dX12_swornSet_16 : decode cX12_swornSet 16 = .ok (.getfield 33, 3) := by decide +kernel
theorem dX12_swornSet_19 : decode cX12_swornSet 19 = .ok (.sipush 230, 3) := by decide +kernel
theorem dX12_swornSet_22 : decode cX12_swornSet 22 = .ok (.iload_n 2, 1) := by decide +kernel
theorem dX12_swornSet_23 : decode cX12_swornSet 23 = .ok (.iadd, 1) := by decide +kernel
theorem dX12_swornSet_24 : decode cX12_swornSet 24 = .ok (.iaload, 1) := by decide +kernel
theorem dX12_swornSet_25 : decode cX12_swornSet 25 = .ok (.ifCond .le 9, 3) := by decide +kernel
theorem dX12_swornSet_28 : decode cX12_swornSet 28 = .ok (.iconst 1, 1) := by decide +kernel
theorem dX12_swornSet_29 : decode cX12_swornSet 29 = .ok (.iload_n 2, 1) := by decide +kernel
theorem dX12_swornSet_30 : decode cX12_swornSet 30 = .ok (.ishl, 1) := by decide +kernel
theorem dX12_swornSet_31 : decode cX12_swornSet 31 = .ok (.goto 4, 3) := by decide +kernel
theorem dX12_swornSet_34 : decode cX12_swornSet 34 = .ok (.iconst 0, 1) := by decide +kernel
theorem dX12_swornSet_35 : decode cX12_swornSet 35 = .ok (.ior, 1) := by decide +kernel
theorem dX12_swornSet_36 : decode cX12_swornSet 36 = .ok (.istore_n 1, 1) := by decide +kernel
theorem dX12_swornSet_37 : decode cX12_swornSet 37 = .ok (.iinc 2 1, 3) := by decide +kernel
theorem dX12_swornSet_40 : decode cX12_swornSet 40 = .ok (.goto (-36), 3) := by decide +kernel
theorem dX12_swornSet_43 : decode cX12_swornSet 43 = .ok (.iload_n 1, 1) := by decide +kernel
theorem dX12_swornSet_44 : decode cX12_swornSet 44 = .ok (.ireturn, 1) := by decide +kernel
set_option maxRecDepth 20000 in
theorem ggX12_now_X12_pastOf : GoodIn wsX12_now wsX12_pastOf := goodIn_r _ [7, 8, 9, 10, 6, 11, 2, 20, 21, 22, 23, 24, 25, 26, 27, 28, 29, 30, 31, 32, 33, 34, 35, 36, 37, 38, 39, 40, 41, 42, 43, 44, 45, 46, 47, 48, 49, 50, 51, 52, 53, 54, 55, 56, 57, 58, 59, 60, 61, 62, 63, 64, 65, 66] (by decide +kernel) (by decide +kernel)
set_option maxRecDepth 20000 in
theorem gX12_now_X12_pastOf : GoodIn wsX12_now (wsV RX12 324 RX12 yX12_pastOf wsX12_pastOf) := goodIn_app (goodIn_of _ (by decide +kernel)) ggX12_now_X12_pastOf
set_option maxRecDepth 20000 in
theorem ggX12_now_X12_swornSet : GoodIn wsX12_now wsX12_swornSet := goodIn_r _ [15, 2, 20, 21, 22, 23, 24, 25, 26, 27, 28, 29, 30, 31, 32, 33, 34, 35, 36, 37, 38, 39, 40, 41, 42, 43, 44, 45, 46, 47, 48, 49, 50, 51, 52, 53, 54, 55, 56, 57, 58, 59, 60, 61, 62, 63, 64, 65, 66] (by decide +kernel) (by decide +kernel)
set_option maxRecDepth 20000 in
theorem gX12_now_X12_swornSet : GoodIn wsX12_now (wsV RX12 327 RX12 yX12_swornSet wsX12_swornSet) := goodIn_app (goodIn_of _ (by decide +kernel)) ggX12_now_X12_swornSet
set_option maxRecDepth 20000 in
theorem ggX12_now_X12_sum : GoodIn wsX12_now wsX12_sum := goodIn_r _ [19, 2, 20, 21, 22, 23, 24, 25, 26, 27, 28, 29, 30, 31, 32, 33, 34, 35, 36, 37, 38, 39, 40, 41, 42, 43, 44, 45, 46, 47, 48, 49, 50, 51, 52, 53, 54, 55, 56, 57, 58, 59, 60, 61, 62, 63, 64, 65, 66] (by decide +kernel) (by decide +kernel)
set_option maxRecDepth 20000 in
theorem gX12_now_X12_sum : GoodIn wsX12_now (wsV RX12 330 RX12 yX12_sum wsX12_sum) := goodIn_app (goodIn_of _ (by decide +kernel)) ggX12_now_X12_sum
theorem dX12_now_0 : decode cX12_now 0 = .ok (.aload_n 0, 1) := by decide +kernel
theorem dX12_now_1 : decode cX12_now 1 = .ok (.iconst 0, 1) := by decide +kernel
theorem dX12_now_2 : decode cX12_now 2 = .ok (.putfield 1, 3) := by decide +kernel
theorem dX12_now_5 : decode cX12_now 5 = .ok (.iload_n 1, 1) := by decide +kernel
theorem dX12_now_6 : decode cX12_now 6 = .ok (.tableswitch 97 0 6 #[42, 51, 62, 71, 76, 81, 89], 42) := by decide +kernel
theorem dX12_now_48 : decode cX12_now 48 = .ok (.aload_n 0, 1) := by decide +kernel
theorem dX12_now_49 : decode cX12_now 49 = .ok (.getfield 33, 3) := by decide +kernel
theorem dX12_now_52 : decode cX12_now 52 = .ok (.sipush 211, 3) := by decide +kernel
theorem dX12_now_55 : decode cX12_now 55 = .ok (.iaload, 1) := by decide +kernel
theorem dX12_now_56 : decode cX12_now 56 = .ok (.ireturn, 1) := by decide +kernel
theorem dX12_now_57 : decode cX12_now 57 = .ok (.aload_n 0, 1) := by decide +kernel
theorem dX12_now_58 : decode cX12_now 58 = .ok (.getfield 33, 3) := by decide +kernel
theorem dX12_now_61 : decode cX12_now 61 = .ok (.sipush 212, 3) := by decide +kernel
theorem dX12_now_64 : decode cX12_now 64 = .ok (.iaload, 1) := by decide +kernel
theorem dX12_now_65 : decode cX12_now 65 = .ok (.iconst 1, 1) := by decide +kernel
theorem dX12_now_66 : decode cX12_now 66 = .ok (.isub, 1) := by decide +kernel
theorem dX12_now_67 : decode cX12_now 67 = .ok (.ireturn, 1) := by decide +kernel
theorem dX12_now_68 : decode cX12_now 68 = .ok (.aload_n 0, 1) := by decide +kernel
theorem dX12_now_69 : decode cX12_now 69 = .ok (.getfield 33, 3) := by decide +kernel
theorem dX12_now_72 : decode cX12_now 72 = .ok (.sipush 213, 3) := by decide +kernel
theorem dX12_now_75 : decode cX12_now 75 = .ok (.iaload, 1) := by decide +kernel
theorem dX12_now_76 : decode cX12_now 76 = .ok (.ireturn, 1) := by decide +kernel
theorem dX12_now_77 : decode cX12_now 77 = .ok (.aload_n 0, 1) := by decide +kernel
theorem dX12_now_78 : decode cX12_now 78 = .ok (.invokevirtual 324, 3) := by decide +kernel
theorem dX12_now_81 : decode cX12_now 81 = .ok (.ireturn, 1) := by decide +kernel
theorem dX12_now_82 : decode cX12_now 82 = .ok (.aload_n 0, 1) := by decide +kernel
theorem dX12_now_83 : decode cX12_now 83 = .ok (.invokevirtual 327, 3) := by decide +kernel
theorem dX12_now_86 : decode cX12_now 86 = .ok (.ireturn, 1) := by decide +kernel
theorem dX12_now_87 : decode cX12_now 87 = .ok (.aload_n 0, 1) := by decide +kernel
theorem dX12_now_88 : decode cX12_now 88 = .ok (.sipush 222, 3) := by decide +kernel
theorem dX12_now_91 : decode cX12_now 91 = .ok (.invokevirtual 330, 3) := by decide +kernel
theorem dX12_now_94 : decode cX12_now 94 = .ok (.ireturn, 1) := by decide +kernel
theorem dX12_now_95 : decode cX12_now 95 = .ok (.aload_n 0, 1) := by decide +kernel
theorem dX12_now_96 : decode cX12_now 96 = .ok (.sipush 238, 3) := by decide +kernel
theorem dX12_now_99 : decode cX12_now 99 = .ok (.invokevirtual 330, 3) := by decide +kernel
theorem dX12_now_102 : decode cX12_now 102 = .ok (.ireturn, 1) := by decide +kernel
theorem dX12_now_103 : decode cX12_now 103 = .ok (.iconst (-1), 1) := by decide +kernel
theorem dX12_now_104 : decode cX12_now 104 = .ok (.ireturn, 1) := by decide +kernel
set_option maxRecDepth 20000 in
theorem ggX12_whyMove_X12_pastOf : GoodIn wsX12_whyMove wsX12_pastOf := goodIn_r _ [6, 7, 8, 9, 5, 10, 1, 11, 12, 13, 14, 15, 16, 17, 18, 19, 20, 21, 22, 23, 24, 25, 26, 27, 28, 29, 30, 31, 32, 33, 34, 35, 36, 37, 38, 39, 40, 41, 42, 43, 44, 45, 46, 47, 48, 49, 50, 51, 52, 53, 54, 55, 56, 57] (by decide +kernel) (by decide +kernel)
set_option maxRecDepth 20000 in
theorem gX12_whyMove_X12_pastOf : GoodIn wsX12_whyMove (wsV RX12 324 RX12 yX12_pastOf wsX12_pastOf) := goodIn_app (goodIn_of _ (by decide +kernel)) ggX12_whyMove_X12_pastOf
theorem dX12_whyMove_0 : decode cX12_whyMove 0 = .ok (.aload_n 0, 1) := by decide +kernel
theorem dX12_whyMove_1 : decode cX12_whyMove 1 = .ok (.getfield 33, 3) := by decide +kernel
theorem dX12_whyMove_4 : decode cX12_whyMove 4 = .ok (.sipush 214, 3) := by decide +kernel
theorem dX12_whyMove_7 : decode cX12_whyMove 7 = .ok (.iload_n 1, 1) := by decide +kernel
theorem dX12_whyMove_8 : decode cX12_whyMove 8 = .ok (.iadd, 1) := by decide +kernel
theorem dX12_whyMove_9 : decode cX12_whyMove 9 = .ok (.iaload, 1) := by decide +kernel
theorem dX12_whyMove_10 : decode cX12_whyMove 10 = .ok (.iload_n 2, 1) := by decide +kernel
theorem dX12_whyMove_11 : decode cX12_whyMove 11 = .ok (.if_icmp .ne 7, 3) := by decide +kernel
theorem dX12_whyMove_14 : decode cX12_whyMove 14 = .ok (.iconst 1, 1) := by decide +kernel
theorem dX12_whyMove_15 : decode cX12_whyMove 15 = .ok (.goto 15, 3) := by decide +kernel
theorem dX12_whyMove_18 : decode cX12_whyMove 18 = .ok (.aload_n 0, 1) := by decide +kernel
theorem dX12_whyMove_19 : decode cX12_whyMove 19 = .ok (.invokevirtual 324, 3) := by decide +kernel
theorem dX12_whyMove_22 : decode cX12_whyMove 22 = .ok (.ifCond .le 7, 3) := by decide +kernel
theorem dX12_whyMove_25 : decode cX12_whyMove 25 = .ok (.iconst 2, 1) := by decide +kernel
theorem dX12_whyMove_26 : decode cX12_whyMove 26 = .ok (.goto 4, 3) := by decide +kernel
theorem dX12_whyMove_29 : decode cX12_whyMove 29 = .ok (.iconst 0, 1) := by decide +kernel
theorem dX12_whyMove_30 : decode cX12_whyMove 30 = .ok (.ireturn, 1) := by decide +kernel
set_option maxRecDepth 20000 in
theorem ggX12_whySwear_X12_isPast : GoodIn wsX12_whySwear wsX12_isPast := goodIn_r _ [6, 1, 7, 8, 9, 10, 11, 12, 13, 14, 15, 16, 17, 18, 19, 20, 21, 22, 23, 24, 25, 26, 27, 28, 29, 30, 31, 32, 33, 34, 35, 36, 37, 38, 39, 40, 41, 42, 43, 44, 45, 46, 47, 48, 49, 50, 51, 52, 53] (by decide +kernel) (by decide +kernel)
set_option maxRecDepth 20000 in
theorem gX12_whySwear_X12_isPast : GoodIn wsX12_whySwear (wsV RX12 321 RX12 yX12_isPast wsX12_isPast) := goodIn_app (goodIn_of _ (by decide +kernel)) ggX12_whySwear_X12_isPast
theorem dX12_whySwear_0 : decode cX12_whySwear 0 = .ok (.aload_n 0, 1) := by decide +kernel
theorem dX12_whySwear_1 : decode cX12_whySwear 1 = .ok (.getfield 33, 3) := by decide +kernel
theorem dX12_whySwear_4 : decode cX12_whySwear 4 = .ok (.sipush 230, 3) := by decide +kernel
theorem dX12_whySwear_7 : decode cX12_whySwear 7 = .ok (.iload_n 1, 1) := by decide +kernel
theorem dX12_whySwear_8 : decode cX12_whySwear 8 = .ok (.iadd, 1) := by decide +kernel
theorem dX12_whySwear_9 : decode cX12_whySwear 9 = .ok (.iaload, 1) := by decide +kernel
theorem dX12_whySwear_10 : decode cX12_whySwear 10 = .ok (.ifCond .le 7, 3) := by decide +kernel
theorem dX12_whySwear_13 : decode cX12_whySwear 13 = .ok (.iconst 1, 1) := by decide +kernel
theorem dX12_whySwear_14 : decode cX12_whySwear 14 = .ok (.goto 33, 3) := by decide +kernel
theorem dX12_whySwear_17 : decode cX12_whySwear 17 = .ok (.aload_n 0, 1) := by decide +kernel
theorem dX12_whySwear_18 : decode cX12_whySwear 18 = .ok (.iload_n 2, 1) := by decide +kernel
theorem dX12_whySwear_19 : decode cX12_whySwear 19 = .ok (.invokevirtual 321, 3) := by decide +kernel
theorem dX12_whySwear_22 : decode cX12_whySwear 22 = .ok (.ifCond .ne 7, 3) := by decide +kernel
theorem dX12_whySwear_25 : decode cX12_whySwear 25 = .ok (.iconst 2, 1) := by decide +kernel
theorem dX12_whySwear_26 : decode cX12_whySwear 26 = .ok (.goto 21, 3) := by decide +kernel
theorem dX12_whySwear_29 : decode cX12_whySwear 29 = .ok (.aload_n 0, 1) := by decide +kernel
theorem dX12_whySwear_30 : decode cX12_whySwear 30 = .ok (.getfield 33, 3) := by decide +kernel
theorem dX12_whySwear_33 : decode cX12_whySwear 33 = .ok (.sipush 222, 3) := by decide +kernel
theorem dX12_whySwear_36 : decode cX12_whySwear 36 = .ok (.iload_n 1, 1) := by decide +kernel
theorem dX12_whySwear_37 : decode cX12_whySwear 37 = .ok (.iadd, 1) := by decide +kernel
theorem dX12_whySwear_38 : decode cX12_whySwear 38 = .ok (.iaload, 1) := by decide +kernel
theorem dX12_whySwear_39 : decode cX12_whySwear 39 = .ok (.ifCond .ne 7, 3) := by decide +kernel
theorem dX12_whySwear_42 : decode cX12_whySwear 42 = .ok (.iconst 3, 1) := by decide +kernel
theorem dX12_whySwear_43 : decode cX12_whySwear 43 = .ok (.goto 4, 3) := by decide +kernel
theorem dX12_whySwear_46 : decode cX12_whySwear 46 = .ok (.iconst 0, 1) := by decide +kernel
theorem dX12_whySwear_47 : decode cX12_whySwear 47 = .ok (.ireturn, 1) := by decide +kernel
theorem dX12_swearsTo_0 : decode cX12_swearsTo 0 = .ok (.aload_n 0, 1) := by decide +kernel
theorem dX12_swearsTo_1 : decode cX12_swearsTo 1 = .ok (.getfield 33, 3) := by decide +kernel
theorem dX12_swearsTo_4 : decode cX12_swearsTo 4 = .ok (.sipush 230, 3) := by decide +kernel
theorem dX12_swearsTo_7 : decode cX12_swearsTo 7 = .ok (.iload_n 1, 1) := by decide +kernel
theorem dX12_swearsTo_8 : decode cX12_swearsTo 8 = .ok (.iadd, 1) := by decide +kernel
theorem dX12_swearsTo_9 : decode cX12_swearsTo 9 = .ok (.iload_n 2, 1) := by decide +kernel
theorem dX12_swearsTo_10 : decode cX12_swearsTo 10 = .ok (.iconst 1, 1) := by decide +kernel
theorem dX12_swearsTo_11 : decode cX12_swearsTo 11 = .ok (.iadd, 1) := by decide +kernel
theorem dX12_swearsTo_12 : decode cX12_swearsTo 12 = .ok (.iastore, 1) := by decide +kernel
theorem dX12_swearsTo_13 : decode cX12_swearsTo 13 = .ok (.aload_n 0, 1) := by decide +kernel
theorem dX12_swearsTo_14 : decode cX12_swearsTo 14 = .ok (.getfield 33, 3) := by decide +kernel
theorem dX12_swearsTo_17 : decode cX12_swearsTo 17 = .ok (.sipush 222, 3) := by decide +kernel
theorem dX12_swearsTo_20 : decode cX12_swearsTo 20 = .ok (.iload_n 1, 1) := by decide +kernel
theorem dX12_swearsTo_21 : decode cX12_swearsTo 21 = .ok (.iadd, 1) := by decide +kernel
theorem dX12_swearsTo_22 : decode cX12_swearsTo 22 = .ok (.dup2, 1) := by decide +kernel
theorem dX12_swearsTo_23 : decode cX12_swearsTo 23 = .ok (.iaload, 1) := by decide +kernel
theorem dX12_swearsTo_24 : decode cX12_swearsTo 24 = .ok (.iconst 1, 1) := by decide +kernel
theorem dX12_swearsTo_25 : decode cX12_swearsTo 25 = .ok (.isub, 1) := by decide +kernel
theorem dX12_swearsTo_26 : decode cX12_swearsTo 26 = .ok (.iastore, 1) := by decide +kernel
theorem dX12_swearsTo_27 : decode cX12_swearsTo 27 = .ok (.return_, 1) := by decide +kernel
set_option maxRecDepth 20000 in
theorem ggX12_whyAccuse_X12_asNow : GoodIn wsX12_whyAccuse wsX12_asNow := goodIn_r _ [6, 1, 7, 8, 9, 5, 10, 11, 12, 13, 21, 22, 23, 24, 25, 26, 27, 28, 29, 30, 31, 32, 33, 34, 35, 36, 37, 38, 39, 40, 41, 42, 43, 44, 45, 46, 47, 48, 49, 50, 51, 52, 53, 54, 55, 56, 57, 58, 59, 60, 61, 62, 63, 64, 65, 66, 67] (by decide +kernel) (by decide +kernel)
set_option maxRecDepth 20000 in
theorem gX12_whyAccuse_X12_asNow : GoodIn wsX12_whyAccuse (wsV RX12 318 RX12 yX12_asNow wsX12_asNow) := goodIn_app (goodIn_of _ (by decide +kernel)) ggX12_whyAccuse_X12_asNow
set_option maxRecDepth 20000 in
theorem ggX12_whyAccuse_X12_farOf : GoodIn wsX12_whyAccuse wsX12_farOf := goodIn_r _ [17, 11, 1, 12, 18, 19, 5, 20, 21, 22, 23, 24, 25, 26, 27, 28, 29, 30, 31, 32, 33, 34, 35, 36, 37, 38, 39, 40, 41, 42, 43, 44, 45, 46, 47, 48, 49, 50, 51, 52, 53, 54, 55, 56, 57, 58, 59, 60, 61, 62, 63, 64, 65, 66, 67] (by decide +kernel) (by decide +kernel)
set_option maxRecDepth 20000 in
theorem gX12_whyAccuse_X12_farOf : GoodIn wsX12_whyAccuse (wsV RX12 289 RX12 yX12_farOf wsX12_farOf) := goodIn_app (goodIn_of _ (by decide +kernel)) ggX12_whyAccuse_X12_farOf
theorem dX12_whyAccuse_0 : decode cX12_whyAccuse 0 = .ok (.aload_n 0, 1) := by decide +kernel
theorem dX12_whyAccuse_1 : decode cX12_whyAccuse 1 = .ok (.getfield 33, 3) := by decide +kernel
theorem dX12_whyAccuse_4 : decode cX12_whyAccuse 4 = .ok (.sipush 230, 3) := by decide +kernel
theorem dX12_whyAccuse_7 : decode cX12_whyAccuse 7 = .ok (.iload_n 2, 1) := by decide +kernel
theorem dX12_whyAccuse_8 : decode cX12_whyAccuse 8 = .ok (.iadd, 1) := by decide +kernel
theorem dX12_whyAccuse_9 : decode cX12_whyAccuse 9 = .ok (.iaload, 1) := by decide +kernel
theorem dX12_whyAccuse_10 : decode cX12_whyAccuse 10 = .ok (.ifCond .ne 5, 3) := by decide +kernel
theorem dX12_whyAccuse_13 : decode cX12_whyAccuse 13 = .ok (.iconst 1, 1) := by decide +kernel
theorem dX12_whyAccuse_14 : decode cX12_whyAccuse 14 = .ok (.ireturn, 1) := by decide +kernel
theorem dX12_whyAccuse_15 : decode cX12_whyAccuse 15 = .ok (.aload_n 0, 1) := by decide +kernel
theorem dX12_whyAccuse_16 : decode cX12_whyAccuse 16 = .ok (.invokevirtual 318, 3) := by decide +kernel
theorem dX12_whyAccuse_19 : decode cX12_whyAccuse 19 = .ok (.aload_n 0, 1) := by decide +kernel
theorem dX12_whyAccuse_20 : decode cX12_whyAccuse 20 = .ok (.getfield 33, 3) := by decide +kernel
theorem dX12_whyAccuse_23 : decode cX12_whyAccuse 23 = .ok (.sipush 212, 3) := by decide +kernel
theorem dX12_whyAccuse_26 : decode cX12_whyAccuse 26 = .ok (.iaload, 1) := by decide +kernel
theorem dX12_whyAccuse_27 : decode cX12_whyAccuse 27 = .ok (.iconst 1, 1) := by decide +kernel
theorem dX12_whyAccuse_28 : decode cX12_whyAccuse 28 = .ok (.isub, 1) := by decide +kernel
theorem dX12_whyAccuse_29 : decode cX12_whyAccuse 29 = .ok (.istore_n 3, 1) := by decide +kernel
theorem dX12_whyAccuse_30 : decode cX12_whyAccuse 30 = .ok (.aload_n 0, 1) := by decide +kernel
theorem dX12_whyAccuse_31 : decode cX12_whyAccuse 31 = .ok (.getfield 33, 3) := by decide +kernel
theorem dX12_whyAccuse_34 : decode cX12_whyAccuse 34 = .ok (.sipush 230, 3) := by decide +kernel
theorem dX12_whyAccuse_37 : decode cX12_whyAccuse 37 = .ok (.iload_n 2, 1) := by decide +kernel
theorem dX12_whyAccuse_38 : decode cX12_whyAccuse 38 = .ok (.iadd, 1) := by decide +kernel
theorem dX12_whyAccuse_39 : decode cX12_whyAccuse 39 = .ok (.iaload, 1) := by decide +kernel
theorem dX12_whyAccuse_40 : decode cX12_whyAccuse 40 = .ok (.iconst 1, 1) := by decide +kernel
theorem dX12_whyAccuse_41 : decode cX12_whyAccuse 41 = .ok (.isub, 1) := by decide +kernel
theorem dX12_whyAccuse_42 : decode cX12_whyAccuse 42 = .ok (.istore 4, 2) := by decide +kernel
theorem dX12_whyAccuse_44 : decode cX12_whyAccuse 44 = .ok (.aload_n 0, 1) := by decide +kernel
theorem dX12_whyAccuse_45 : decode cX12_whyAccuse 45 = .ok (.iload_n 1, 1) := by decide +kernel
theorem dX12_whyAccuse_46 : decode cX12_whyAccuse 46 = .ok (.iload_n 3, 1) := by decide +kernel
theorem dX12_whyAccuse_47 : decode cX12_whyAccuse 47 = .ok (.iload 4, 2) := by decide +kernel
theorem dX12_whyAccuse_49 : decode cX12_whyAccuse 49 = .ok (.invokevirtual 289, 3) := by decide +kernel
theorem dX12_whyAccuse_52 : decode cX12_whyAccuse 52 = .ok (.aload_n 0, 1) := by decide +kernel
theorem dX12_whyAccuse_53 : decode cX12_whyAccuse 53 = .ok (.iload_n 2, 1) := by decide +kernel
theorem dX12_whyAccuse_54 : decode cX12_whyAccuse 54 = .ok (.iload_n 3, 1) := by decide +kernel
theorem dX12_whyAccuse_55 : decode cX12_whyAccuse 55 = .ok (.iload 4, 2) := by decide +kernel
theorem dX12_whyAccuse_57 : decode cX12_whyAccuse 57 = .ok (.invokevirtual 289, 3) := by decide +kernel
theorem dX12_whyAccuse_60 : decode cX12_whyAccuse 60 = .ok (.if_icmp .lt 5, 3) := by decide +kernel
theorem dX12_whyAccuse_63 : decode cX12_whyAccuse 63 = .ok (.iconst 2, 1) := by decide +kernel
theorem dX12_whyAccuse_64 : decode cX12_whyAccuse 64 = .ok (.ireturn, 1) := by decide +kernel
theorem dX12_whyAccuse_65 : decode cX12_whyAccuse 65 = .ok (.aload_n 0, 1) := by decide +kernel
theorem dX12_whyAccuse_66 : decode cX12_whyAccuse 66 = .ok (.getfield 33, 3) := by decide +kernel
theorem dX12_whyAccuse_69 : decode cX12_whyAccuse 69 = .ok (.sipush 230, 3) := by decide +kernel
theorem dX12_whyAccuse_72 : decode cX12_whyAccuse 72 = .ok (.iload_n 1, 1) := by decide +kernel
theorem dX12_whyAccuse_73 : decode cX12_whyAccuse 73 = .ok (.iadd, 1) := by decide +kernel
theorem dX12_whyAccuse_74 : decode cX12_whyAccuse 74 = .ok (.iaload, 1) := by decide +kernel
theorem dX12_whyAccuse_75 : decode cX12_whyAccuse 75 = .ok (.aload_n 0, 1) := by decide +kernel
theorem dX12_whyAccuse_76 : decode cX12_whyAccuse 76 = .ok (.getfield 33, 3) := by decide +kernel
theorem dX12_whyAccuse_79 : decode cX12_whyAccuse 79 = .ok (.sipush 230, 3) := by decide +kernel
theorem dX12_whyAccuse_82 : decode cX12_whyAccuse 82 = .ok (.iload_n 2, 1) := by decide +kernel
theorem dX12_whyAccuse_83 : decode cX12_whyAccuse 83 = .ok (.iadd, 1) := by decide +kernel
theorem dX12_whyAccuse_84 : decode cX12_whyAccuse 84 = .ok (.iaload, 1) := by decide +kernel
theorem dX12_whyAccuse_85 : decode cX12_whyAccuse 85 = .ok (.if_icmp .ne 7, 3) := by decide +kernel
theorem dX12_whyAccuse_88 : decode cX12_whyAccuse 88 = .ok (.iconst 3, 1) := by decide +kernel
theorem dX12_whyAccuse_89 : decode cX12_whyAccuse 89 = .ok (.goto 21, 3) := by decide +kernel
theorem dX12_whyAccuse_92 : decode cX12_whyAccuse 92 = .ok (.aload_n 0, 1) := by decide +kernel
theorem dX12_whyAccuse_93 : decode cX12_whyAccuse 93 = .ok (.getfield 33, 3) := by decide +kernel
theorem dX12_whyAccuse_96 : decode cX12_whyAccuse 96 = .ok (.sipush 222, 3) := by decide +kernel
theorem dX12_whyAccuse_99 : decode cX12_whyAccuse 99 = .ok (.iload_n 1, 1) := by decide +kernel
theorem dX12_whyAccuse_100 : decode cX12_whyAccuse 100 = .ok (.iadd, 1) := by decide +kernel
theorem dX12_whyAccuse_101 : decode cX12_whyAccuse 101 = .ok (.iaload, 1) := by decide +kernel
theorem dX12_whyAccuse_102 : decode cX12_whyAccuse 102 = .ok (.ifCond .ne 7, 3) := by decide +kernel
theorem dX12_whyAccuse_105 : decode cX12_whyAccuse 105 = .ok (.iconst 4, 1) := by decide +kernel
theorem dX12_whyAccuse_106 : decode cX12_whyAccuse 106 = .ok (.goto 4, 3) := by decide +kernel
theorem dX12_whyAccuse_109 : decode cX12_whyAccuse 109 = .ok (.iconst 0, 1) := by decide +kernel
theorem dX12_whyAccuse_110 : decode cX12_whyAccuse 110 = .ok (.ireturn, 1) := by decide +kernel
set_option maxRecDepth 20000 in
theorem ggX12_isTrue_X12_asNow : GoodIn wsX12_isTrue wsX12_asNow := goodIn_r _ [6, 1, 7, 8, 9, 5, 10, 11, 12, 13, 33, 34, 35, 36, 37, 38, 39, 40, 41, 42, 43, 44, 45, 46, 47, 48, 49, 50, 51, 52, 53, 54, 55, 56, 57, 58, 59, 60, 61, 62, 63, 64, 65, 66, 67, 68, 69, 70, 71, 72, 73, 74, 75, 76, 77, 78, 79] (by decide +kernel) (by decide +kernel)
set_option maxRecDepth 20000 in
theorem gX12_isTrue_X12_asNow : GoodIn wsX12_isTrue (wsV RX12 318 RX12 yX12_asNow wsX12_asNow) := goodIn_app (goodIn_of _ (by decide +kernel)) ggX12_isTrue_X12_asNow
set_option maxRecDepth 20000 in
theorem ggX12_isTrue_X12_canHear : GoodIn wsX12_isTrue wsX12_canHear := goodIn_r _ [17, 1, 13, 11, 18, 19, 20, 5, 21, 12, 22, 23, 24, 25, 26, 27, 28, 29, 30, 31, 32, 33, 34, 35, 36, 37, 38, 39, 40, 41, 42, 43, 44, 45, 46, 47, 48, 49, 50, 51, 52, 53, 54, 55, 56, 57, 58, 59, 60, 61, 62, 63, 64, 65, 66, 67, 68, 69, 70, 71, 72, 73, 74, 75, 76, 77, 78, 79] (by decide +kernel) (by decide +kernel)
set_option maxRecDepth 20000 in
theorem gX12_isTrue_X12_canHear : GoodIn wsX12_isTrue (wsV RX12 293 RX12 yX12_canHear wsX12_canHear) := goodIn_app (goodIn_of _ (by decide +kernel)) ggX12_isTrue_X12_canHear
theorem dX12_isTrue_0 : decode cX12_isTrue 0 = .ok (.aload_n 0, 1) := by decide +kernel
theorem dX12_isTrue_1 : decode cX12_isTrue 1 = .ok (.invokevirtual 318, 3) := by decide +kernel
theorem dX12_isTrue_4 : decode cX12_isTrue 4 = .ok (.aload_n 0, 1) := by decide +kernel
theorem dX12_isTrue_5 : decode cX12_isTrue 5 = .ok (.iload_n 1, 1) := by decide +kernel
theorem dX12_isTrue_6 : decode cX12_isTrue 6 = .ok (.aload_n 0, 1) := by decide +kernel
theorem dX12_isTrue_7 : decode cX12_isTrue 7 = .ok (.getfield 33, 3) := by decide +kernel
theorem dX12_isTrue_10 : decode cX12_isTrue 10 = .ok (.sipush 212, 3) := by decide +kernel
theorem dX12_isTrue_13 : decode cX12_isTrue 13 = .ok (.iaload, 1) := by decide +kernel
theorem dX12_isTrue_14 : decode cX12_isTrue 14 = .ok (.iconst 1, 1) := by decide +kernel
theorem dX12_isTrue_15 : decode cX12_isTrue 15 = .ok (.isub, 1) := by decide +kernel
theorem dX12_isTrue_16 : decode cX12_isTrue 16 = .ok (.aload_n 0, 1) := by decide +kernel
theorem dX12_isTrue_17 : decode cX12_isTrue 17 = .ok (.getfield 33, 3) := by decide +kernel
theorem dX12_isTrue_20 : decode cX12_isTrue 20 = .ok (.sipush 230, 3) := by decide +kernel
theorem dX12_isTrue_23 : decode cX12_isTrue 23 = .ok (.iload_n 1, 1) := by decide +kernel
theorem dX12_isTrue_24 : decode cX12_isTrue 24 = .ok (.iadd, 1) := by decide +kernel
theorem dX12_isTrue_25 : decode cX12_isTrue 25 = .ok (.iaload, 1) := by decide +kernel
theorem dX12_isTrue_26 : decode cX12_isTrue 26 = .ok (.iconst 1, 1) := by decide +kernel
theorem dX12_isTrue_27 : decode cX12_isTrue 27 = .ok (.isub, 1) := by decide +kernel
theorem dX12_isTrue_28 : decode cX12_isTrue 28 = .ok (.invokevirtual 293, 3) := by decide +kernel
theorem dX12_isTrue_31 : decode cX12_isTrue 31 = .ok (.ireturn, 1) := by decide +kernel
set_option maxRecDepth 20000 in
theorem ggX12_accuses_X12_isTrue : GoodIn wsX12_accuses wsX12_isTrue := goodIn_r _ [6, 1, 7, 8, 9, 5, 10, 11, 12, 13, 14, 15, 16, 17, 18, 19, 20, 21, 22, 23, 24, 25, 26, 27, 28, 29, 30, 31, 32, 33, 34, 35, 36, 37, 38, 39, 40, 41, 42, 43, 44, 45, 46, 47, 48, 49, 50, 51, 52, 53, 54, 55, 56, 57, 58, 59, 60, 61, 62, 63, 64, 65, 66, 67, 68, 69, 70, 71, 72, 73, 74, 75, 76, 77, 78, 79, 80, 81, 82, 83] (by decide +kernel) (by decide +kernel)
set_option maxRecDepth 20000 in
theorem gX12_accuses_X12_isTrue : GoodIn wsX12_accuses (wsV RX12 333 RX12 yX12_isTrue wsX12_isTrue) := goodIn_app (goodIn_of _ (by decide +kernel)) ggX12_accuses_X12_isTrue
theorem dX12_accuses_0 : decode cX12_accuses 0 = .ok (.aload_n 0, 1) := by decide +kernel
theorem dX12_accuses_1 : decode cX12_accuses 1 = .ok (.iload_n 2, 1) := by decide +kernel
theorem dX12_accuses_2 : decode cX12_accuses 2 = .ok (.invokevirtual 333, 3) := by decide +kernel
theorem dX12_accuses_5 : decode cX12_accuses 5 = .ok (.ifCond .eq 20, 3) := by decide +kernel
theorem dX12_accuses_8 : decode cX12_accuses 8 = .ok (.aload_n 0, 1) := by decide +kernel
theorem dX12_accuses_9 : decode cX12_accuses 9 = .ok (.getfield 33, 3) := by decide +kernel
theorem dX12_accuses_12 : decode cX12_accuses 12 = .ok (.sipush 222, 3) := by decide +kernel
theorem dX12_accuses_15 : decode cX12_accuses 15 = .ok (.iload_n 1, 1) := by decide +kernel
theorem dX12_accuses_16 : decode cX12_accuses 16 = .ok (.iadd, 1) := by decide +kernel
theorem dX12_accuses_17 : decode cX12_accuses 17 = .ok (.dup2, 1) := by decide +kernel
theorem dX12_accuses_18 : decode cX12_accuses 18 = .ok (.iaload, 1) := by decide +kernel
theorem dX12_accuses_19 : decode cX12_accuses 19 = .ok (.iconst 1, 1) := by decide +kernel
theorem dX12_accuses_20 : decode cX12_accuses 20 = .ok (.isub, 1) := by decide +kernel
theorem dX12_accuses_21 : decode cX12_accuses 21 = .ok (.iastore, 1) := by decide +kernel
theorem dX12_accuses_22 : decode cX12_accuses 22 = .ok (.goto 14, 3) := by decide +kernel
theorem dX12_accuses_25 : decode cX12_accuses 25 = .ok (.aload_n 0, 1) := by decide +kernel
theorem dX12_accuses_26 : decode cX12_accuses 26 = .ok (.getfield 33, 3) := by decide +kernel
theorem dX12_accuses_29 : decode cX12_accuses 29 = .ok (.sipush 230, 3) := by decide +kernel
theorem dX12_accuses_32 : decode cX12_accuses 32 = .ok (.iload_n 2, 1) := by decide +kernel
theorem dX12_accuses_33 : decode cX12_accuses 33 = .ok (.iadd, 1) := by decide +kernel
theorem dX12_accuses_34 : decode cX12_accuses 34 = .ok (.iconst 0, 1) := by decide +kernel
theorem dX12_accuses_35 : decode cX12_accuses 35 = .ok (.iastore, 1) := by decide +kernel
theorem dX12_accuses_36 : decode cX12_accuses 36 = .ok (.return_, 1) := by decide +kernel
theorem dX12_whyShare_0 : decode cX12_whyShare 0 = .ok (.aload_n 0, 1) := by decide +kernel
theorem dX12_whyShare_1 : decode cX12_whyShare 1 = .ok (.getfield 33, 3) := by decide +kernel
theorem dX12_whyShare_4 : decode cX12_whyShare 4 = .ok (.sipush 212, 3) := by decide +kernel
theorem dX12_whyShare_7 : decode cX12_whyShare 7 = .ok (.iaload, 1) := by decide +kernel
theorem dX12_whyShare_8 : decode cX12_whyShare 8 = .ok (.ifCond .ne 7, 3) := by decide +kernel
theorem dX12_whyShare_11 : decode cX12_whyShare 11 = .ok (.iconst 1, 1) := by decide +kernel
theorem dX12_whyShare_12 : decode cX12_whyShare 12 = .ok (.goto 21, 3) := by decide +kernel
theorem dX12_whyShare_15 : decode cX12_whyShare 15 = .ok (.aload_n 0, 1) := by decide +kernel
theorem dX12_whyShare_16 : decode cX12_whyShare 16 = .ok (.getfield 33, 3) := by decide +kernel
theorem dX12_whyShare_19 : decode cX12_whyShare 19 = .ok (.sipush 211, 3) := by decide +kernel
theorem dX12_whyShare_22 : decode cX12_whyShare 22 = .ok (.iaload, 1) := by decide +kernel
theorem dX12_whyShare_23 : decode cX12_whyShare 23 = .ok (.bipush 99, 2) := by decide +kernel
theorem dX12_whyShare_25 : decode cX12_whyShare 25 = .ok (.if_icmp .ne 7, 3) := by decide +kernel
theorem dX12_whyShare_28 : decode cX12_whyShare 28 = .ok (.iconst 2, 1) := by decide +kernel
theorem dX12_whyShare_29 : decode cX12_whyShare 29 = .ok (.goto 4, 3) := by decide +kernel
theorem dX12_whyShare_32 : decode cX12_whyShare 32 = .ok (.iconst 0, 1) := by decide +kernel
theorem dX12_whyShare_33 : decode cX12_whyShare 33 = .ok (.ireturn, 1) := by decide +kernel
theorem dX12_ends_0 : decode cX12_ends 0 = .ok (.iconst 0, 1) := by decide +kernel
theorem dX12_ends_1 : decode cX12_ends 1 = .ok (.istore_n 1, 1) := by decide +kernel
theorem dX12_ends_2 : decode cX12_ends 2 = .ok (.iload_n 1, 1) := by decide +kernel
theorem dX12_ends_3 : decode cX12_ends 3 = .ok (.bipush 8, 2) := by decide +kernel
theorem dX12_ends_5 : decode cX12_ends 5 = .ok (.if_icmp .ge 39, 3) := by decide +kernel
theorem dX12_ends_8 : decode cX12_ends 8 = .ok (.aload_n 0, 1) := by decide +kernel
theorem dX12_ends_9 : decode cX12_ends 9 = .ok (.getfield 33, 3) := by decide +kernel
theorem dX12_ends_12 : decode cX12_ends 12 = .ok (.sipush 238, 3) := by decide +kernel
theorem dX12_ends_15 : decode cX12_ends 15 = .ok (.iload_n 1, 1) := by decide +kernel
theorem dX12_ends_16 : decode cX12_ends 16 = .ok (.iadd, 1) := by decide +kernel
theorem dX12_ends_17 : decode cX12_ends 17 = .ok (.dup2, 1) := by decide +kernel
theorem dX12_ends_18 : decode cX12_ends 18 = .ok (.iaload, 1) := by decide +kernel
theorem dX12_ends_19 : decode cX12_ends 19 = .ok (.aload_n 0, 1) := by decide +kernel
theorem dX12_ends_20 : decode cX12_ends 20 = .ok (.getfield 59, 3) := by decide +kernel
theorem dX12_ends_23 : decode cX12_ends 23 = .ok (.iload_n 1, 1) := by decide +kernel
theorem dX12_ends_24 : decode cX12_ends 24 = .ok (.iaload, 1) := by decide +kernel
theorem dX12_ends_25 : decode cX12_ends 25 = .ok (.iadd, 1) := by decide +kernel
theorem dX12_ends_26 : decode cX12_ends 26 = .ok (.iastore, 1) := by decide +kernel
theorem dX12_ends_27 : decode cX12_ends 27 = .ok (.aload_n 0, 1) := by decide +kernel
theorem dX12_ends_28 : decode cX12_ends 28 = .ok (.getfield 33, 3) := by decide +kernel
theorem dX12_ends_31 : decode cX12_ends 31 = .ok (.sipush 230, 3) := by decide +kernel
theorem dX12_ends_34 : decode cX12_ends 34 = .ok (.iload_n 1, 1) := by decide +kernel
theorem dX12_ends_35 : decode cX12_ends 35 = .ok (.iadd, 1) := by decide +kernel
theorem dX12_ends_36 : decode cX12_ends 36 = .ok (.iconst 0, 1) := by decide +kernel
theorem dX12_ends_37 : decode cX12_ends 37 = .ok (.iastore, 1) := by decide +kernel
theorem dX12_ends_38 : decode cX12_ends 38 = .ok (.iinc 1 1, 3) := by decide +kernel
theorem dX12_ends_41 : decode cX12_ends 41 = .ok (.goto (-39), 3) := by decide +kernel
theorem dX12_ends_44 : decode cX12_ends 44 = .ok (.aload_n 0, 1) := by decide +kernel
theorem dX12_ends_45 : decode cX12_ends 45 = .ok (.getfield 33, 3) := by decide +kernel
theorem dX12_ends_48 : decode cX12_ends 48 = .ok (.sipush 211, 3) := by decide +kernel
theorem dX12_ends_51 : decode cX12_ends 51 = .ok (.dup2, 1) := by decide +kernel
theorem dX12_ends_52 : decode cX12_ends 52 = .ok (.iaload, 1) := by decide +kernel
theorem dX12_ends_53 : decode cX12_ends 53 = .ok (.iconst 1, 1) := by decide +kernel
theorem dX12_ends_54 : decode cX12_ends 54 = .ok (.iadd, 1) := by decide +kernel
theorem dX12_ends_55 : decode cX12_ends 55 = .ok (.iastore, 1) := by decide +kernel
theorem dX12_ends_56 : decode cX12_ends 56 = .ok (.aload_n 0, 1) := by decide +kernel
theorem dX12_ends_57 : decode cX12_ends 57 = .ok (.getfield 33, 3) := by decide +kernel
theorem dX12_ends_60 : decode cX12_ends 60 = .ok (.sipush 212, 3) := by decide +kernel
theorem dX12_ends_63 : decode cX12_ends 63 = .ok (.iconst 0, 1) := by decide +kernel
theorem dX12_ends_64 : decode cX12_ends 64 = .ok (.iastore, 1) := by decide +kernel
theorem dX12_ends_65 : decode cX12_ends 65 = .ok (.aload_n 0, 1) := by decide +kernel
theorem dX12_ends_66 : decode cX12_ends 66 = .ok (.getfield 33, 3) := by decide +kernel
theorem dX12_ends_69 : decode cX12_ends 69 = .ok (.sipush 213, 3) := by decide +kernel
theorem dX12_ends_72 : decode cX12_ends 72 = .ok (.iconst 0, 1) := by decide +kernel
theorem dX12_ends_73 : decode cX12_ends 73 = .ok (.iastore, 1) := by decide +kernel
theorem dX12_ends_74 : decode cX12_ends 74 = .ok (.return_, 1) := by decide +kernel
set_option maxRecDepth 20000 in
theorem ggX12_comes_X12_isFlight : GoodIn wsX12_comes wsX12_isFlight := goodIn_r _ [7, 2, 8, 9, 6, 10, 17, 18, 19, 20, 21, 22, 23, 24, 25, 26, 27, 28, 29, 30, 31, 32, 33, 34, 35, 36, 37, 38, 39, 40, 41, 42, 43, 44, 45, 46, 47, 48, 49, 50, 51, 52, 53, 54, 55, 56, 57, 58, 59, 60, 61, 62, 63] (by decide +kernel) (by decide +kernel)
set_option maxRecDepth 20000 in
theorem gX12_comes_X12_isFlight : GoodIn wsX12_comes (wsV RX12 259 RX12 yX12_isFlight wsX12_isFlight) := goodIn_app (goodIn_of _ (by decide +kernel)) ggX12_comes_X12_isFlight
set_option maxRecDepth 20000 in
theorem ggX12_comes_X12_keep : GoodIn wsX12_comes wsX12_keep := goodIn_r _ [14, 15, 16, 2, 17, 18, 19, 20, 21, 22, 23, 24, 25, 26, 27, 28, 29, 30, 31, 32, 33, 34, 35, 36, 37, 38, 39, 40, 41, 42, 43, 44, 45, 46, 47, 48, 49, 50, 51, 52, 53, 54, 55, 56, 57, 58, 59, 60, 61, 62, 63] (by decide +kernel) (by decide +kernel)
set_option maxRecDepth 20000 in
theorem gX12_comes_X12_keep : GoodIn wsX12_comes (wsV RX12 336 RX12 yX12_keep wsX12_keep) := goodIn_app (goodIn_of _ (by decide +kernel)) ggX12_comes_X12_keep
theorem dX12_comes_0 : decode cX12_comes 0 = .ok (.aload_n 0, 1) := by decide +kernel
theorem dX12_comes_1 : decode cX12_comes 1 = .ok (.iconst 0, 1) := by decide +kernel
theorem dX12_comes_2 : decode cX12_comes 2 = .ok (.putfield 1, 3) := by decide +kernel
theorem dX12_comes_5 : decode cX12_comes 5 = .ok (.aload_n 0, 1) := by decide +kernel
theorem dX12_comes_6 : decode cX12_comes 6 = .ok (.iload_n 1, 1) := by decide +kernel
theorem dX12_comes_7 : decode cX12_comes 7 = .ok (.invokevirtual 259, 3) := by decide +kernel
theorem dX12_comes_10 : decode cX12_comes 10 = .ok (.ifCond .ne 5, 3) := by decide +kernel
theorem dX12_comes_13 : decode cX12_comes 13 = .ok (.iconst (-1), 1) := by decide +kernel
theorem dX12_comes_14 : decode cX12_comes 14 = .ok (.ireturn, 1) := by decide +kernel
theorem dX12_comes_15 : decode cX12_comes 15 = .ok (.aload_n 0, 1) := by decide +kernel
theorem dX12_comes_16 : decode cX12_comes 16 = .ok (.getfield 33, 3) := by decide +kernel
theorem dX12_comes_19 : decode cX12_comes 19 = .ok (.sipush 212, 3) := by decide +kernel
theorem dX12_comes_22 : decode cX12_comes 22 = .ok (.iaload, 1) := by decide +kernel
theorem dX12_comes_23 : decode cX12_comes 23 = .ok (.ifCond .le 5, 3) := by decide +kernel
theorem dX12_comes_26 : decode cX12_comes 26 = .ok (.iconst 1, 1) := by decide +kernel
theorem dX12_comes_27 : decode cX12_comes 27 = .ok (.ireturn, 1) := by decide +kernel
theorem dX12_comes_28 : decode cX12_comes 28 = .ok (.aload_n 0, 1) := by decide +kernel
theorem dX12_comes_29 : decode cX12_comes 29 = .ok (.invokevirtual 336, 3) := by decide +kernel
theorem dX12_comes_32 : decode cX12_comes 32 = .ok (.aload_n 0, 1) := by decide +kernel
theorem dX12_comes_33 : decode cX12_comes 33 = .ok (.getfield 33, 3) := by decide +kernel
theorem dX12_comes_36 : decode cX12_comes 36 = .ok (.sipush 212, 3) := by decide +kernel
theorem dX12_comes_39 : decode cX12_comes 39 = .ok (.iload_n 1, 1) := by decide +kernel
theorem dX12_comes_40 : decode cX12_comes 40 = .ok (.iconst 1, 1) := by decide +kernel
theorem dX12_comes_41 : decode cX12_comes 41 = .ok (.iadd, 1) := by decide +kernel
theorem dX12_comes_42 : decode cX12_comes 42 = .ok (.iastore, 1) := by decide +kernel
theorem dX12_comes_43 : decode cX12_comes 43 = .ok (.iconst 0, 1) := by decide +kernel
theorem dX12_comes_44 : decode cX12_comes 44 = .ok (.ireturn, 1) := by decide +kernel
set_option maxRecDepth 20000 in
theorem ggX12_hours_X12_isIn : GoodIn wsX12_hours wsX12_isIn := goodIn_r _ [6] (by decide +kernel) (by decide +kernel)
set_option maxRecDepth 20000 in
theorem gX12_hours_X12_isIn : GoodIn wsX12_hours (va_wsS RX12 191 yX12_isIn wsX12_isIn) := goodIn_app (goodIn_of _ (by decide +kernel)) ggX12_hours_X12_isIn
set_option maxRecDepth 20000 in
theorem ggX12_hours_X12_keep : GoodIn wsX12_hours wsX12_keep := goodIn_r _ [10, 11, 12, 2, 16, 17, 18, 19, 20, 21, 22, 23, 24, 25, 26, 27, 28, 29, 30, 31, 32, 33, 34, 35, 36, 37, 38, 39, 40, 41, 42, 43, 44, 45, 46, 47, 48, 49, 50, 51, 52, 53, 54, 55, 56, 57, 58, 59, 60, 61, 62] (by decide +kernel) (by decide +kernel)
set_option maxRecDepth 20000 in
theorem gX12_hours_X12_keep : GoodIn wsX12_hours (wsV RX12 336 RX12 yX12_keep wsX12_keep) := goodIn_app (goodIn_of _ (by decide +kernel)) ggX12_hours_X12_keep
set_option maxRecDepth 20000 in
theorem ggX12_hours_X12_lesser : GoodIn wsX12_hours wsX12_lesser := goodIn_r _ [15] (by decide +kernel) (by decide +kernel)
set_option maxRecDepth 20000 in
theorem gX12_hours_X12_lesser : GoodIn wsX12_hours (va_wsS RX12 339 yX12_lesser wsX12_lesser) := goodIn_app (goodIn_of _ (by decide +kernel)) ggX12_hours_X12_lesser
theorem dX12_hours_0 : decode cX12_hours 0 = .ok (.aload_n 0, 1) := by decide +kernel
theorem dX12_hours_1 : decode cX12_hours 1 = .ok (.iconst 0, 1) := by decide +kernel
theorem dX12_hours_2 : decode cX12_hours 2 = .ok (.putfield 1, 3) := by decide +kernel
theorem dX12_hours_5 : decode cX12_hours 5 = .ok (.iload_n 1, 1) := by decide +kernel
theorem dX12_hours_6 : decode cX12_hours 6 = .ok (.iconst 1, 1) := by decide +kernel
theorem dX12_hours_7 : decode cX12_hours 7 = .ok (.bipush 99, 2) := by decide +kernel
theorem dX12_hours_9 : decode cX12_hours 9 = .ok (.invokestatic 191, 3) := by decide +kernel
theorem dX12_hours_12 : decode cX12_hours 12 = .ok (.ifCond .ne 5, 3) := by decide +kernel
theorem dX12_hours_15 : decode cX12_hours 15 = .ok (.iconst (-1), 1) := by decide +kernel
theorem dX12_hours_16 : decode cX12_hours 16 = .ok (.ireturn, 1) := by decide +kernel
theorem dX12_hours_17 : decode cX12_hours 17 = .ok (.aload_n 0, 1) := by decide +kernel
theorem dX12_hours_18 : decode cX12_hours 18 = .ok (.invokevirtual 336, 3) := by decide +kernel
theorem dX12_hours_21 : decode cX12_hours 21 = .ok (.aload_n 0, 1) := by decide +kernel
theorem dX12_hours_22 : decode cX12_hours 22 = .ok (.getfield 33, 3) := by decide +kernel
theorem dX12_hours_25 : decode cX12_hours 25 = .ok (.sipush 213, 3) := by decide +kernel
theorem dX12_hours_28 : decode cX12_hours 28 = .ok (.bipush 99, 2) := by decide +kernel
theorem dX12_hours_30 : decode cX12_hours 30 = .ok (.aload_n 0, 1) := by decide +kernel
theorem dX12_hours_31 : decode cX12_hours 31 = .ok (.getfield 33, 3) := by decide +kernel
theorem dX12_hours_34 : decode cX12_hours 34 = .ok (.sipush 213, 3) := by decide +kernel
theorem dX12_hours_37 : decode cX12_hours 37 = .ok (.iaload, 1) := by decide +kernel
theorem dX12_hours_38 : decode cX12_hours 38 = .ok (.iload_n 1, 1) := by decide +kernel
theorem dX12_hours_39 : decode cX12_hours 39 = .ok (.iadd, 1) := by decide +kernel
theorem dX12_hours_40 : decode cX12_hours 40 = .ok (.invokestatic 339, 3) := by decide +kernel
theorem dX12_hours_43 : decode cX12_hours 43 = .ok (.iastore, 1) := by decide +kernel
theorem dX12_hours_44 : decode cX12_hours 44 = .ok (.aload_n 0, 1) := by decide +kernel
theorem dX12_hours_45 : decode cX12_hours 45 = .ok (.getfield 33, 3) := by decide +kernel
theorem dX12_hours_48 : decode cX12_hours 48 = .ok (.sipush 213, 3) := by decide +kernel
theorem dX12_hours_51 : decode cX12_hours 51 = .ok (.iaload, 1) := by decide +kernel
theorem dX12_hours_52 : decode cX12_hours 52 = .ok (.ireturn, 1) := by decide +kernel
set_option maxRecDepth 20000 in
theorem ggX12_move_X12_isMan : GoodIn wsX12_move wsX12_isMan := goodIn_r _ [7, 2, 8, 9, 6, 10, 33, 34, 35, 36, 37, 38, 39, 40, 41, 42, 43, 44, 45, 46, 47, 48, 49, 50, 51, 52, 53, 54, 55, 56, 57, 58, 59, 60, 61, 62, 63, 64, 65, 66, 67, 68, 69, 70, 71, 72, 73, 74, 75, 76, 77, 78, 79] (by decide +kernel) (by decide +kernel)
set_option maxRecDepth 20000 in
theorem gX12_move_X12_isMan : GoodIn wsX12_move (wsV RX12 269 RX12 yX12_isMan wsX12_isMan) := goodIn_app (goodIn_of _ (by decide +kernel)) ggX12_move_X12_isMan
set_option maxRecDepth 20000 in
theorem ggX12_move_X12_isHill : GoodIn wsX12_move wsX12_isHill := goodIn_r _ [14, 2, 8, 9, 6, 10, 33, 34, 35, 36, 37, 38, 39, 40, 41, 42, 43, 44, 45, 46, 47, 48, 49, 50, 51, 52, 53, 54, 55, 56, 57, 58, 59, 60, 61, 62, 63, 64, 65, 66, 67, 68, 69, 70, 71, 72, 73, 74, 75, 76, 77, 78, 79] (by decide +kernel) (by decide +kernel)
set_option maxRecDepth 20000 in
theorem gX12_move_X12_isHill : GoodIn wsX12_move (wsV RX12 262 RX12 yX12_isHill wsX12_isHill) := goodIn_app (goodIn_of _ (by decide +kernel)) ggX12_move_X12_isHill
set_option maxRecDepth 20000 in
theorem ggX12_move_X12_whyMove : GoodIn wsX12_move wsX12_whyMove := goodIn_r _ [18, 2, 19, 20, 21, 6, 22, 23, 24, 25, 26, 33, 34, 35, 36, 37, 38, 39, 40, 41, 42, 43, 44, 45, 46, 47, 48, 49, 50, 51, 52, 53, 54, 55, 56, 57, 58, 59, 60, 61, 62, 63, 64, 65, 66, 67, 68, 69, 70, 71, 72, 73, 74, 75, 76, 77, 78, 79] (by decide +kernel) (by decide +kernel)
set_option maxRecDepth 20000 in
theorem gX12_move_X12_whyMove : GoodIn wsX12_move (wsV RX12 342 RX12 yX12_whyMove wsX12_whyMove) := goodIn_app (goodIn_of _ (by decide +kernel)) ggX12_move_X12_whyMove
set_option maxRecDepth 20000 in
theorem ggX12_move_X12_keep : GoodIn wsX12_move wsX12_keep := goodIn_r _ [30, 31, 32, 2, 33, 34, 35, 36, 37, 38, 39, 40, 41, 42, 43, 44, 45, 46, 47, 48, 49, 50, 51, 52, 53, 54, 55, 56, 57, 58, 59, 60, 61, 62, 63, 64, 65, 66, 67, 68, 69, 70, 71, 72, 73, 74, 75, 76, 77, 78, 79] (by decide +kernel) (by decide +kernel)
set_option maxRecDepth 20000 in
theorem gX12_move_X12_keep : GoodIn wsX12_move (wsV RX12 336 RX12 yX12_keep wsX12_keep) := goodIn_app (goodIn_of _ (by decide +kernel)) ggX12_move_X12_keep
theorem dX12_move_0 : decode cX12_move 0 = .ok (.aload_n 0, 1) := by decide +kernel
theorem dX12_move_1 : decode cX12_move 1 = .ok (.iconst 0, 1) := by decide +kernel
theorem dX12_move_2 : decode cX12_move 2 = .ok (.putfield 1, 3) := by decide +kernel
theorem dX12_move_5 : decode cX12_move 5 = .ok (.aload_n 0, 1) := by decide +kernel
theorem dX12_move_6 : decode cX12_move 6 = .ok (.iload_n 1, 1) := by decide +kernel
theorem dX12_move_7 : decode cX12_move 7 = .ok (.invokevirtual 269, 3) := by decide +kernel
theorem dX12_move_10 : decode cX12_move 10 = .ok (.ifCond .eq 11, 3) := by decide +kernel
theorem dX12_move_13 : decode cX12_move 13 = .ok (.aload_n 0, 1) := by decide +kernel
theorem dX12_move_14 : decode cX12_move 14 = .ok (.iload_n 2, 1) := by decide +kernel
theorem dX12_move_15 : decode cX12_move 15 = .ok (.invokevirtual 262, 3) := by decide +kernel
theorem dX12_move_18 : decode cX12_move 18 = .ok (.ifCond .ne 5, 3) := by decide +kernel
theorem dX12_move_21 : decode cX12_move 21 = .ok (.iconst (-1), 1) := by decide +kernel
theorem dX12_move_22 : decode cX12_move 22 = .ok (.ireturn, 1) := by decide +kernel
theorem dX12_move_23 : decode cX12_move 23 = .ok (.aload_n 0, 1) := by decide +kernel
theorem dX12_move_24 : decode cX12_move 24 = .ok (.iload_n 1, 1) := by decide +kernel
theorem dX12_move_25 : decode cX12_move 25 = .ok (.iload_n 2, 1) := by decide +kernel
theorem dX12_move_26 : decode cX12_move 26 = .ok (.invokevirtual 342, 3) := by decide +kernel
theorem dX12_move_29 : decode cX12_move 29 = .ok (.istore_n 3, 1) := by decide +kernel
theorem dX12_move_30 : decode cX12_move 30 = .ok (.iload_n 3, 1) := by decide +kernel
theorem dX12_move_31 : decode cX12_move 31 = .ok (.ifCond .le 5, 3) := by decide +kernel
theorem dX12_move_34 : decode cX12_move 34 = .ok (.iload_n 3, 1) := by decide +kernel
theorem dX12_move_35 : decode cX12_move 35 = .ok (.ireturn, 1) := by decide +kernel
theorem dX12_move_36 : decode cX12_move 36 = .ok (.aload_n 0, 1) := by decide +kernel
theorem dX12_move_37 : decode cX12_move 37 = .ok (.invokevirtual 336, 3) := by decide +kernel
theorem dX12_move_40 : decode cX12_move 40 = .ok (.aload_n 0, 1) := by decide +kernel
theorem dX12_move_41 : decode cX12_move 41 = .ok (.getfield 33, 3) := by decide +kernel
theorem dX12_move_44 : decode cX12_move 44 = .ok (.sipush 214, 3) := by decide +kernel
theorem dX12_move_47 : decode cX12_move 47 = .ok (.iload_n 1, 1) := by decide +kernel
theorem dX12_move_48 : decode cX12_move 48 = .ok (.iadd, 1) := by decide +kernel
theorem dX12_move_49 : decode cX12_move 49 = .ok (.iload_n 2, 1) := by decide +kernel
theorem dX12_move_50 : decode cX12_move 50 = .ok (.iastore, 1) := by decide +kernel
theorem dX12_move_51 : decode cX12_move 51 = .ok (.iconst 0, 1) := by decide +kernel
theorem dX12_move_52 : decode cX12_move 52 = .ok (.ireturn, 1) := by decide +kernel
set_option maxRecDepth 20000 in
theorem ggX12_swear_X12_isMan : GoodIn wsX12_swear wsX12_isMan := goodIn_r _ [6, 7, 8, 9, 5, 10, 29, 30, 31, 32, 33, 34, 35, 36, 37, 38, 39, 40, 41, 42, 43, 44, 45, 46, 47, 48, 49, 50, 51, 52, 53, 54, 55, 56, 57, 58, 59, 60, 61, 62, 63, 64, 65, 66, 67, 68, 69, 70, 71, 72, 73, 74, 75] (by decide +kernel) (by decide +kernel)
set_option maxRecDepth 20000 in
theorem gX12_swear_X12_isMan : GoodIn wsX12_swear (wsV RX12 269 RX12 yX12_isMan wsX12_isMan) := goodIn_app (goodIn_of _ (by decide +kernel)) ggX12_swear_X12_isMan
set_option maxRecDepth 20000 in
theorem ggX12_swear_X12_isIn : GoodIn wsX12_swear wsX12_isIn := goodIn_r _ [10] (by decide +kernel) (by decide +kernel)
set_option maxRecDepth 20000 in
theorem gX12_swear_X12_isIn : GoodIn wsX12_swear (va_wsS RX12 191 yX12_isIn wsX12_isIn) := goodIn_app (goodIn_of _ (by decide +kernel)) ggX12_swear_X12_isIn
set_option maxRecDepth 20000 in
theorem ggX12_swear_X12_whySwear : GoodIn wsX12_swear wsX12_whySwear := goodIn_r _ [14, 7, 15, 16, 17, 5, 18, 29, 30, 31, 32, 33, 34, 35, 36, 37, 38, 39, 40, 41, 42, 43, 44, 45, 46, 47, 48, 49, 50, 51, 52, 53, 54, 55, 56, 57, 58, 59, 60, 61, 62, 63, 64, 65, 66, 67, 68, 69, 70, 71, 72, 73, 74, 75] (by decide +kernel) (by decide +kernel)
set_option maxRecDepth 20000 in
theorem gX12_swear_X12_whySwear : GoodIn wsX12_swear (wsV RX12 345 RX12 yX12_whySwear wsX12_whySwear) := goodIn_app (goodIn_of _ (by decide +kernel)) ggX12_swear_X12_whySwear
set_option maxRecDepth 20000 in
theorem ggX12_swear_X12_keep : GoodIn wsX12_swear wsX12_keep := goodIn_r _ [22, 23, 24, 7, 29, 30, 31, 32, 33, 34, 35, 36, 37, 38, 39, 40, 41, 42, 43, 44, 45, 46, 47, 48, 49, 50, 51, 52, 53, 54, 55, 56, 57, 58, 59, 60, 61, 62, 63, 64, 65, 66, 67, 68, 69, 70, 71, 72, 73, 74, 75] (by decide +kernel) (by decide +kernel)
set_option maxRecDepth 20000 in
theorem gX12_swear_X12_keep : GoodIn wsX12_swear (wsV RX12 336 RX12 yX12_keep wsX12_keep) := goodIn_app (goodIn_of _ (by decide +kernel)) ggX12_swear_X12_keep
set_option maxRecDepth 20000 in
theorem ggX12_swear_X12_swearsTo : GoodIn wsX12_swear wsX12_swearsTo := goodIn_r _ [28, 7, 29, 30, 31, 32, 33, 34, 35, 36, 37, 38, 39, 40, 41, 42, 43, 44, 45, 46, 47, 48, 49, 50, 51, 52, 53, 54, 55, 56, 57, 58, 59, 60, 61, 62, 63, 64, 65, 66, 67, 68, 69, 70, 71, 72, 73, 74, 75] (by decide +kernel) (by decide +kernel)
set_option maxRecDepth 20000 in
theorem gX12_swear_X12_swearsTo : GoodIn wsX12_swear (wsV RX12 348 RX12 yX12_swearsTo wsX12_swearsTo) := goodIn_app (goodIn_of _ (by decide +kernel)) ggX12_swear_X12_swearsTo
theorem dX12_swear_0 : decode cX12_swear 0 = .ok (.aload_n 0, 1) := by decide +kernel
theorem dX12_swear_1 : decode cX12_swear 1 = .ok (.iconst 0, 1) := by decide +kernel
theorem dX12_swear_2 : decode cX12_swear 2 = .ok (.putfield 1, 3) := by decide +kernel
theorem dX12_swear_5 : decode cX12_swear 5 = .ok (.aload_n 0, 1) := by decide +kernel
theorem dX12_swear_6 : decode cX12_swear 6 = .ok (.iload_n 1, 1) := by decide +kernel
theorem dX12_swear_7 : decode cX12_swear 7 = .ok (.invokevirtual 269, 3) := by decide +kernel
theorem dX12_swear_10 : decode cX12_swear 10 = .ok (.ifCond .eq 13, 3) := by decide +kernel
theorem dX12_swear_13 : decode cX12_swear 13 = .ok (.iload_n 2, 1) := by decide +kernel
theorem dX12_swear_14 : decode cX12_swear 14 = .ok (.iconst 0, 1) := by decide +kernel
theorem dX12_swear_15 : decode cX12_swear 15 = .ok (.bipush 9, 2) := by decide +kernel
theorem dX12_swear_17 : decode cX12_swear 17 = .ok (.invokestatic 191, 3) := by decide +kernel
theorem dX12_swear_20 : decode cX12_swear 20 = .ok (.ifCond .ne 5, 3) := by decide +kernel
theorem dX12_swear_23 : decode cX12_swear 23 = .ok (.iconst (-1), 1) := by decide +kernel
theorem dX12_swear_24 : decode cX12_swear 24 = .ok (.ireturn, 1) := by decide +kernel
theorem dX12_swear_25 : decode cX12_swear 25 = .ok (.aload_n 0, 1) := by decide +kernel
theorem dX12_swear_26 : decode cX12_swear 26 = .ok (.iload_n 1, 1) := by decide +kernel
theorem dX12_swear_27 : decode cX12_swear 27 = .ok (.iload_n 2, 1) := by decide +kernel
theorem dX12_swear_28 : decode cX12_swear 28 = .ok (.invokevirtual 345, 3) := by decide +kernel
theorem dX12_swear_31 : decode cX12_swear 31 = .ok (.istore_n 3, 1) := by decide +kernel
theorem dX12_swear_32 : decode cX12_swear 32 = .ok (.iload_n 3, 1) := by decide +kernel
theorem dX12_swear_33 : decode cX12_swear 33 = .ok (.ifCond .le 5, 3) := by decide +kernel
theorem dX12_swear_36 : decode cX12_swear 36 = .ok (.iload_n 3, 1) := by decide +kernel
theorem dX12_swear_37 : decode cX12_swear 37 = .ok (.ireturn, 1) := by decide +kernel
theorem dX12_swear_38 : decode cX12_swear 38 = .ok (.aload_n 0, 1) := by decide +kernel
theorem dX12_swear_39 : decode cX12_swear 39 = .ok (.invokevirtual 336, 3) := by decide +kernel
theorem dX12_swear_42 : decode cX12_swear 42 = .ok (.aload_n 0, 1) := by decide +kernel
theorem dX12_swear_43 : decode cX12_swear 43 = .ok (.iload_n 1, 1) := by decide +kernel
theorem dX12_swear_44 : decode cX12_swear 44 = .ok (.iload_n 2, 1) := by decide +kernel
theorem dX12_swear_45 : decode cX12_swear 45 = .ok (.invokevirtual 348, 3) := by decide +kernel
theorem dX12_swear_48 : decode cX12_swear 48 = .ok (.iconst 0, 1) := by decide +kernel
theorem dX12_swear_49 : decode cX12_swear 49 = .ok (.ireturn, 1) := by decide +kernel
set_option maxRecDepth 20000 in
theorem ggX12_accuse_X12_isMan : GoodIn wsX12_accuse wsX12_isMan := goodIn_r _ [6, 7, 8, 9, 5, 10, 59, 60, 61, 62, 63, 64, 65, 66, 67, 68, 69, 70, 71, 72, 73, 74, 75, 76, 77, 78, 79, 80, 81, 82, 83, 84, 85, 86, 87, 88, 89, 90, 91, 92, 93, 94, 95, 96, 97, 98, 99, 100, 101, 102, 103, 104, 105] (by decide +kernel) (by decide +kernel)
set_option maxRecDepth 20000 in
theorem gX12_accuse_X12_isMan : GoodIn wsX12_accuse (wsV RX12 269 RX12 yX12_isMan wsX12_isMan) := goodIn_app (goodIn_of _ (by decide +kernel)) ggX12_accuse_X12_isMan
set_option maxRecDepth 20000 in
theorem ggX12_accuse_X12_whyAccuse : GoodIn wsX12_accuse wsX12_whyAccuse := goodIn_r _ [14, 7, 15, 16, 17, 5, 18, 19, 20, 21, 22, 23, 24, 25, 26, 27, 28, 29, 30, 31, 32, 59, 60, 61, 62, 63, 64, 65, 66, 67, 68, 69, 70, 71, 72, 73, 74, 75, 76, 77, 78, 79, 80, 81, 82, 83, 84, 85, 86, 87, 88, 89, 90, 91, 92, 93, 94, 95, 96, 97, 98, 99, 100, 101, 102, 103, 104, 105] (by decide +kernel) (by decide +kernel)
set_option maxRecDepth 20000 in
theorem gX12_accuse_X12_whyAccuse : GoodIn wsX12_accuse (wsV RX12 351 RX12 yX12_whyAccuse wsX12_whyAccuse) := goodIn_app (goodIn_of _ (by decide +kernel)) ggX12_accuse_X12_whyAccuse
set_option maxRecDepth 20000 in
theorem ggX12_accuse_X12_keep : GoodIn wsX12_accuse wsX12_keep := goodIn_r _ [36, 37, 38, 7, 59, 60, 61, 62, 63, 64, 65, 66, 67, 68, 69, 70, 71, 72, 73, 74, 75, 76, 77, 78, 79, 80, 81, 82, 83, 84, 85, 86, 87, 88, 89, 90, 91, 92, 93, 94, 95, 96, 97, 98, 99, 100, 101, 102, 103, 104, 105] (by decide +kernel) (by decide +kernel)
set_option maxRecDepth 20000 in
theorem gX12_accuse_X12_keep : GoodIn wsX12_accuse (wsV RX12 336 RX12 yX12_keep wsX12_keep) := goodIn_app (goodIn_of _ (by decide +kernel)) ggX12_accuse_X12_keep
set_option maxRecDepth 20000 in
theorem ggX12_accuse_X12_accuses : GoodIn wsX12_accuse wsX12_accuses := goodIn_r _ [42, 7, 43, 44, 45, 5, 46, 15, 16, 17, 18, 19, 20, 21, 22, 23, 24, 25, 47, 48, 49, 50, 51, 52, 53, 54, 55, 56, 57, 58, 26, 27, 28, 29, 30, 31, 32, 59, 60, 61, 62, 63, 64, 65, 66, 67, 68, 69, 70, 71, 72, 73, 74, 75, 76, 77, 78, 79, 80, 81, 82, 83, 84, 85, 86, 87, 88, 89, 90, 91, 92, 93, 94, 95, 96, 97, 98, 99, 100, 101, 102, 103, 104, 105] (by decide +kernel) (by decide +kernel)
set_option maxRecDepth 20000 in
theorem gX12_accuse_X12_accuses : GoodIn wsX12_accuse (wsV RX12 354 RX12 yX12_accuses wsX12_accuses) := goodIn_app (goodIn_of _ (by decide +kernel)) ggX12_accuse_X12_accuses
theorem dX12_accuse_0 : decode cX12_accuse 0 = .ok (.aload_n 0, 1) := by decide +kernel
theorem dX12_accuse_1 : decode cX12_accuse 1 = .ok (.iconst 0, 1) := by decide +kernel
theorem dX12_accuse_2 : decode cX12_accuse 2 = .ok (.putfield 1, 3) := by decide +kernel
theorem dX12_accuse_5 : decode cX12_accuse 5 = .ok (.aload_n 0, 1) := by decide +kernel
theorem dX12_accuse_6 : decode cX12_accuse 6 = .ok (.iload_n 1, 1) := by decide +kernel
theorem dX12_accuse_7 : decode cX12_accuse 7 = .ok (.invokevirtual 269, 3) := by decide +kernel
theorem dX12_accuse_10 : decode cX12_accuse 10 = .ok (.ifCond .eq 16, 3) := by decide +kernel
theorem dX12_accuse_13 : decode cX12_accuse 13 = .ok (.aload_n 0, 1) := by decide +kernel
theorem dX12_accuse_14 : decode cX12_accuse 14 = .ok (.iload_n 2, 1) := by decide +kernel
theorem dX12_accuse_15 : decode cX12_accuse 15 = .ok (.invokevirtual 269, 3) := by decide +kernel
theorem dX12_accuse_18 : decode cX12_accuse 18 = .ok (.ifCond .eq 8, 3) := by decide +kernel
theorem dX12_accuse_21 : decode cX12_accuse 21 = .ok (.iload_n 1, 1) := by decide +kernel
theorem dX12_accuse_22 : decode cX12_accuse 22 = .ok (.iload_n 2, 1) := by decide +kernel
theorem dX12_accuse_23 : decode cX12_accuse 23 = .ok (.if_icmp .ne 5, 3) := by decide +kernel
theorem dX12_accuse_26 : decode cX12_accuse 26 = .ok (.iconst (-1), 1) := by decide +kernel
theorem dX12_accuse_27 : decode cX12_accuse 27 = .ok (.ireturn, 1) := by decide +kernel
theorem dX12_accuse_28 : decode cX12_accuse 28 = .ok (.aload_n 0, 1) := by decide +kernel
theorem dX12_accuse_29 : decode cX12_accuse 29 = .ok (.iload_n 1, 1) := by decide +kernel
theorem dX12_accuse_30 : decode cX12_accuse 30 = .ok (.iload_n 2, 1) := by decide +kernel
theorem dX12_accuse_31 : decode cX12_accuse 31 = .ok (.invokevirtual 351, 3) := by decide +kernel
theorem dX12_accuse_34 : decode cX12_accuse 34 = .ok (.istore_n 3, 1) := by decide +kernel
theorem dX12_accuse_35 : decode cX12_accuse 35 = .ok (.iload_n 3, 1) := by decide +kernel
theorem dX12_accuse_36 : decode cX12_accuse 36 = .ok (.ifCond .le 5, 3) := by decide +kernel
theorem dX12_accuse_39 : decode cX12_accuse 39 = .ok (.iload_n 3, 1) := by decide +kernel
theorem dX12_accuse_40 : decode cX12_accuse 40 = .ok (.ireturn, 1) := by decide +kernel
theorem dX12_accuse_41 : decode cX12_accuse 41 = .ok (.aload_n 0, 1) := by decide +kernel
theorem dX12_accuse_42 : decode cX12_accuse 42 = .ok (.invokevirtual 336, 3) := by decide +kernel
theorem dX12_accuse_45 : decode cX12_accuse 45 = .ok (.aload_n 0, 1) := by decide +kernel
theorem dX12_accuse_46 : decode cX12_accuse 46 = .ok (.iload_n 1, 1) := by decide +kernel
theorem dX12_accuse_47 : decode cX12_accuse 47 = .ok (.iload_n 2, 1) := by decide +kernel
theorem dX12_accuse_48 : decode cX12_accuse 48 = .ok (.invokevirtual 354, 3) := by decide +kernel
theorem dX12_accuse_51 : decode cX12_accuse 51 = .ok (.iconst 0, 1) := by decide +kernel
theorem dX12_accuse_52 : decode cX12_accuse 52 = .ok (.ireturn, 1) := by decide +kernel
set_option maxRecDepth 20000 in
theorem ggX12_share_X12_whyShare : GoodIn wsX12_share wsX12_whyShare := goodIn_r _ [6, 7, 54, 55, 56, 57, 58, 59, 60, 61, 62, 63, 64, 65, 66, 67, 68, 69, 70, 71, 72, 73, 74, 75, 76, 77, 78, 79, 80, 81, 82, 83, 84, 85, 86, 87, 88, 89, 90, 91, 92, 93, 94, 95, 96, 97, 98, 99, 100] (by decide +kernel) (by decide +kernel)
set_option maxRecDepth 20000 in
theorem gX12_share_X12_whyShare : GoodIn wsX12_share (wsV RX12 357 RX12 yX12_whyShare wsX12_whyShare) := goodIn_app (goodIn_of _ (by decide +kernel)) ggX12_share_X12_whyShare
set_option maxRecDepth 20000 in
theorem ggX12_share_X12_keep : GoodIn wsX12_share wsX12_keep := goodIn_r _ [11, 12, 13, 7, 54, 55, 56, 57, 58, 59, 60, 61, 62, 63, 64, 65, 66, 67, 68, 69, 70, 71, 72, 73, 74, 75, 76, 77, 78, 79, 80, 81, 82, 83, 84, 85, 86, 87, 88, 89, 90, 91, 92, 93, 94, 95, 96, 97, 98, 99, 100] (by decide +kernel) (by decide +kernel)
set_option maxRecDepth 20000 in
theorem gX12_share_X12_keep : GoodIn wsX12_share (wsV RX12 336 RX12 yX12_keep wsX12_keep) := goodIn_app (goodIn_of _ (by decide +kernel)) ggX12_share_X12_keep
set_option maxRecDepth 20000 in
theorem ggX12_share_X12_sharesNow : GoodIn wsX12_share wsX12_sharesNow := goodIn_r _ [17, 7, 18, 19, 20, 21, 5, 22, 23, 24, 25, 26, 27, 28, 29, 30, 31, 32, 33, 34, 35, 36, 37, 38, 39, 40, 41, 42, 43, 44, 45, 46, 47, 48, 49, 54, 55, 56, 57, 58, 59, 60, 61, 62, 63, 64, 65, 66, 67, 68, 69, 70, 71, 72, 73, 74, 75, 76, 77, 78, 79, 80, 81, 82, 83, 84, 85, 86, 87, 88, 89, 90, 91, 92, 93, 94, 95, 96, 97, 98, 99, 100] (by decide +kernel) (by decide +kernel)
set_option maxRecDepth 20000 in
theorem gX12_share_X12_sharesNow : GoodIn wsX12_share (wsV RX12 360 RX12 yX12_sharesNow wsX12_sharesNow) := goodIn_app (goodIn_of _ (by decide +kernel)) ggX12_share_X12_sharesNow
set_option maxRecDepth 20000 in
theorem ggX12_share_X12_ends : GoodIn wsX12_share wsX12_ends := goodIn_r _ [53, 7, 24, 54, 55, 56, 57, 58, 59, 60, 61, 62, 63, 64, 65, 66, 67, 68, 69, 70, 71, 72, 73, 74, 75, 76, 77, 78, 79, 80, 81, 82, 83, 84, 85, 86, 87, 88, 89, 90, 91, 92, 93, 94, 95, 96, 97, 98, 99, 100] (by decide +kernel) (by decide +kernel)
set_option maxRecDepth 20000 in
theorem gX12_share_X12_ends : GoodIn wsX12_share (wsV RX12 363 RX12 yX12_ends wsX12_ends) := goodIn_app (goodIn_of _ (by decide +kernel)) ggX12_share_X12_ends
theorem dX12_share_0 : decode cX12_share 0 = .ok (.aload_n 0, 1) := by decide +kernel
theorem dX12_share_1 : decode cX12_share 1 = .ok (.iconst 0, 1) := by decide +kernel
theorem dX12_share_2 : decode cX12_share 2 = .ok (.putfield 1, 3) := by decide +kernel
theorem dX12_share_5 : decode cX12_share 5 = .ok (.aload_n 0, 1) := by decide +kernel
theorem dX12_share_6 : decode cX12_share 6 = .ok (.invokevirtual 357, 3) := by decide +kernel
theorem dX12_share_9 : decode cX12_share 9 = .ok (.istore_n 1, 1) := by decide +kernel
theorem dX12_share_10 : decode cX12_share 10 = .ok (.iload_n 1, 1) := by decide +kernel
theorem dX12_share_11 : decode cX12_share 11 = .ok (.ifCond .le 5, 3) := by decide +kernel
theorem dX12_share_14 : decode cX12_share 14 = .ok (.iload_n 1, 1) := by decide +kernel
theorem dX12_share_15 : decode cX12_share 15 = .ok (.ireturn, 1) := by decide +kernel
theorem dX12_share_16 : decode cX12_share 16 = .ok (.aload_n 0, 1) := by decide +kernel
theorem dX12_share_17 : decode cX12_share 17 = .ok (.invokevirtual 336, 3) := by decide +kernel
theorem dX12_share_20 : decode cX12_share 20 = .ok (.aload_n 0, 1) := by decide +kernel
theorem dX12_share_21 : decode cX12_share 21 = .ok (.invokevirtual 360, 3) := by decide +kernel
theorem dX12_share_24 : decode cX12_share 24 = .ok (.aload_n 0, 1) := by decide +kernel
theorem dX12_share_25 : decode cX12_share 25 = .ok (.invokevirtual 363, 3) := by decide +kernel
theorem dX12_share_28 : decode cX12_share 28 = .ok (.iconst 0, 1) := by decide +kernel
theorem dX12_share_29 : decode cX12_share 29 = .ok (.ireturn, 1) := by decide +kernel
theorem dX12_keep_0 : decode cX12_keep 0 = .ok (.aload_n 0, 1) := by decide +kernel
theorem dX12_keep_1 : decode cX12_keep 1 = .ok (.getfield 256, 3) := by decide +kernel
theorem dX12_keep_4 : decode cX12_keep 4 = .ok (.bipush 8, 2) := by decide +kernel
theorem dX12_keep_6 : decode cX12_keep 6 = .ok (.if_icmp .ne 39, 3) := by decide +kernel
theorem dX12_keep_9 : decode cX12_keep 9 = .ok (.iconst 0, 1) := by decide +kernel
theorem dX12_keep_10 : decode cX12_keep 10 = .ok (.istore_n 1, 1) := by decide +kernel
theorem dX12_keep_11 : decode cX12_keep 11 = .ok (.iload_n 1, 1) := by decide +kernel
theorem dX12_keep_12 : decode cX12_keep 12 = .ok (.sipush 245, 3) := by decide +kernel
theorem dX12_keep_15 : decode cX12_keep 15 = .ok (.if_icmp .ge 24, 3) := by decide +kernel
theorem dX12_keep_18 : decode cX12_keep 18 = .ok (.aload_n 0, 1) := by decide +kernel
theorem dX12_keep_19 : decode cX12_keep 19 = .ok (.getfield 62, 3) := by decide +kernel
theorem dX12_keep_22 : decode cX12_keep 22 = .ok (.iload_n 1, 1) := by decide +kernel
theorem dX12_keep_23 : decode cX12_keep 23 = .ok (.aload_n 0, 1) := by decide +kernel
theorem dX12_keep_24 : decode cX12_keep 24 = .ok (.getfield 62, 3) := by decide +kernel
theorem dX12_keep_27 : decode cX12_keep 27 = .ok (.iload_n 1, 1) := by decide +kernel
theorem dX12_keep_28 : decode cX12_keep 28 = .ok (.bipush 35, 2) := by decide +kernel
theorem dX12_keep_30 : decode cX12_keep 30 = .ok (.iadd, 1) := by decide +kernel
theorem dX12_keep_31 : decode cX12_keep 31 = .ok (.iaload, 1) := by decide +kernel
theorem dX12_keep_32 : decode cX12_keep 32 = .ok (.iastore, 1) := by decide +kernel
theorem dX12_keep_33 : decode cX12_keep 33 = .ok (.iinc 1 1, 3) := by decide +kernel
theorem dX12_keep_36 : decode cX12_keep 36 = .ok (.goto (-25), 3) := by decide +kernel
theorem dX12_keep_39 : decode cX12_keep 39 = .ok (.aload_n 0, 1) := by decide +kernel
theorem dX12_keep_40 : decode cX12_keep 40 = .ok (.bipush 7, 2) := by decide +kernel
theorem dX12_keep_42 : decode cX12_keep 42 = .ok (.putfield 256, 3) := by decide +kernel
theorem dX12_keep_45 : decode cX12_keep 45 = .ok (.iconst 0, 1) := by decide +kernel
theorem dX12_keep_46 : decode cX12_keep 46 = .ok (.istore_n 1, 1) := by decide +kernel
theorem dX12_keep_47 : decode cX12_keep 47 = .ok (.iload_n 1, 1) := by decide +kernel
theorem dX12_keep_48 : decode cX12_keep 48 = .ok (.bipush 35, 2) := by decide +kernel
theorem dX12_keep_50 : decode cX12_keep 50 = .ok (.if_icmp .ge 33, 3) := by decide +kernel
theorem dX12_keep_53 : decode cX12_keep 53 = .ok (.aload_n 0, 1) := by decide +kernel
theorem dX12_keep_54 : decode cX12_keep 54 = .ok (.getfield 62, 3) := by decide +kernel
theorem dX12_keep_57 : decode cX12_keep 57 = .ok (.bipush 35, 2) := by decide +kernel
theorem dX12_keep_59 : decode cX12_keep 59 = .ok (.aload_n 0, 1) := by decide +kernel
theorem dX12_keep_60 : decode cX12_keep 60 = .ok (.getfield 256, 3) := by decide +kernel
theorem dX12_keep_63 : decode cX12_keep 63 = .ok (.imul, 1) := by decide +kernel
theorem dX12_keep_64 : decode cX12_keep 64 = .ok (.iload_n 1, 1) := by decide +kernel
theorem dX12_keep_65 : decode cX12_keep 65 = .ok (.iadd, 1) := by decide +kernel
theorem dX12_keep_66 : decode cX12_keep 66 = .ok (.aload_n 0, 1) := by decide +kernel
theorem dX12_keep_67 : decode cX12_keep 67 = .ok (.getfield 33, 3) := by decide +kernel
theorem dX12_keep_70 : decode cX12_keep 70 = .ok (.sipush 211, 3) := by decide +kernel
theorem dX12_keep_73 : decode cX12_keep 73 = .ok (.iload_n 1, 1) := by decide +kernel
theorem dX12_keep_74 : decode cX12_keep 74 = .ok (.iadd, 1) := by decide +kernel
theorem dX12_keep_75 : decode cX12_keep 75 = .ok (.iaload, 1) := by decide +kernel
theorem dX12_keep_76 : decode cX12_keep 76 = .ok (.iastore, 1) := by decide +kernel
theorem dX12_keep_77 : decode cX12_keep 77 = .ok (.iinc 1 1, 3) := by decide +kernel
theorem dX12_keep_80 : decode cX12_keep 80 = .ok (.goto (-33), 3) := by decide +kernel
theorem dX12_keep_83 : decode cX12_keep 83 = .ok (.aload_n 0, 1) := by decide +kernel
theorem dX12_keep_84 : decode cX12_keep 84 = .ok (.dup, 1) := by decide +kernel
theorem dX12_keep_85 : decode cX12_keep 85 = .ok (.getfield 256, 3) := by decide +kernel
theorem dX12_keep_88 : decode cX12_keep 88 = .ok (.iconst 1, 1) := by decide +kernel
theorem dX12_keep_89 : decode cX12_keep 89 = .ok (.iadd, 1) := by decide +kernel
theorem dX12_keep_90 : decode cX12_keep 90 = .ok (.putfield 256, 3) := by decide +kernel
theorem dX12_keep_93 : decode cX12_keep 93 = .ok (.return_, 1) := by decide +kernel
theorem dX12_undo_0 : decode cX12_undo 0 = .ok (.aload_n 0, 1) := by decide +kernel
theorem dX12_undo_1 : decode cX12_undo 1 = .ok (.iconst 0, 1) := by decide +kernel
theorem dX12_undo_2 : decode cX12_undo 2 = .ok (.putfield 1, 3) := by decide +kernel
theorem dX12_undo_5 : decode cX12_undo 5 = .ok (.aload_n 0, 1) := by decide +kernel
theorem dX12_undo_6 : decode cX12_undo 6 = .ok (.getfield 256, 3) := by decide +kernel
theorem dX12_undo_9 : decode cX12_undo 9 = .ok (.ifCond .ne 5, 3) := by decide +kernel
theorem dX12_undo_12 : decode cX12_undo 12 = .ok (.iconst (-1), 1) := by decide +kernel
theorem dX12_undo_13 : decode cX12_undo 13 = .ok (.ireturn, 1) := by decide +kernel
theorem dX12_undo_14 : decode cX12_undo 14 = .ok (.aload_n 0, 1) := by decide +kernel
theorem dX12_undo_15 : decode cX12_undo 15 = .ok (.dup, 1) := by decide +kernel
theorem dX12_undo_16 : decode cX12_undo 16 = .ok (.getfield 256, 3) := by decide +kernel
theorem dX12_undo_19 : decode cX12_undo 19 = .ok (.iconst 1, 1) := by decide +kernel
theorem dX12_undo_20 : decode cX12_undo 20 = .ok (.isub, 1) := by decide +kernel
theorem dX12_undo_21 : decode cX12_undo 21 = .ok (.putfield 256, 3) := by decide +kernel
theorem dX12_undo_24 : decode cX12_undo 24 = .ok (.iconst 0, 1) := by decide +kernel
theorem dX12_undo_25 : decode cX12_undo 25 = .ok (.istore_n 1, 1) := by decide +kernel
theorem dX12_undo_26 : decode cX12_undo 26 = .ok (.iload_n 1, 1) := by decide +kernel
theorem dX12_undo_27 : decode cX12_undo 27 = .ok (.bipush 35, 2) := by decide +kernel
theorem dX12_undo_29 : decode cX12_undo 29 = .ok (.if_icmp .ge 33, 3) := by decide +kernel
theorem dX12_undo_32 : decode cX12_undo 32 = .ok (.aload_n 0, 1) := by decide +kernel
theorem dX12_undo_33 : decode cX12_undo 33 = .ok (.getfield 33, 3) := by decide +kernel
theorem dX12_undo_36 : decode cX12_undo 36 = .ok (.sipush 211, 3) := by decide +kernel
theorem dX12_undo_39 : decode cX12_undo 39 = .ok (.iload_n 1, 1) := by decide +kernel
theorem dX12_undo_40 : decode cX12_undo 40 = .ok (.iadd, 1) := by decide +kernel
theorem dX12_undo_41 : decode cX12_undo 41 = .ok (.aload_n 0, 1) := by decide +kernel
theorem dX12_undo_42 : decode cX12_undo 42 = .ok (.getfield 62, 3) := by decide +kernel
theorem dX12_undo_45 : decode cX12_undo 45 = .ok (.bipush 35, 2) := by decide +kernel
theorem dX12_undo_47 : decode cX12_undo 47 = .ok (.aload_n 0, 1) := by decide +kernel
theorem dX12_undo_48 : decode cX12_undo 48 = .ok (.getfield 256, 3) := by decide +kernel
theorem dX12_undo_51 : decode cX12_undo 51 = .ok (.imul, 1) := by decide +kernel
theorem dX12_undo_52 : decode cX12_undo 52 = .ok (.iload_n 1, 1) := by decide +kernel
theorem dX12_undo_53 : decode cX12_undo 53 = .ok (.iadd, 1) := by decide +kernel
theorem dX12_undo_54 : decode cX12_undo 54 = .ok (.iaload, 1) := by decide +kernel
theorem dX12_undo_55 : decode cX12_undo 55 = .ok (.iastore, 1) := by decide +kernel
theorem dX12_undo_56 : decode cX12_undo 56 = .ok (.iinc 1 1, 3) := by decide +kernel
theorem dX12_undo_59 : decode cX12_undo 59 = .ok (.goto (-33), 3) := by decide +kernel
theorem dX12_undo_62 : decode cX12_undo 62 = .ok (.aload_n 0, 1) := by decide +kernel
theorem dX12_undo_63 : decode cX12_undo 63 = .ok (.getfield 256, 3) := by decide +kernel
theorem dX12_undo_66 : decode cX12_undo 66 = .ok (.ireturn, 1) := by decide +kernel
theorem dX12_tries_0 : decode cX12_tries 0 = .ok (.iconst 0, 1) := by decide +kernel
theorem dX12_tries_1 : decode cX12_tries 1 = .ok (.istore_n 1, 1) := by decide +kernel
theorem dX12_tries_2 : decode cX12_tries 2 = .ok (.iload_n 1, 1) := by decide +kernel
theorem dX12_tries_3 : decode cX12_tries 3 = .ok (.bipush 35, 2) := by decide +kernel
theorem dX12_tries_5 : decode cX12_tries 5 = .ok (.if_icmp .ge 25, 3) := by decide +kernel
theorem dX12_tries_8 : decode cX12_tries 8 = .ok (.aload_n 0, 1) := by decide +kernel
theorem dX12_tries_9 : decode cX12_tries 9 = .ok (.getfield 65, 3) := by decide +kernel
theorem dX12_tries_12 : decode cX12_tries 12 = .ok (.iload_n 1, 1) := by decide +kernel
theorem dX12_tries_13 : decode cX12_tries 13 = .ok (.aload_n 0, 1) := by decide +kernel
theorem dX12_tries_14 : decode cX12_tries 14 = .ok (.getfield 33, 3) := by decide +kernel
theorem dX12_tries_17 : decode cX12_tries 17 = .ok (.sipush 211, 3) := by decide +kernel
theorem dX12_tries_20 : decode cX12_tries 20 = .ok (.iload_n 1, 1) := by decide +kernel
theorem dX12_tries_21 : decode cX12_tries 21 = .ok (.iadd, 1) := by decide +kernel
theorem dX12_tries_22 : decode cX12_tries 22 = .ok (.iaload, 1) := by decide +kernel
theorem dX12_tries_23 : decode cX12_tries 23 = .ok (.iastore, 1) := by decide +kernel
theorem dX12_tries_24 : decode cX12_tries 24 = .ok (.iinc 1 1, 3) := by decide +kernel
theorem dX12_tries_27 : decode cX12_tries 27 = .ok (.goto (-25), 3) := by decide +kernel
theorem dX12_tries_30 : decode cX12_tries 30 = .ok (.return_, 1) := by decide +kernel
theorem dX12_back_0 : decode cX12_back 0 = .ok (.iconst 0, 1) := by decide +kernel
theorem dX12_back_1 : decode cX12_back 1 = .ok (.istore_n 1, 1) := by decide +kernel
theorem dX12_back_2 : decode cX12_back 2 = .ok (.iload_n 1, 1) := by decide +kernel
theorem dX12_back_3 : decode cX12_back 3 = .ok (.bipush 35, 2) := by decide +kernel
theorem dX12_back_5 : decode cX12_back 5 = .ok (.if_icmp .ge 25, 3) := by decide +kernel
theorem dX12_back_8 : decode cX12_back 8 = .ok (.aload_n 0, 1) := by decide +kernel
theorem dX12_back_9 : decode cX12_back 9 = .ok (.getfield 33, 3) := by decide +kernel
theorem dX12_back_12 : decode cX12_back 12 = .ok (.sipush 211, 3) := by decide +kernel
theorem dX12_back_15 : decode cX12_back 15 = .ok (.iload_n 1, 1) := by decide +kernel
theorem dX12_back_16 : decode cX12_back 16 = .ok (.iadd, 1) := by decide +kernel
theorem dX12_back_17 : decode cX12_back 17 = .ok (.aload_n 0, 1) := by decide +kernel
theorem dX12_back_18 : decode cX12_back 18 = .ok (.getfield 65, 3) := by decide +kernel
theorem dX12_back_21 : decode cX12_back 21 = .ok (.iload_n 1, 1) := by decide +kernel
theorem dX12_back_22 : decode cX12_back 22 = .ok (.iaload, 1) := by decide +kernel
theorem dX12_back_23 : decode cX12_back 23 = .ok (.iastore, 1) := by decide +kernel
theorem dX12_back_24 : decode cX12_back 24 = .ok (.iinc 1 1, 3) := by decide +kernel
theorem dX12_back_27 : decode cX12_back 27 = .ok (.goto (-25), 3) := by decide +kernel
theorem dX12_back_30 : decode cX12_back 30 = .ok (.return_, 1) := by decide +kernel
set_option maxRecDepth 20000 in
theorem ggX12_far_X12_isMan : GoodIn wsX12_far wsX12_isMan := goodIn_r _ [6, 7, 8, 9, 5, 10, 37, 38, 39, 40, 41, 42, 43, 44, 45, 46, 47, 48, 49, 50, 51, 52, 53, 54, 55, 56, 57, 58, 59, 60, 61, 62, 63, 64, 65, 66, 67, 68, 69, 70, 71, 72, 73, 74, 75, 76, 77, 78, 79, 80, 81, 82, 83] (by decide +kernel) (by decide +kernel)
set_option maxRecDepth 20000 in
theorem gX12_far_X12_isMan : GoodIn wsX12_far (wsV RX12 269 RX12 yX12_isMan wsX12_isMan) := goodIn_app (goodIn_of _ (by decide +kernel)) ggX12_far_X12_isMan
set_option maxRecDepth 20000 in
theorem ggX12_far_X12_isCall : GoodIn wsX12_far wsX12_isCall := goodIn_r _ [14, 7, 15, 16, 17, 5, 18, 8, 9, 10, 37, 38, 39, 40, 41, 42, 43, 44, 45, 46, 47, 48, 49, 50, 51, 52, 53, 54, 55, 56, 57, 58, 59, 60, 61, 62, 63, 64, 65, 66, 67, 68, 69, 70, 71, 72, 73, 74, 75, 76, 77, 78, 79, 80, 81, 82, 83] (by decide +kernel) (by decide +kernel)
set_option maxRecDepth 20000 in
theorem gX12_far_X12_isCall : GoodIn wsX12_far (wsV RX12 276 RX12 yX12_isCall wsX12_isCall) := goodIn_app (goodIn_of _ (by decide +kernel)) ggX12_far_X12_isCall
set_option maxRecDepth 20000 in
theorem ggX12_far_X12_asNow : GoodIn wsX12_far wsX12_asNow := goodIn_r _ [22, 7, 23, 24, 25, 5, 26, 27, 28, 29, 37, 38, 39, 40, 41, 42, 43, 44, 45, 46, 47, 48, 49, 50, 51, 52, 53, 54, 55, 56, 57, 58, 59, 60, 61, 62, 63, 64, 65, 66, 67, 68, 69, 70, 71, 72, 73, 74, 75, 76, 77, 78, 79, 80, 81, 82, 83] (by decide +kernel) (by decide +kernel)
set_option maxRecDepth 20000 in
theorem gX12_far_X12_asNow : GoodIn wsX12_far (wsV RX12 318 RX12 yX12_asNow wsX12_asNow) := goodIn_app (goodIn_of _ (by decide +kernel)) ggX12_far_X12_asNow
set_option maxRecDepth 20000 in
theorem ggX12_far_X12_farOf : GoodIn wsX12_far wsX12_farOf := goodIn_r _ [33, 27, 7, 28, 34, 35, 5, 36, 37, 38, 39, 40, 41, 42, 43, 44, 45, 46, 47, 48, 49, 50, 51, 52, 53, 54, 55, 56, 57, 58, 59, 60, 61, 62, 63, 64, 65, 66, 67, 68, 69, 70, 71, 72, 73, 74, 75, 76, 77, 78, 79, 80, 81, 82, 83] (by decide +kernel) (by decide +kernel)
set_option maxRecDepth 20000 in
theorem gX12_far_X12_farOf : GoodIn wsX12_far (wsV RX12 289 RX12 yX12_farOf wsX12_farOf) := goodIn_app (goodIn_of _ (by decide +kernel)) ggX12_far_X12_farOf
theorem dX12_far_0 : decode cX12_far 0 = .ok (.aload_n 0, 1) := by decide +kernel
theorem dX12_far_1 : decode cX12_far 1 = .ok (.iconst 0, 1) := by decide +kernel
theorem dX12_far_2 : decode cX12_far 2 = .ok (.putfield 1, 3) := by decide +kernel
theorem dX12_far_5 : decode cX12_far 5 = .ok (.aload_n 0, 1) := by decide +kernel
theorem dX12_far_6 : decode cX12_far 6 = .ok (.iload_n 1, 1) := by decide +kernel
theorem dX12_far_7 : decode cX12_far 7 = .ok (.invokevirtual 269, 3) := by decide +kernel
theorem dX12_far_10 : decode cX12_far 10 = .ok (.ifCond .eq 12, 3) := by decide +kernel
theorem dX12_far_13 : decode cX12_far 13 = .ok (.aload_n 0, 1) := by decide +kernel
theorem dX12_far_14 : decode cX12_far 14 = .ok (.iload_n 2, 1) := by decide +kernel
theorem dX12_far_15 : decode cX12_far 15 = .ok (.iload_n 3, 1) := by decide +kernel
theorem dX12_far_16 : decode cX12_far 16 = .ok (.invokevirtual 276, 3) := by decide +kernel
theorem dX12_far_19 : decode cX12_far 19 = .ok (.ifCond .ne 5, 3) := by decide +kernel
theorem dX12_far_22 : decode cX12_far 22 = .ok (.iconst (-1), 1) := by decide +kernel
theorem dX12_far_23 : decode cX12_far 23 = .ok (.ireturn, 1) := by decide +kernel
theorem dX12_far_24 : decode cX12_far 24 = .ok (.aload_n 0, 1) := by decide +kernel
theorem dX12_far_25 : decode cX12_far 25 = .ok (.invokevirtual 318, 3) := by decide +kernel
theorem dX12_far_28 : decode cX12_far 28 = .ok (.aload_n 0, 1) := by decide +kernel
theorem dX12_far_29 : decode cX12_far 29 = .ok (.iload_n 1, 1) := by decide +kernel
theorem dX12_far_30 : decode cX12_far 30 = .ok (.iload_n 2, 1) := by decide +kernel
theorem dX12_far_31 : decode cX12_far 31 = .ok (.iload_n 3, 1) := by decide +kernel
theorem dX12_far_32 : decode cX12_far 32 = .ok (.invokevirtual 289, 3) := by decide +kernel
theorem dX12_far_35 : decode cX12_far 35 = .ok (.ireturn, 1) := by decide +kernel
set_option maxRecDepth 20000 in
theorem ggX12_hears_X12_isMan : GoodIn wsX12_hears wsX12_isMan := goodIn_r _ [6, 7, 8, 9, 5, 10, 49, 50, 51, 52, 53, 54, 55, 56, 57, 58, 59, 60, 61, 62, 63, 64, 65, 66, 67, 68, 69, 70, 71, 72, 73, 74, 75, 76, 77, 78, 79, 80, 81, 82, 83, 84, 85, 86, 87, 88, 89, 90, 91, 92, 93, 94, 95] (by decide +kernel) (by decide +kernel)
set_option maxRecDepth 20000 in
theorem gX12_hears_X12_isMan : GoodIn wsX12_hears (wsV RX12 269 RX12 yX12_isMan wsX12_isMan) := goodIn_app (goodIn_of _ (by decide +kernel)) ggX12_hears_X12_isMan
set_option maxRecDepth 20000 in
theorem ggX12_hears_X12_isCall : GoodIn wsX12_hears wsX12_isCall := goodIn_r _ [14, 7, 15, 16, 17, 5, 18, 8, 9, 10, 49, 50, 51, 52, 53, 54, 55, 56, 57, 58, 59, 60, 61, 62, 63, 64, 65, 66, 67, 68, 69, 70, 71, 72, 73, 74, 75, 76, 77, 78, 79, 80, 81, 82, 83, 84, 85, 86, 87, 88, 89, 90, 91, 92, 93, 94, 95] (by decide +kernel) (by decide +kernel)
set_option maxRecDepth 20000 in
theorem gX12_hears_X12_isCall : GoodIn wsX12_hears (wsV RX12 276 RX12 yX12_isCall wsX12_isCall) := goodIn_app (goodIn_of _ (by decide +kernel)) ggX12_hears_X12_isCall
set_option maxRecDepth 20000 in
theorem ggX12_hears_X12_asNow : GoodIn wsX12_hears wsX12_asNow := goodIn_r _ [22, 7, 23, 24, 25, 5, 26, 27, 28, 29, 49, 50, 51, 52, 53, 54, 55, 56, 57, 58, 59, 60, 61, 62, 63, 64, 65, 66, 67, 68, 69, 70, 71, 72, 73, 74, 75, 76, 77, 78, 79, 80, 81, 82, 83, 84, 85, 86, 87, 88, 89, 90, 91, 92, 93, 94, 95] (by decide +kernel) (by decide +kernel)
set_option maxRecDepth 20000 in
theorem gX12_hears_X12_asNow : GoodIn wsX12_hears (wsV RX12 318 RX12 yX12_asNow wsX12_asNow) := goodIn_app (goodIn_of _ (by decide +kernel)) ggX12_hears_X12_asNow
set_option maxRecDepth 20000 in
theorem ggX12_hears_X12_canHear : GoodIn wsX12_hears wsX12_canHear := goodIn_r _ [33, 7, 29, 27, 34, 35, 36, 5, 37, 28, 38, 39, 40, 41, 42, 43, 44, 45, 46, 47, 48, 49, 50, 51, 52, 53, 54, 55, 56, 57, 58, 59, 60, 61, 62, 63, 64, 65, 66, 67, 68, 69, 70, 71, 72, 73, 74, 75, 76, 77, 78, 79, 80, 81, 82, 83, 84, 85, 86, 87, 88, 89, 90, 91, 92, 93, 94, 95] (by decide +kernel) (by decide +kernel)
set_option maxRecDepth 20000 in
theorem gX12_hears_X12_canHear : GoodIn wsX12_hears (wsV RX12 293 RX12 yX12_canHear wsX12_canHear) := goodIn_app (goodIn_of _ (by decide +kernel)) ggX12_hears_X12_canHear
theorem dX12_hears_0 : decode cX12_hears 0 = .ok (.aload_n 0, 1) := by decide +kernel
theorem dX12_hears_1 : decode cX12_hears 1 = .ok (.iconst 0, 1) := by decide +kernel
theorem dX12_hears_2 : decode cX12_hears 2 = .ok (.putfield 1, 3) := by decide +kernel
theorem dX12_hears_5 : decode cX12_hears 5 = .ok (.aload_n 0, 1) := by decide +kernel
theorem dX12_hears_6 : decode cX12_hears 6 = .ok (.iload_n 1, 1) := by decide +kernel
theorem dX12_hears_7 : decode cX12_hears 7 = .ok (.invokevirtual 269, 3) := by decide +kernel
theorem dX12_hears_10 : decode cX12_hears 10 = .ok (.ifCond .eq 12, 3) := by decide +kernel
theorem dX12_hears_13 : decode cX12_hears 13 = .ok (.aload_n 0, 1) := by decide +kernel
theorem dX12_hears_14 : decode cX12_hears 14 = .ok (.iload_n 2, 1) := by decide +kernel
theorem dX12_hears_15 : decode cX12_hears 15 = .ok (.iload_n 3, 1) := by decide +kernel
theorem dX12_hears_16 : decode cX12_hears 16 = .ok (.invokevirtual 276, 3) := by decide +kernel
theorem dX12_hears_19 : decode cX12_hears 19 = .ok (.ifCond .ne 5, 3) := by decide +kernel
theorem dX12_hears_22 : decode cX12_hears 22 = .ok (.iconst (-1), 1) := by decide +kernel
theorem dX12_hears_23 : decode cX12_hears 23 = .ok (.ireturn, 1) := by decide +kernel
theorem dX12_hears_24 : decode cX12_hears 24 = .ok (.aload_n 0, 1) := by decide +kernel
theorem dX12_hears_25 : decode cX12_hears 25 = .ok (.invokevirtual 318, 3) := by decide +kernel
theorem dX12_hears_28 : decode cX12_hears 28 = .ok (.aload_n 0, 1) := by decide +kernel
theorem dX12_hears_29 : decode cX12_hears 29 = .ok (.iload_n 1, 1) := by decide +kernel
theorem dX12_hears_30 : decode cX12_hears 30 = .ok (.iload_n 2, 1) := by decide +kernel
theorem dX12_hears_31 : decode cX12_hears 31 = .ok (.iload_n 3, 1) := by decide +kernel
theorem dX12_hears_32 : decode cX12_hears 32 = .ok (.invokevirtual 293, 3) := by decide +kernel
theorem dX12_hears_35 : decode cX12_hears 35 = .ok (.ifCond .eq 7, 3) := by decide +kernel
theorem dX12_hears_38 : decode cX12_hears 38 = .ok (.iconst 1, 1) := by decide +kernel
theorem dX12_hears_39 : decode cX12_hears 39 = .ok (.goto 4, 3) := by decide +kernel
theorem dX12_hears_42 : decode cX12_hears 42 = .ok (.iconst 0, 1) := by decide +kernel
theorem dX12_hears_43 : decode cX12_hears 43 = .ok (.ireturn, 1) := by decide +kernel
set_option maxRecDepth 20000 in
theorem ggX12_who_X12_isCall : GoodIn wsX12_who wsX12_isCall := goodIn_r _ [6, 7, 8, 9, 10, 5, 11, 12, 13, 14, 49, 50, 51, 52, 53, 54, 55, 56, 57, 58, 59, 60, 61, 62, 63, 64, 65, 66, 67, 68, 69, 70, 71, 72, 73, 74, 75, 76, 77, 78, 79, 80, 81, 82, 83, 84, 85, 86, 87, 88, 89, 90, 91, 92, 93, 94, 95] (by decide +kernel) (by decide +kernel)
set_option maxRecDepth 20000 in
theorem gX12_who_X12_isCall : GoodIn wsX12_who (wsV RX12 276 RX12 yX12_isCall wsX12_isCall) := goodIn_app (goodIn_of _ (by decide +kernel)) ggX12_who_X12_isCall
set_option maxRecDepth 20000 in
theorem ggX12_who_X12_asNow : GoodIn wsX12_who wsX12_asNow := goodIn_r _ [18, 7, 19, 20, 21, 5, 22, 23, 24, 25, 49, 50, 51, 52, 53, 54, 55, 56, 57, 58, 59, 60, 61, 62, 63, 64, 65, 66, 67, 68, 69, 70, 71, 72, 73, 74, 75, 76, 77, 78, 79, 80, 81, 82, 83, 84, 85, 86, 87, 88, 89, 90, 91, 92, 93, 94, 95] (by decide +kernel) (by decide +kernel)
set_option maxRecDepth 20000 in
theorem gX12_who_X12_asNow : GoodIn wsX12_who (wsV RX12 318 RX12 yX12_asNow wsX12_asNow) := goodIn_app (goodIn_of _ (by decide +kernel)) ggX12_who_X12_asNow
set_option maxRecDepth 20000 in
theorem ggX12_who_X12_whoHears : GoodIn wsX12_who wsX12_whoHears := goodIn_r _ [29, 7, 30, 31, 32, 5, 33, 25, 23, 34, 35, 36, 37, 24, 38, 39, 40, 41, 42, 43, 44, 45, 46, 47, 48, 49, 50, 51, 52, 53, 54, 55, 56, 57, 58, 59, 60, 61, 62, 63, 64, 65, 66, 67, 68, 69, 70, 71, 72, 73, 74, 75, 76, 77, 78, 79, 80, 81, 82, 83, 84, 85, 86, 87, 88, 89, 90, 91, 92, 93, 94, 95] (by decide +kernel) (by decide +kernel)
set_option maxRecDepth 20000 in
theorem gX12_who_X12_whoHears : GoodIn wsX12_who (wsV RX12 296 RX12 yX12_whoHears wsX12_whoHears) := goodIn_app (goodIn_of _ (by decide +kernel)) ggX12_who_X12_whoHears
theorem dX12_who_0 : decode cX12_who 0 = .ok (.aload_n 0, 1) := by decide +kernel
theorem dX12_who_1 : decode cX12_who 1 = .ok (.iconst 0, 1) := by decide +kernel
theorem dX12_who_2 : decode cX12_who 2 = .ok (.putfield 1, 3) := by decide +kernel
theorem dX12_who_5 : decode cX12_who 5 = .ok (.aload_n 0, 1) := by decide +kernel
theorem dX12_who_6 : decode cX12_who 6 = .ok (.iload_n 1, 1) := by decide +kernel
theorem dX12_who_7 : decode cX12_who 7 = .ok (.iload_n 2, 1) := by decide +kernel
theorem dX12_who_8 : decode cX12_who 8 = .ok (.invokevirtual 276, 3) := by decide +kernel
theorem dX12_who_11 : decode cX12_who 11 = .ok (.ifCond .ne 5, 3) := by decide +kernel
theorem dX12_who_14 : decode cX12_who 14 = .ok (.iconst (-1), 1) := by decide +kernel
theorem dX12_who_15 : decode cX12_who 15 = .ok (.ireturn, 1) := by decide +kernel
theorem dX12_who_16 : decode cX12_who 16 = .ok (.aload_n 0, 1) := by decide +kernel
theorem dX12_who_17 : decode cX12_who 17 = .ok (.invokevirtual 318, 3) := by decide +kernel
theorem dX12_who_20 : decode cX12_who 20 = .ok (.aload_n 0, 1) := by decide +kernel
theorem dX12_who_21 : decode cX12_who 21 = .ok (.iload_n 1, 1) := by decide +kernel
theorem dX12_who_22 : decode cX12_who 22 = .ok (.iload_n 2, 1) := by decide +kernel
theorem dX12_who_23 : decode cX12_who 23 = .ok (.invokevirtual 296, 3) := by decide +kernel
theorem dX12_who_26 : decode cX12_who 26 = .ok (.ireturn, 1) := by decide +kernel
set_option maxRecDepth 20000 in
theorem ggX12_first_X12_isFlight : GoodIn wsX12_first wsX12_isFlight := goodIn_r _ [6, 7, 8, 9, 5, 10, 53, 54, 55, 56, 57, 58, 59, 60, 61, 62, 63, 64, 65, 66, 67, 68, 69, 70, 71, 72, 73, 74, 75, 76, 77, 78, 79, 80, 81, 82, 83, 84, 85, 86, 87, 88, 89, 90, 91, 92, 93, 94, 95, 96, 97, 98, 99] (by decide +kernel) (by decide +kernel)
set_option maxRecDepth 20000 in
theorem gX12_first_X12_isFlight : GoodIn wsX12_first (wsV RX12 259 RX12 yX12_isFlight wsX12_isFlight) := goodIn_app (goodIn_of _ (by decide +kernel)) ggX12_first_X12_isFlight
set_option maxRecDepth 20000 in
theorem ggX12_first_X12_isIn : GoodIn wsX12_first wsX12_isIn := goodIn_r _ [10] (by decide +kernel) (by decide +kernel)
set_option maxRecDepth 20000 in
theorem gX12_first_X12_isIn : GoodIn wsX12_first (va_wsS RX12 191 yX12_isIn wsX12_isIn) := goodIn_app (goodIn_of _ (by decide +kernel)) ggX12_first_X12_isIn
set_option maxRecDepth 20000 in
theorem ggX12_first_X12_asNow : GoodIn wsX12_first wsX12_asNow := goodIn_r _ [14, 7, 15, 16, 17, 5, 18, 19, 20, 21, 53, 54, 55, 56, 57, 58, 59, 60, 61, 62, 63, 64, 65, 66, 67, 68, 69, 70, 71, 72, 73, 74, 75, 76, 77, 78, 79, 80, 81, 82, 83, 84, 85, 86, 87, 88, 89, 90, 91, 92, 93, 94, 95, 96, 97, 98, 99] (by decide +kernel) (by decide +kernel)
set_option maxRecDepth 20000 in
theorem gX12_first_X12_asNow : GoodIn wsX12_first (wsV RX12 318 RX12 yX12_asNow wsX12_asNow) := goodIn_app (goodIn_of _ (by decide +kernel)) ggX12_first_X12_asNow
set_option maxRecDepth 20000 in
theorem ggX12_first_X12_firstIn : GoodIn wsX12_first wsX12_firstIn := goodIn_r _ [25, 7, 26, 27, 28, 5, 29, 30, 31, 32, 33, 21, 19, 34, 35, 36, 37, 20, 38, 39, 40, 41, 42, 43, 44, 45, 46, 47, 48, 49, 50, 51, 52, 53, 54, 55, 56, 57, 58, 59, 60, 61, 62, 63, 64, 65, 66, 67, 68, 69, 70, 71, 72, 73, 74, 75, 76, 77, 78, 79, 80, 81, 82, 83, 84, 85, 86, 87, 88, 89, 90, 91, 92, 93, 94, 95, 96, 97, 98, 99] (by decide +kernel) (by decide +kernel)
set_option maxRecDepth 20000 in
theorem gX12_first_X12_firstIn : GoodIn wsX12_first (wsV RX12 311 RX12 yX12_firstIn wsX12_firstIn) := goodIn_app (goodIn_of _ (by decide +kernel)) ggX12_first_X12_firstIn
theorem dX12_first_0 : decode cX12_first 0 = .ok (.aload_n 0, 1) := by decide +kernel
theorem dX12_first_1 : decode cX12_first 1 = .ok (.iconst 0, 1) := by decide +kernel
theorem dX12_first_2 : decode cX12_first 2 = .ok (.putfield 1, 3) := by decide +kernel
theorem dX12_first_5 : decode cX12_first 5 = .ok (.aload_n 0, 1) := by decide +kernel
theorem dX12_first_6 : decode cX12_first 6 = .ok (.iload_n 1, 1) := by decide +kernel
theorem dX12_first_7 : decode cX12_first 7 = .ok (.invokevirtual 259, 3) := by decide +kernel
theorem dX12_first_10 : decode cX12_first 10 = .ok (.ifCond .eq 12, 3) := by decide +kernel
theorem dX12_first_13 : decode cX12_first 13 = .ok (.iload_n 2, 1) := by decide +kernel
theorem dX12_first_14 : decode cX12_first 14 = .ok (.iconst 0, 1) := by decide +kernel
theorem dX12_first_15 : decode cX12_first 15 = .ok (.iconst 1, 1) := by decide +kernel
theorem dX12_first_16 : decode cX12_first 16 = .ok (.invokestatic 191, 3) := by decide +kernel
theorem dX12_first_19 : decode cX12_first 19 = .ok (.ifCond .ne 5, 3) := by decide +kernel
theorem dX12_first_22 : decode cX12_first 22 = .ok (.iconst (-1), 1) := by decide +kernel
theorem dX12_first_23 : decode cX12_first 23 = .ok (.ireturn, 1) := by decide +kernel
theorem dX12_first_24 : decode cX12_first 24 = .ok (.aload_n 0, 1) := by decide +kernel
theorem dX12_first_25 : decode cX12_first 25 = .ok (.invokevirtual 318, 3) := by decide +kernel
theorem dX12_first_28 : decode cX12_first 28 = .ok (.aload_n 0, 1) := by decide +kernel
theorem dX12_first_29 : decode cX12_first 29 = .ok (.iload_n 1, 1) := by decide +kernel
theorem dX12_first_30 : decode cX12_first 30 = .ok (.iload_n 2, 1) := by decide +kernel
theorem dX12_first_31 : decode cX12_first 31 = .ok (.invokevirtual 311, 3) := by decide +kernel
theorem dX12_first_34 : decode cX12_first 34 = .ok (.ireturn, 1) := by decide +kernel
set_option maxRecDepth 20000 in
theorem ggX12_lied_X12_isTrue : GoodIn wsX12_lied wsX12_isTrue := goodIn_r _ [7, 2, 8, 9, 10, 6, 11, 12, 13, 14, 15, 16, 17, 18, 19, 20, 21, 22, 23, 24, 25, 26, 27, 28, 29, 30, 31, 32, 33, 34, 35, 36, 37, 38, 39, 40, 41, 42, 43, 44, 45, 46, 47, 48, 49, 50, 51, 52, 53, 54, 55, 56, 57, 58, 59, 60, 61, 62, 63, 64, 65, 66, 67, 68, 69, 70, 71, 72, 73, 74, 75, 76, 77, 78, 79, 80, 81, 82, 83, 84] (by decide +kernel) (by decide +kernel)
set_option maxRecDepth 20000 in
theorem gX12_lied_X12_isTrue : GoodIn wsX12_lied (wsV RX12 333 RX12 yX12_isTrue wsX12_isTrue) := goodIn_app (goodIn_of _ (by decide +kernel)) ggX12_lied_X12_isTrue
theorem dX12_lied_0 : decode cX12_lied 0 = .ok (.aload_n 0, 1) := by decide +kernel
theorem dX12_lied_1 : decode cX12_lied 1 = .ok (.iconst 0, 1) := by decide +kernel
theorem dX12_lied_2 : decode cX12_lied 2 = .ok (.putfield 1, 3) := by decide +kernel
theorem dX12_lied_5 : decode cX12_lied 5 = .ok (.iconst 0, 1) := by decide +kernel
theorem dX12_lied_6 : decode cX12_lied 6 = .ok (.istore_n 1, 1) := by decide +kernel
theorem dX12_lied_7 : decode cX12_lied 7 = .ok (.iconst 0, 1) := by decide +kernel
theorem dX12_lied_8 : decode cX12_lied 8 = .ok (.istore_n 2, 1) := by decide +kernel
theorem dX12_lied_9 : decode cX12_lied 9 = .ok (.iload_n 2, 1) := by decide +kernel
theorem dX12_lied_10 : decode cX12_lied 10 = .ok (.aload_n 0, 1) := by decide +kernel
theorem dX12_lied_11 : decode cX12_lied 11 = .ok (.getfield 33, 3) := by decide +kernel
theorem dX12_lied_14 : decode cX12_lied 14 = .ok (.iconst 1, 1) := by decide +kernel
theorem dX12_lied_15 : decode cX12_lied 15 = .ok (.iaload, 1) := by decide +kernel
theorem dX12_lied_16 : decode cX12_lied 16 = .ok (.if_icmp .ge 40, 3) := by decide +kernel
theorem dX12_lied_19 : decode cX12_lied 19 = .ok (.iload_n 1, 1) := by decide +kernel
theorem dX12_lied_20 : decode cX12_lied 20 = .ok (.aload_n 0, 1) := by decide +kernel
theorem dX12_lied_21 : decode cX12_lied 21 = .ok (.getfield 33, 3) := by decide +kernel
theorem dX12_lied_24 : decode cX12_lied 24 = .ok (.sipush 230, 3) := by decide +kernel
theorem dX12_lied_27 : decode cX12_lied 27 = .ok (.iload_n 2, 1) := by decide +kernel
theorem dX12_lied_28 : decode cX12_lied 28 = .ok (.iadd, 1) := by decide +kernel
theorem dX12_lied_29 : decode cX12_lied 29 = .ok (.iaload, 1) := by decide +kernel
theorem dX12_lied_30 : decode cX12_lied 30 = .ok (.ifCond .le 17, 3) := by decide +kernel
theorem dX12_lied_33 : decode cX12_lied 33 = .ok (.aload_n 0, 1) := by decide +kernel
theorem dX12_lied_34 : decode cX12_lied 34 = .ok (.iload_n 2, 1) := by decide +kernel
theorem dX12_lied_35 : decode cX12_lied 35 = .ok (.invokevirtual 333, 3) := by decide +kernel
theorem dX12_lied_38 : decode cX12_lied 38 = .ok (.ifCond .ne 9, 3) := by decide +kernel
theorem dX12_lied_41 : decode cX12_lied 41 = .ok (.iconst 1, 1) := by decide +kernel
theorem dX12_lied_42 : decode cX12_lied 42 = .ok (.iload_n 2, 1) := by decide +kernel
theorem dX12_lied_43 : decode cX12_lied 43 = .ok (.ishl, 1) := by decide +kernel
theorem dX12_lied_44 : decode cX12_lied 44 = .ok (.goto 4, 3) := by decide +kernel
theorem dX12_lied_47 : decode cX12_lied 47 = .ok (.iconst 0, 1) := by decide +kernel
theorem dX12_lied_48 : decode cX12_lied 48 = .ok (.ior, 1) := by decide +kernel
theorem dX12_lied_49 : decode cX12_lied 49 = .ok (.istore_n 1, 1) := by decide +kernel
theorem dX12_lied_50 : decode cX12_lied 50 = .ok (.iinc 2 1, 3) := by decide +kernel
theorem dX12_lied_53 : decode cX12_lied 53 = .ok (.goto (-44), 3) := by decide +kernel
theorem dX12_lied_56 : decode cX12_lied 56 = .ok (.iload_n 1, 1) := by decide +kernel
theorem dX12_lied_57 : decode cX12_lied 57 = .ok (.ireturn, 1) := by decide +kernel
set_option maxRecDepth 20000 in
theorem ggX12_nearer_X12_isMan : GoodIn wsX12_nearer wsX12_isMan := goodIn_r _ [7, 2, 8, 9, 6, 10, 49, 50, 51, 52, 53, 54, 55, 56, 57, 58, 59, 60, 61, 62, 63, 64, 65, 66, 67, 68, 69, 70, 71, 72, 73, 74, 75, 76, 77, 78, 79, 80, 81, 82, 83, 84, 85, 86, 87, 88, 89, 90, 91, 92, 93, 94, 95] (by decide +kernel) (by decide +kernel)
set_option maxRecDepth 20000 in
theorem gX12_nearer_X12_isMan : GoodIn wsX12_nearer (wsV RX12 269 RX12 yX12_isMan wsX12_isMan) := goodIn_app (goodIn_of _ (by decide +kernel)) ggX12_nearer_X12_isMan
set_option maxRecDepth 20000 in
theorem ggX12_nearer_X12_whyAccuse : GoodIn wsX12_nearer wsX12_whyAccuse := goodIn_r _ [14, 2, 15, 16, 17, 6, 18, 19, 20, 21, 22, 23, 24, 25, 26, 27, 28, 29, 30, 31, 32, 49, 50, 51, 52, 53, 54, 55, 56, 57, 58, 59, 60, 61, 62, 63, 64, 65, 66, 67, 68, 69, 70, 71, 72, 73, 74, 75, 76, 77, 78, 79, 80, 81, 82, 83, 84, 85, 86, 87, 88, 89, 90, 91, 92, 93, 94, 95] (by decide +kernel) (by decide +kernel)
set_option maxRecDepth 20000 in
theorem gX12_nearer_X12_whyAccuse : GoodIn wsX12_nearer (wsV RX12 351 RX12 yX12_whyAccuse wsX12_whyAccuse) := goodIn_app (goodIn_of _ (by decide +kernel)) ggX12_nearer_X12_whyAccuse
set_option maxRecDepth 20000 in
theorem ggX12_nearer_X12_isTrue : GoodIn wsX12_nearer wsX12_isTrue := goodIn_r _ [36, 2, 15, 16, 17, 6, 18, 19, 20, 21, 22, 23, 24, 25, 37, 38, 39, 40, 41, 42, 43, 44, 45, 46, 47, 48, 26, 27, 28, 29, 30, 31, 32, 49, 50, 51, 52, 53, 54, 55, 56, 57, 58, 59, 60, 61, 62, 63, 64, 65, 66, 67, 68, 69, 70, 71, 72, 73, 74, 75, 76, 77, 78, 79, 80, 81, 82, 83, 84, 85, 86, 87, 88, 89, 90, 91, 92, 93, 94, 95] (by decide +kernel) (by decide +kernel)
set_option maxRecDepth 20000 in
theorem gX12_nearer_X12_isTrue : GoodIn wsX12_nearer (wsV RX12 333 RX12 yX12_isTrue wsX12_isTrue) := goodIn_app (goodIn_of _ (by decide +kernel)) ggX12_nearer_X12_isTrue
theorem dX12_nearer_0 : decode cX12_nearer 0 = .ok (.aload_n 0, 1) := by decide +kernel
theorem dX12_nearer_1 : decode cX12_nearer 1 = .ok (.iconst 0, 1) := by decide +kernel
theorem dX12_nearer_2 : decode cX12_nearer 2 = .ok (.putfield 1, 3) := by decide +kernel
theorem dX12_nearer_5 : decode cX12_nearer 5 = .ok (.aload_n 0, 1) := by decide +kernel
theorem dX12_nearer_6 : decode cX12_nearer 6 = .ok (.iload_n 1, 1) := by decide +kernel
theorem dX12_nearer_7 : decode cX12_nearer 7 = .ok (.invokevirtual 269, 3) := by decide +kernel
theorem dX12_nearer_10 : decode cX12_nearer 10 = .ok (.ifCond .ne 5, 3) := by decide +kernel
theorem dX12_nearer_13 : decode cX12_nearer 13 = .ok (.iconst (-1), 1) := by decide +kernel
theorem dX12_nearer_14 : decode cX12_nearer 14 = .ok (.ireturn, 1) := by decide +kernel
theorem dX12_nearer_15 : decode cX12_nearer 15 = .ok (.iconst 0, 1) := by decide +kernel
theorem dX12_nearer_16 : decode cX12_nearer 16 = .ok (.istore_n 2, 1) := by decide +kernel
theorem dX12_nearer_17 : decode cX12_nearer 17 = .ok (.iconst 0, 1) := by decide +kernel
theorem dX12_nearer_18 : decode cX12_nearer 18 = .ok (.istore_n 3, 1) := by decide +kernel
theorem dX12_nearer_19 : decode cX12_nearer 19 = .ok (.iload_n 3, 1) := by decide +kernel
theorem dX12_nearer_20 : decode cX12_nearer 20 = .ok (.aload_n 0, 1) := by decide +kernel
theorem dX12_nearer_21 : decode cX12_nearer 21 = .ok (.getfield 33, 3) := by decide +kernel
theorem dX12_nearer_24 : decode cX12_nearer 24 = .ok (.iconst 1, 1) := by decide +kernel
theorem dX12_nearer_25 : decode cX12_nearer 25 = .ok (.iaload, 1) := by decide +kernel
theorem dX12_nearer_26 : decode cX12_nearer 26 = .ok (.if_icmp .ge 41, 3) := by decide +kernel
theorem dX12_nearer_29 : decode cX12_nearer 29 = .ok (.iload_n 2, 1) := by decide +kernel
theorem dX12_nearer_30 : decode cX12_nearer 30 = .ok (.iload_n 3, 1) := by decide +kernel
theorem dX12_nearer_31 : decode cX12_nearer 31 = .ok (.iload_n 1, 1) := by decide +kernel
theorem dX12_nearer_32 : decode cX12_nearer 32 = .ok (.if_icmp .eq 26, 3) := by decide +kernel
theorem dX12_nearer_35 : decode cX12_nearer 35 = .ok (.aload_n 0, 1) := by decide +kernel
theorem dX12_nearer_36 : decode cX12_nearer 36 = .ok (.iload_n 3, 1) := by decide +kernel
theorem dX12_nearer_37 : decode cX12_nearer 37 = .ok (.iload_n 1, 1) := by decide +kernel
theorem dX12_nearer_38 : decode cX12_nearer 38 = .ok (.invokevirtual 351, 3) := by decide +kernel
theorem dX12_nearer_41 : decode cX12_nearer 41 = .ok (.ifCond .ne 17, 3) := by decide +kernel
theorem dX12_nearer_44 : decode cX12_nearer 44 = .ok (.aload_n 0, 1) := by decide +kernel
theorem dX12_nearer_45 : decode cX12_nearer 45 = .ok (.iload_n 1, 1) := by decide +kernel
theorem dX12_nearer_46 : decode cX12_nearer 46 = .ok (.invokevirtual 333, 3) := by decide +kernel
theorem dX12_nearer_49 : decode cX12_nearer 49 = .ok (.ifCond .ne 9, 3) := by decide +kernel
theorem dX12_nearer_52 : decode cX12_nearer 52 = .ok (.iconst 1, 1) := by decide +kernel
theorem dX12_nearer_53 : decode cX12_nearer 53 = .ok (.iload_n 3, 1) := by decide +kernel
theorem dX12_nearer_54 : decode cX12_nearer 54 = .ok (.ishl, 1) := by decide +kernel
theorem dX12_nearer_55 : decode cX12_nearer 55 = .ok (.goto 4, 3) := by decide +kernel
theorem dX12_nearer_58 : decode cX12_nearer 58 = .ok (.iconst 0, 1) := by decide +kernel
theorem dX12_nearer_59 : decode cX12_nearer 59 = .ok (.ior, 1) := by decide +kernel
theorem dX12_nearer_60 : decode cX12_nearer 60 = .ok (.istore_n 2, 1) := by decide +kernel
theorem dX12_nearer_61 : decode cX12_nearer 61 = .ok (.iinc 3 1, 3) := by decide +kernel
theorem dX12_nearer_64 : decode cX12_nearer 64 = .ok (.goto (-45), 3) := by decide +kernel
theorem dX12_nearer_67 : decode cX12_nearer 67 = .ok (.iload_n 2, 1) := by decide +kernel
theorem dX12_nearer_68 : decode cX12_nearer 68 = .ok (.ireturn, 1) := by decide +kernel
set_option maxRecDepth 20000 in
theorem ggX12_due_X12_isMan : GoodIn wsX12_due wsX12_isMan := goodIn_r _ [8, 2, 9, 10, 7, 11, 47, 48, 49, 50, 51, 52, 53, 54, 55, 56, 57, 58, 59, 60, 61, 62, 63, 64, 65, 66, 67, 68, 69, 70, 71, 72, 73, 74, 75, 76, 77, 78, 79, 80, 81, 82, 83, 84, 85, 86, 87, 88, 89, 90, 91, 92, 93] (by decide +kernel) (by decide +kernel)
set_option maxRecDepth 20000 in
theorem gX12_due_X12_isMan : GoodIn wsX12_due (wsV RX12 269 RX12 yX12_isMan wsX12_isMan) := goodIn_app (goodIn_of _ (by decide +kernel)) ggX12_due_X12_isMan
set_option maxRecDepth 20000 in
theorem ggX12_due_X12_sharesNow : GoodIn wsX12_due wsX12_sharesNow := goodIn_r _ [15, 2, 16, 17, 18, 19, 7, 20, 21, 3, 22, 23, 24, 25, 26, 27, 28, 29, 30, 31, 32, 33, 34, 35, 36, 37, 38, 39, 40, 41, 42, 43, 44, 45, 46, 47, 48, 49, 50, 51, 52, 53, 54, 55, 56, 57, 58, 59, 60, 61, 62, 63, 64, 65, 66, 67, 68, 69, 70, 71, 72, 73, 74, 75, 76, 77, 78, 79, 80, 81, 82, 83, 84, 85, 86, 87, 88, 89, 90, 91, 92, 93] (by decide +kernel) (by decide +kernel)
set_option maxRecDepth 20000 in
theorem gX12_due_X12_sharesNow : GoodIn wsX12_due (wsV RX12 360 RX12 yX12_sharesNow wsX12_sharesNow) := goodIn_app (goodIn_of _ (by decide +kernel)) ggX12_due_X12_sharesNow
theorem dX12_due_0 : decode cX12_due 0 = .ok (.aload_n 0, 1) := by decide +kernel
theorem dX12_due_1 : decode cX12_due 1 = .ok (.iconst 0, 1) := by decide +kernel
theorem dX12_due_2 : decode cX12_due 2 = .ok (.putfield 1, 3) := by decide +kernel
theorem dX12_due_5 : decode cX12_due 5 = .ok (.aload_n 0, 1) := by decide +kernel
theorem dX12_due_6 : decode cX12_due 6 = .ok (.getfield 33, 3) := by decide +kernel
theorem dX12_due_9 : decode cX12_due 9 = .ok (.sipush 212, 3) := by decide +kernel
theorem dX12_due_12 : decode cX12_due 12 = .ok (.iaload, 1) := by decide +kernel
theorem dX12_due_13 : decode cX12_due 13 = .ok (.ifCond .eq 11, 3) := by decide +kernel
theorem dX12_due_16 : decode cX12_due 16 = .ok (.aload_n 0, 1) := by decide +kernel
theorem dX12_due_17 : decode cX12_due 17 = .ok (.iload_n 1, 1) := by decide +kernel
theorem dX12_due_18 : decode cX12_due 18 = .ok (.invokevirtual 269, 3) := by decide +kernel
theorem dX12_due_21 : decode cX12_due 21 = .ok (.ifCond .ne 5, 3) := by decide +kernel
theorem dX12_due_24 : decode cX12_due 24 = .ok (.iconst (-1), 1) := by decide +kernel
theorem dX12_due_25 : decode cX12_due 25 = .ok (.ireturn, 1) := by decide +kernel
theorem dX12_due_26 : decode cX12_due 26 = .ok (.aload_n 0, 1) := by decide +kernel
theorem dX12_due_27 : decode cX12_due 27 = .ok (.invokevirtual 360, 3) := by decide +kernel
theorem dX12_due_30 : decode cX12_due 30 = .ok (.aload_n 0, 1) := by decide +kernel
theorem dX12_due_31 : decode cX12_due 31 = .ok (.getfield 59, 3) := by decide +kernel
theorem dX12_due_34 : decode cX12_due 34 = .ok (.iload_n 1, 1) := by decide +kernel
theorem dX12_due_35 : decode cX12_due 35 = .ok (.iaload, 1) := by decide +kernel
theorem dX12_due_36 : decode cX12_due 36 = .ok (.ireturn, 1) := by decide +kernel
set_option maxRecDepth 20000 in
theorem ggX12_honest_X12_isMan : GoodIn wsX12_honest wsX12_isMan := goodIn_r _ [8, 2, 9, 10, 7, 11, 78, 79, 80, 81, 82, 83, 84, 85, 86, 87, 88, 89, 90, 91, 92, 93, 94, 95, 96, 97, 98, 99, 100, 101, 102, 103, 104, 105, 106, 107, 108, 109, 110, 111, 112, 113, 114, 115, 116, 117, 118, 119, 120, 121, 122, 123, 124] (by decide +kernel) (by decide +kernel)
set_option maxRecDepth 20000 in
theorem gX12_honest_X12_isMan : GoodIn wsX12_honest (wsV RX12 269 RX12 yX12_isMan wsX12_isMan) := goodIn_app (goodIn_of _ (by decide +kernel)) ggX12_honest_X12_isMan
set_option maxRecDepth 20000 in
theorem ggX12_honest_X12_isFlight : GoodIn wsX12_honest wsX12_isFlight := goodIn_r _ [15, 2, 9, 10, 7, 11, 78, 79, 80, 81, 82, 83, 84, 85, 86, 87, 88, 89, 90, 91, 92, 93, 94, 95, 96, 97, 98, 99, 100, 101, 102, 103, 104, 105, 106, 107, 108, 109, 110, 111, 112, 113, 114, 115, 116, 117, 118, 119, 120, 121, 122, 123, 124] (by decide +kernel) (by decide +kernel)
set_option maxRecDepth 20000 in
theorem gX12_honest_X12_isFlight : GoodIn wsX12_honest (wsV RX12 259 RX12 yX12_isFlight wsX12_isFlight) := goodIn_app (goodIn_of _ (by decide +kernel)) ggX12_honest_X12_isFlight
set_option maxRecDepth 20000 in
theorem ggX12_honest_X12_asNow : GoodIn wsX12_honest wsX12_asNow := goodIn_r _ [19, 2, 20, 21, 22, 7, 23, 24, 25, 26, 78, 79, 80, 81, 82, 83, 84, 85, 86, 87, 88, 89, 90, 91, 92, 93, 94, 95, 96, 97, 98, 99, 100, 101, 102, 103, 104, 105, 106, 107, 108, 109, 110, 111, 112, 113, 114, 115, 116, 117, 118, 119, 120, 121, 122, 123, 124] (by decide +kernel) (by decide +kernel)
set_option maxRecDepth 20000 in
theorem gX12_honest_X12_asNow : GoodIn wsX12_honest (wsV RX12 318 RX12 yX12_asNow wsX12_asNow) := goodIn_app (goodIn_of _ (by decide +kernel)) ggX12_honest_X12_asNow
set_option maxRecDepth 20000 in
theorem ggX12_honest_X12_sharesBy : GoodIn wsX12_honest wsX12_sharesBy := goodIn_r _ [30, 31, 32, 33, 7, 34, 35, 3, 36, 37, 38, 39, 2, 40, 41, 42, 43, 44, 45, 46, 47, 26, 24, 48, 49, 50, 51, 25, 52, 53, 54, 55, 56, 57, 58, 59, 60, 61, 62, 63, 64, 65, 66, 67, 68, 69, 70, 71, 72, 73, 74, 75, 76, 77, 78, 79, 80, 81, 82, 83, 84, 85, 86, 87, 88, 89, 90, 91, 92, 93, 94, 95, 96, 97, 98, 99, 100, 101, 102, 103, 104, 105, 106, 107, 108, 109, 110, 111, 112, 113, 114, 115, 116, 117, 118, 119, 120, 121, 122, 123, 124] (by decide +kernel) (by decide +kernel)
set_option maxRecDepth 20000 in
theorem gX12_honest_X12_sharesBy : GoodIn wsX12_honest (wsV RX12 366 RX12 yX12_sharesBy wsX12_sharesBy) := goodIn_app (goodIn_of _ (by decide +kernel)) ggX12_honest_X12_sharesBy
theorem dX12_honest_0 : decode cX12_honest 0 = .ok (.aload_n 0, 1) := by decide +kernel
theorem dX12_honest_1 : decode cX12_honest 1 = .ok (.iconst 0, 1) := by decide +kernel
theorem dX12_honest_2 : decode cX12_honest 2 = .ok (.putfield 1, 3) := by decide +kernel
theorem dX12_honest_5 : decode cX12_honest 5 = .ok (.aload_n 0, 1) := by decide +kernel
theorem dX12_honest_6 : decode cX12_honest 6 = .ok (.iload_n 1, 1) := by decide +kernel
theorem dX12_honest_7 : decode cX12_honest 7 = .ok (.invokevirtual 269, 3) := by decide +kernel
theorem dX12_honest_10 : decode cX12_honest 10 = .ok (.ifCond .eq 11, 3) := by decide +kernel
theorem dX12_honest_13 : decode cX12_honest 13 = .ok (.aload_n 0, 1) := by decide +kernel
theorem dX12_honest_14 : decode cX12_honest 14 = .ok (.iload_n 2, 1) := by decide +kernel
theorem dX12_honest_15 : decode cX12_honest 15 = .ok (.invokevirtual 259, 3) := by decide +kernel
theorem dX12_honest_18 : decode cX12_honest 18 = .ok (.ifCond .ne 5, 3) := by decide +kernel
theorem dX12_honest_21 : decode cX12_honest 21 = .ok (.iconst (-1), 1) := by decide +kernel
theorem dX12_honest_22 : decode cX12_honest 22 = .ok (.ireturn, 1) := by decide +kernel
theorem dX12_honest_23 : decode cX12_honest 23 = .ok (.aload_n 0, 1) := by decide +kernel
theorem dX12_honest_24 : decode cX12_honest 24 = .ok (.invokevirtual 318, 3) := by decide +kernel
theorem dX12_honest_27 : decode cX12_honest 27 = .ok (.aload_n 0, 1) := by decide +kernel
theorem dX12_honest_28 : decode cX12_honest 28 = .ok (.iload_n 2, 1) := by decide +kernel
theorem dX12_honest_29 : decode cX12_honest 29 = .ok (.aload_n 0, 1) := by decide +kernel
theorem dX12_honest_30 : decode cX12_honest 30 = .ok (.getfield 33, 3) := by decide +kernel
theorem dX12_honest_33 : decode cX12_honest 33 = .ok (.iconst 4, 1) := by decide +kernel
theorem dX12_honest_34 : decode cX12_honest 34 = .ok (.iaload, 1) := by decide +kernel
theorem dX12_honest_35 : decode cX12_honest 35 = .ok (.invokevirtual 366, 3) := by decide +kernel
theorem dX12_honest_38 : decode cX12_honest 38 = .ok (.aload_n 0, 1) := by decide +kernel
theorem dX12_honest_39 : decode cX12_honest 39 = .ok (.getfield 59, 3) := by decide +kernel
theorem dX12_honest_42 : decode cX12_honest 42 = .ok (.iload_n 1, 1) := by decide +kernel
theorem dX12_honest_43 : decode cX12_honest 43 = .ok (.iaload, 1) := by decide +kernel
theorem dX12_honest_44 : decode cX12_honest 44 = .ok (.ireturn, 1) := by decide +kernel
theorem dX12_chances_0 : decode cX12_chances 0 = .ok (.iconst 0, 1) := by decide +kernel
theorem dX12_chances_1 : decode cX12_chances 1 = .ok (.istore_n 1, 1) := by decide +kernel
theorem dX12_chances_2 : decode cX12_chances 2 = .ok (.iconst 0, 1) := by decide +kernel
theorem dX12_chances_3 : decode cX12_chances 3 = .ok (.istore_n 2, 1) := by decide +kernel
theorem dX12_chances_4 : decode cX12_chances 4 = .ok (.iload_n 2, 1) := by decide +kernel
theorem dX12_chances_5 : decode cX12_chances 5 = .ok (.aload_n 0, 1) := by decide +kernel
theorem dX12_chances_6 : decode cX12_chances 6 = .ok (.getfield 33, 3) := by decide +kernel
theorem dX12_chances_9 : decode cX12_chances 9 = .ok (.iconst 2, 1) := by decide +kernel
theorem dX12_chances_10 : decode cX12_chances 10 = .ok (.iaload, 1) := by decide +kernel
theorem dX12_chances_11 : decode cX12_chances 11 = .ok (.if_icmp .ge 21, 3) := by decide +kernel
theorem dX12_chances_14 : decode cX12_chances 14 = .ok (.iload_n 1, 1) := by decide +kernel
theorem dX12_chances_15 : decode cX12_chances 15 = .ok (.aload_n 0, 1) := by decide +kernel
theorem dX12_chances_16 : decode cX12_chances 16 = .ok (.getfield 33, 3) := by decide +kernel
theorem dX12_chances_19 : decode cX12_chances 19 = .ok (.bipush 79, 2) := by decide +kernel
theorem dX12_chances_21 : decode cX12_chances 21 = .ok (.iload_n 2, 1) := by decide +kernel
theorem dX12_chances_22 : decode cX12_chances 22 = .ok (.iadd, 1) := by decide +kernel
theorem dX12_chances_23 : decode cX12_chances 23 = .ok (.iaload, 1) := by decide +kernel
theorem dX12_chances_24 : decode cX12_chances 24 = .ok (.iadd, 1) := by decide +kernel
theorem dX12_chances_25 : decode cX12_chances 25 = .ok (.istore_n 1, 1) := by decide +kernel
theorem dX12_chances_26 : decode cX12_chances 26 = .ok (.iinc 2 1, 3) := by decide +kernel
theorem dX12_chances_29 : decode cX12_chances 29 = .ok (.goto (-25), 3) := by decide +kernel
theorem dX12_chances_32 : decode cX12_chances 32 = .ok (.iload_n 1, 1) := by decide +kernel
theorem dX12_chances_33 : decode cX12_chances 33 = .ok (.ireturn, 1) := by decide +kernel
set_option maxRecDepth 20000 in
theorem ggX12_meanOf_X12_sharesBy : GoodIn wsX12_meanOf wsX12_sharesBy := goodIn_r _ [7, 8, 9, 10, 6, 11, 12, 2, 13, 14, 15, 16, 1, 17, 18, 19, 20, 21, 22, 23, 24, 25, 26, 27, 28, 29, 30, 31, 32, 33, 34, 35, 36, 37, 38, 39, 40, 41, 42, 43, 44, 45, 46, 47, 48, 49, 50, 51, 52, 53, 54, 55, 56, 57, 58, 59, 60, 61, 62, 63, 64, 65, 66, 67, 68, 69, 70, 71, 72, 73, 74, 75, 76, 77, 78, 79, 80, 81, 82, 83, 84, 85, 86, 87, 88, 89, 90, 91, 92, 93, 94, 95, 96, 97, 98, 99, 100, 101, 102, 103, 104] (by decide +kernel) (by decide +kernel)
set_option maxRecDepth 20000 in
theorem gX12_meanOf_X12_sharesBy : GoodIn wsX12_meanOf (wsV RX12 366 RX12 yX12_sharesBy wsX12_sharesBy) := goodIn_app (goodIn_of _ (by decide +kernel)) ggX12_meanOf_X12_sharesBy
theorem dX12_meanOf_0 : decode cX12_meanOf 0 = .ok (.iconst 0, 1) := by decide +kernel
theorem dX12_meanOf_1 : decode cX12_meanOf 1 = .ok (.istore_n 2, 1) := by decide +kernel
theorem dX12_meanOf_2 : decode cX12_meanOf 2 = .ok (.iconst 0, 1) := by decide +kernel
theorem dX12_meanOf_3 : decode cX12_meanOf 3 = .ok (.istore_n 3, 1) := by decide +kernel
theorem dX12_meanOf_4 : decode cX12_meanOf 4 = .ok (.iload_n 3, 1) := by decide +kernel
theorem dX12_meanOf_5 : decode cX12_meanOf 5 = .ok (.aload_n 0, 1) := by decide +kernel
theorem dX12_meanOf_6 : decode cX12_meanOf 6 = .ok (.getfield 33, 3) := by decide +kernel
theorem dX12_meanOf_9 : decode cX12_meanOf 9 = .ok (.iconst 2, 1) := by decide +kernel
theorem dX12_meanOf_10 : decode cX12_meanOf 10 = .ok (.iaload, 1) := by decide +kernel
theorem dX12_meanOf_11 : decode cX12_meanOf 11 = .ok (.if_icmp .ge 39, 3) := by decide +kernel
theorem dX12_meanOf_14 : decode cX12_meanOf 14 = .ok (.aload_n 0, 1) := by decide +kernel
theorem dX12_meanOf_15 : decode cX12_meanOf 15 = .ok (.iload_n 3, 1) := by decide +kernel
theorem dX12_meanOf_16 : decode cX12_meanOf 16 = .ok (.aload_n 0, 1) := by decide +kernel
theorem dX12_meanOf_17 : decode cX12_meanOf 17 = .ok (.getfield 33, 3) := by decide +kernel
theorem dX12_meanOf_20 : decode cX12_meanOf 20 = .ok (.iconst 4, 1) := by decide +kernel
theorem dX12_meanOf_21 : decode cX12_meanOf 21 = .ok (.iaload, 1) := by decide +kernel
theorem dX12_meanOf_22 : decode cX12_meanOf 22 = .ok (.invokevirtual 366, 3) := by decide +kernel
theorem dX12_meanOf_25 : decode cX12_meanOf 25 = .ok (.iload_n 2, 1) := by decide +kernel
theorem dX12_meanOf_26 : decode cX12_meanOf 26 = .ok (.aload_n 0, 1) := by decide +kernel
theorem dX12_meanOf_27 : decode cX12_meanOf 27 = .ok (.getfield 33, 3) := by decide +kernel
theorem dX12_meanOf_30 : decode cX12_meanOf 30 = .ok (.bipush 79, 2) := by decide +kernel
theorem dX12_meanOf_32 : decode cX12_meanOf 32 = .ok (.iload_n 3, 1) := by decide +kernel
theorem dX12_meanOf_33 : decode cX12_meanOf 33 = .ok (.iadd, 1) := by decide +kernel
theorem dX12_meanOf_34 : decode cX12_meanOf 34 = .ok (.iaload, 1) := by decide +kernel
theorem dX12_meanOf_35 : decode cX12_meanOf 35 = .ok (.aload_n 0, 1) := by decide +kernel
theorem dX12_meanOf_36 : decode cX12_meanOf 36 = .ok (.getfield 59, 3) := by decide +kernel
theorem dX12_meanOf_39 : decode cX12_meanOf 39 = .ok (.iload_n 1, 1) := by decide +kernel
theorem dX12_meanOf_40 : decode cX12_meanOf 40 = .ok (.iaload, 1) := by decide +kernel
theorem dX12_meanOf_41 : decode cX12_meanOf 41 = .ok (.imul, 1) := by decide +kernel
theorem dX12_meanOf_42 : decode cX12_meanOf 42 = .ok (.iadd, 1) := by decide +kernel
theorem dX12_meanOf_43 : decode cX12_meanOf 43 = .ok (.istore_n 2, 1) := by decide +kernel
theorem dX12_meanOf_44 : decode cX12_meanOf 44 = .ok (.iinc 3 1, 3) := by decide +kernel
theorem dX12_meanOf_47 : decode cX12_meanOf 47 = .ok (.goto (-43), 3) := by decide +kernel
theorem dX12_meanOf_50 : decode cX12_meanOf 50 = .ok (.iload_n 2, 1) := by decide +kernel
theorem dX12_meanOf_51 : decode cX12_meanOf 51 = .ok (.ireturn, 1) := by decide +kernel
set_option maxRecDepth 20000 in
theorem ggX12_mean_X12_isMan : GoodIn wsX12_mean wsX12_isMan := goodIn_r _ [6, 1, 7, 8, 5, 9, 89, 90, 91, 92, 93, 94, 95, 96, 97, 98, 99, 100, 101, 102, 103, 104, 105, 106, 107, 108, 109, 110, 111, 112, 113, 114, 115, 116, 117, 118, 119, 120, 121, 122, 123, 124, 125, 126, 127, 128, 129, 130, 131, 132, 133, 134, 135] (by decide +kernel) (by decide +kernel)
set_option maxRecDepth 20000 in
theorem gX12_mean_X12_isMan : GoodIn wsX12_mean (wsV RX12 269 RX12 yX12_isMan wsX12_isMan) := goodIn_app (goodIn_of _ (by decide +kernel)) ggX12_mean_X12_isMan
set_option maxRecDepth 20000 in
theorem ggX12_mean_X12_isIn : GoodIn wsX12_mean wsX12_isIn := goodIn_r _ [9] (by decide +kernel) (by decide +kernel)
set_option maxRecDepth 20000 in
theorem gX12_mean_X12_isIn : GoodIn wsX12_mean (va_wsS RX12 191 yX12_isIn wsX12_isIn) := goodIn_app (goodIn_of _ (by decide +kernel)) ggX12_mean_X12_isIn
set_option maxRecDepth 20000 in
theorem ggX12_mean_X12_throwsIf : GoodIn wsX12_mean wsX12_throwsIf := goodIn_r _ [13, 14, 89, 90, 91, 92, 93, 94, 95, 96, 97, 98, 99, 100, 101, 102, 103, 104, 105, 106, 107, 108, 109, 110, 111, 112, 113, 114, 115, 116, 117, 118, 119, 120, 121, 122, 123, 124, 125, 126, 127, 128, 129, 130, 131, 132, 133, 134, 135] (by decide +kernel) (by decide +kernel)
set_option maxRecDepth 20000 in
theorem gX12_mean_X12_throwsIf : GoodIn wsX12_mean (wsV RX12 272 RX12 yX12_throwsIf wsX12_throwsIf) := goodIn_app (goodIn_of _ (by decide +kernel)) ggX12_mean_X12_throwsIf
set_option maxRecDepth 20000 in
theorem ggX12_mean_X12_asNow : GoodIn wsX12_mean wsX12_asNow := goodIn_r _ [18, 1, 19, 20, 21, 5, 22, 23, 24, 25, 89, 90, 91, 92, 93, 94, 95, 96, 97, 98, 99, 100, 101, 102, 103, 104, 105, 106, 107, 108, 109, 110, 111, 112, 113, 114, 115, 116, 117, 118, 119, 120, 121, 122, 123, 124, 125, 126, 127, 128, 129, 130, 131, 132, 133, 134, 135] (by decide +kernel) (by decide +kernel)
set_option maxRecDepth 20000 in
theorem gX12_mean_X12_asNow : GoodIn wsX12_mean (wsV RX12 318 RX12 yX12_asNow wsX12_asNow) := goodIn_app (goodIn_of _ (by decide +kernel)) ggX12_mean_X12_asNow
set_option maxRecDepth 20000 in
theorem ggX12_mean_X12_meanOf : GoodIn wsX12_mean wsX12_meanOf := goodIn_r _ [29, 1, 30, 31, 32, 33, 5, 34, 35, 36, 37, 38, 39, 40, 41, 42, 43, 44, 45, 46, 47, 48, 49, 50, 51, 25, 23, 52, 53, 54, 55, 24, 56, 57, 58, 59, 60, 61, 62, 63, 64, 65, 66, 67, 68, 69, 70, 71, 72, 73, 74, 75, 76, 77, 78, 79, 80, 81, 89, 90, 91, 92, 93, 94, 95, 96, 97, 98, 99, 100, 101, 102, 103, 104, 105, 106, 107, 108, 109, 110, 111, 112, 113, 114, 115, 116, 117, 118, 119, 120, 121, 122, 123, 124, 125, 126, 127, 128, 129, 130, 131, 132, 133, 134, 135] (by decide +kernel) (by decide +kernel)
set_option maxRecDepth 20000 in
theorem gX12_mean_X12_meanOf : GoodIn wsX12_mean (wsV RX12 369 RX12 yX12_meanOf wsX12_meanOf) := goodIn_app (goodIn_of _ (by decide +kernel)) ggX12_mean_X12_meanOf
set_option maxRecDepth 20000 in
theorem ggX12_mean_X12_chances : GoodIn wsX12_mean wsX12_chances := goodIn_r _ [85, 1, 89, 90, 91, 92, 93, 94, 95, 96, 97, 98, 99, 100, 101, 102, 103, 104, 105, 106, 107, 108, 109, 110, 111, 112, 113, 114, 115, 116, 117, 118, 119, 120, 121, 122, 123, 124, 125, 126, 127, 128, 129, 130, 131, 132, 133, 134, 135] (by decide +kernel) (by decide +kernel)
set_option maxRecDepth 20000 in
theorem gX12_mean_X12_chances : GoodIn wsX12_mean (wsV RX12 372 RX12 yX12_chances wsX12_chances) := goodIn_app (goodIn_of _ (by decide +kernel)) ggX12_mean_X12_chances
set_option maxRecDepth 20000 in
theorem ggX12_mean_X12_part : GoodIn wsX12_mean wsX12_part := goodIn_r _ [88] (by decide +kernel) (by decide +kernel)
set_option maxRecDepth 20000 in
theorem gX12_mean_X12_part : GoodIn wsX12_mean (va_wsS RX12 375 yX12_part wsX12_part) := goodIn_app (goodIn_of _ (by decide +kernel)) ggX12_mean_X12_part
theorem dX12_mean_0 : decode cX12_mean 0 = .ok (.aload_n 0, 1) := by decide +kernel
theorem dX12_mean_1 : decode cX12_mean 1 = .ok (.aload_n 0, 1) := by decide +kernel
theorem dX12_mean_2 : decode cX12_mean 2 = .ok (.iload_n 1, 1) := by decide +kernel
theorem dX12_mean_3 : decode cX12_mean 3 = .ok (.invokevirtual 269, 3) := by decide +kernel
theorem dX12_mean_6 : decode cX12_mean 6 = .ok (.ifCond .eq 21, 3) := by decide +kernel
theorem dX12_mean_9 : decode cX12_mean 9 = .ok (.aload_n 0, 1) := by decide +kernel
theorem dX12_mean_10 : decode cX12_mean 10 = .ok (.getfield 33, 3) := by decide +kernel
theorem dX12_mean_13 : decode cX12_mean 13 = .ok (.iconst 2, 1) := by decide +kernel
theorem dX12_mean_14 : decode cX12_mean 14 = .ok (.iaload, 1) := by decide +kernel
theorem dX12_mean_15 : decode cX12_mean 15 = .ok (.ifCond .eq 12, 3) := by decide +kernel
theorem dX12_mean_18 : decode cX12_mean 18 = .ok (.iload_n 2, 1) := by decide +kernel
theorem dX12_mean_19 : decode cX12_mean 19 = .ok (.iconst 0, 1) := by decide +kernel
theorem dX12_mean_20 : decode cX12_mean 20 = .ok (.iconst 1, 1) := by decide +kernel
theorem dX12_mean_21 : decode cX12_mean 21 = .ok (.invokestatic 191, 3) := by decide +kernel
theorem dX12_mean_24 : decode cX12_mean 24 = .ok (.ifCond .ne 7, 3) := by decide +kernel
theorem dX12_mean_27 : decode cX12_mean 27 = .ok (.iconst 1, 1) := by decide +kernel
theorem dX12_mean_28 : decode cX12_mean 28 = .ok (.goto 4, 3) := by decide +kernel
theorem dX12_mean_31 : decode cX12_mean 31 = .ok (.iconst 0, 1) := by decide +kernel
theorem dX12_mean_32 : decode cX12_mean 32 = .ok (.invokevirtual 272, 3) := by decide +kernel
theorem dX12_mean_35 : decode cX12_mean 35 = .ok (.ifCond .eq 5, 3) := by decide +kernel
theorem dX12_mean_38 : decode cX12_mean 38 = .ok (.iconst 0, 1) := by decide +kernel
theorem dX12_mean_39 : decode cX12_mean 39 = .ok (.ireturn, 1) := by decide +kernel
theorem dX12_mean_40 : decode cX12_mean 40 = .ok (.aload_n 0, 1) := by decide +kernel
theorem dX12_mean_41 : decode cX12_mean 41 = .ok (.invokevirtual 318, 3) := by decide +kernel
theorem dX12_mean_44 : decode cX12_mean 44 = .ok (.aload_n 0, 1) := by decide +kernel
theorem dX12_mean_45 : decode cX12_mean 45 = .ok (.iload_n 1, 1) := by decide +kernel
theorem dX12_mean_46 : decode cX12_mean 46 = .ok (.invokevirtual 369, 3) := by decide +kernel
theorem dX12_mean_49 : decode cX12_mean 49 = .ok (.aload_n 0, 1) := by decide +kernel
theorem dX12_mean_50 : decode cX12_mean 50 = .ok (.invokevirtual 372, 3) := by decide +kernel
theorem dX12_mean_53 : decode cX12_mean 53 = .ok (.iload_n 2, 1) := by decide +kernel
theorem dX12_mean_54 : decode cX12_mean 54 = .ok (.invokestatic 375, 3) := by decide +kernel
theorem dX12_mean_57 : decode cX12_mean 57 = .ok (.ireturn, 1) := by decide +kernel
set_option maxRecDepth 20000 in
theorem ggX12_tellsBetter_X12_chances : GoodIn wsX12_tellsBetter wsX12_chances := goodIn_r _ [8, 9, 10, 11, 12, 13, 14, 15, 16, 17, 18, 19, 20, 21, 22, 23, 24, 25, 26, 27, 28, 29, 30, 31, 32, 33, 34, 35, 36, 37, 38, 39, 40, 41, 42, 43, 44, 45, 46, 47, 48, 49, 50, 51, 52, 53, 54, 55, 56] (by decide +kernel) (by decide +kernel)
set_option maxRecDepth 20000 in
theorem gX12_tellsBetter_X12_chances : GoodIn wsX12_tellsBetter (wsV RX12 372 RX12 yX12_chances wsX12_chances) := goodIn_app (goodIn_of _ (by decide +kernel)) ggX12_tellsBetter_X12_chances
theorem dX12_tellsBetter_0 : decode cX12_tellsBetter 0 = .ok (.aload_n 0, 1) := by decide +kernel
theorem dX12_tellsBetter_1 : decode cX12_tellsBetter 1 = .ok (.iconst 1, 1) := by decide +kernel
theorem dX12_tellsBetter_2 : decode cX12_tellsBetter 2 = .ok (.putfield 378, 3) := by decide +kernel
theorem dX12_tellsBetter_5 : decode cX12_tellsBetter 5 = .ok (.aload_n 0, 1) := by decide +kernel
theorem dX12_tellsBetter_6 : decode cX12_tellsBetter 6 = .ok (.iload_n 1, 1) := by decide +kernel
theorem dX12_tellsBetter_7 : decode cX12_tellsBetter 7 = .ok (.putfield 382, 3) := by decide +kernel
theorem dX12_tellsBetter_10 : decode cX12_tellsBetter 10 = .ok (.aload_n 0, 1) := by decide +kernel
theorem dX12_tellsBetter_11 : decode cX12_tellsBetter 11 = .ok (.aload_n 0, 1) := by decide +kernel
theorem dX12_tellsBetter_12 : decode cX12_tellsBetter 12 = .ok (.invokevirtual 372, 3) := by decide +kernel
theorem dX12_tellsBetter_15 : decode cX12_tellsBetter 15 = .ok (.putfield 385, 3) := by decide +kernel
theorem dX12_tellsBetter_18 : decode cX12_tellsBetter 18 = .ok (.return_, 1) := by decide +kernel
set_option maxRecDepth 20000 in
theorem ggX12_beside_X12_isMan : GoodIn wsX12_beside wsX12_isMan := goodIn_r _ [7, 2, 8, 9, 6, 10, 89, 90, 91, 92, 93, 94, 95, 96, 97, 98, 99, 100, 101, 102, 103, 104, 105, 106, 107, 108, 109, 110, 111, 112, 113, 114, 115, 116, 117, 118, 119, 120, 121, 122, 123, 124, 125, 126, 127, 128, 129, 130, 131, 132, 133, 134, 135] (by decide +kernel) (by decide +kernel)
set_option maxRecDepth 20000 in
theorem gX12_beside_X12_isMan : GoodIn wsX12_beside (wsV RX12 269 RX12 yX12_isMan wsX12_isMan) := goodIn_app (goodIn_of _ (by decide +kernel)) ggX12_beside_X12_isMan
set_option maxRecDepth 20000 in
theorem ggX12_beside_X12_asNow : GoodIn wsX12_beside wsX12_asNow := goodIn_r _ [14, 2, 15, 16, 17, 6, 18, 19, 20, 21, 89, 90, 91, 92, 93, 94, 95, 96, 97, 98, 99, 100, 101, 102, 103, 104, 105, 106, 107, 108, 109, 110, 111, 112, 113, 114, 115, 116, 117, 118, 119, 120, 121, 122, 123, 124, 125, 126, 127, 128, 129, 130, 131, 132, 133, 134, 135] (by decide +kernel) (by decide +kernel)
set_option maxRecDepth 20000 in
theorem gX12_beside_X12_asNow : GoodIn wsX12_beside (wsV RX12 318 RX12 yX12_asNow wsX12_asNow) := goodIn_app (goodIn_of _ (by decide +kernel)) ggX12_beside_X12_asNow
set_option maxRecDepth 20000 in
theorem ggX12_beside_X12_stands : GoodIn wsX12_beside wsX12_stands := goodIn_r _ [18, 19, 2, 20, 21, 89, 90, 91, 92, 93, 94, 95, 96, 97, 98, 99, 100, 101, 102, 103, 104, 105, 106, 107, 108, 109, 110, 111, 112, 113, 114, 115, 116, 117, 118, 119, 120, 121, 122, 123, 124, 125, 126, 127, 128, 129, 130, 131, 132, 133, 134, 135] (by decide +kernel) (by decide +kernel)
set_option maxRecDepth 20000 in
theorem gX12_beside_X12_stands : GoodIn wsX12_beside (wsV RX12 279 RX12 yX12_stands wsX12_stands) := goodIn_app (goodIn_of _ (by decide +kernel)) ggX12_beside_X12_stands
set_option maxRecDepth 20000 in
theorem ggX12_beside_X12_meanOf : GoodIn wsX12_beside wsX12_meanOf := goodIn_r _ [25, 2, 26, 27, 28, 29, 6, 30, 31, 32, 33, 34, 35, 36, 37, 38, 39, 40, 41, 42, 43, 44, 45, 46, 47, 21, 19, 48, 49, 50, 51, 20, 52, 53, 54, 55, 56, 57, 58, 59, 60, 61, 62, 63, 64, 65, 66, 67, 68, 69, 70, 71, 72, 73, 74, 75, 76, 77, 89, 90, 91, 92, 93, 94, 95, 96, 97, 98, 99, 100, 101, 102, 103, 104, 105, 106, 107, 108, 109, 110, 111, 112, 113, 114, 115, 116, 117, 118, 119, 120, 121, 122, 123, 124, 125, 126, 127, 128, 129, 130, 131, 132, 133, 134, 135] (by decide +kernel) (by decide +kernel)
set_option maxRecDepth 20000 in
theorem gX12_beside_X12_meanOf : GoodIn wsX12_beside (wsV RX12 369 RX12 yX12_meanOf wsX12_meanOf) := goodIn_app (goodIn_of _ (by decide +kernel)) ggX12_beside_X12_meanOf
set_option maxRecDepth 20000 in
theorem ggX12_beside_X12_tellsBetter : GoodIn wsX12_beside wsX12_tellsBetter := goodIn_r _ [81, 82, 83, 84, 85, 86, 87, 6, 88, 2, 89, 90, 91, 92, 93, 94, 95, 96, 97, 98, 99, 100, 101, 102, 103, 104, 105, 106, 107, 108, 109, 110, 111, 112, 113, 114, 115, 116, 117, 118, 119, 120, 121, 122, 123, 124, 125, 126, 127, 128, 129, 130, 131, 132, 133, 134, 135] (by decide +kernel) (by decide +kernel)
set_option maxRecDepth 20000 in
theorem gX12_beside_X12_tellsBetter : GoodIn wsX12_beside (wsV RX12 388 RX12 yX12_tellsBetter wsX12_tellsBetter) := goodIn_app (goodIn_of _ (by decide +kernel)) ggX12_beside_X12_tellsBetter
theorem dX12_beside_0 : decode cX12_beside 0 = .ok (.aload_n 0, 1) := by decide +kernel
theorem dX12_beside_1 : decode cX12_beside 1 = .ok (.iconst 0, 1) := by decide +kernel
theorem dX12_beside_2 : decode cX12_beside 2 = .ok (.putfield 1, 3) := by decide +kernel
theorem dX12_beside_5 : decode cX12_beside 5 = .ok (.aload_n 0, 1) := by decide +kernel
theorem dX12_beside_6 : decode cX12_beside 6 = .ok (.iload_n 1, 1) := by decide +kernel
theorem dX12_beside_7 : decode cX12_beside 7 = .ok (.invokevirtual 269, 3) := by decide +kernel
theorem dX12_beside_10 : decode cX12_beside 10 = .ok (.ifCond .eq 12, 3) := by decide +kernel
theorem dX12_beside_13 : decode cX12_beside 13 = .ok (.aload_n 0, 1) := by decide +kernel
theorem dX12_beside_14 : decode cX12_beside 14 = .ok (.getfield 33, 3) := by decide +kernel
theorem dX12_beside_17 : decode cX12_beside 17 = .ok (.iconst 2, 1) := by decide +kernel
theorem dX12_beside_18 : decode cX12_beside 18 = .ok (.iaload, 1) := by decide +kernel
theorem dX12_beside_19 : decode cX12_beside 19 = .ok (.ifCond .ne 5, 3) := by decide +kernel
theorem dX12_beside_22 : decode cX12_beside 22 = .ok (.iconst (-1), 1) := by decide +kernel
theorem dX12_beside_23 : decode cX12_beside 23 = .ok (.ireturn, 1) := by decide +kernel
theorem dX12_beside_24 : decode cX12_beside 24 = .ok (.aload_n 0, 1) := by decide +kernel
theorem dX12_beside_25 : decode cX12_beside 25 = .ok (.invokevirtual 318, 3) := by decide +kernel
theorem dX12_beside_28 : decode cX12_beside 28 = .ok (.iconst (-1), 1) := by decide +kernel
theorem dX12_beside_29 : decode cX12_beside 29 = .ok (.istore_n 2, 1) := by decide +kernel
theorem dX12_beside_30 : decode cX12_beside 30 = .ok (.iconst 0, 1) := by decide +kernel
theorem dX12_beside_31 : decode cX12_beside 31 = .ok (.istore_n 3, 1) := by decide +kernel
theorem dX12_beside_32 : decode cX12_beside 32 = .ok (.iconst 0, 1) := by decide +kernel
theorem dX12_beside_33 : decode cX12_beside 33 = .ok (.istore 4, 2) := by decide +kernel
theorem dX12_beside_35 : decode cX12_beside 35 = .ok (.iload 4, 2) := by decide +kernel
theorem dX12_beside_37 : decode cX12_beside 37 = .ok (.aload_n 0, 1) := by decide +kernel
theorem dX12_beside_38 : decode cX12_beside 38 = .ok (.getfield 33, 3) := by decide +kernel
theorem dX12_beside_41 : decode cX12_beside 41 = .ok (.iconst 0, 1) := by decide +kernel
theorem dX12_beside_42 : decode cX12_beside 42 = .ok (.iaload, 1) := by decide +kernel
theorem dX12_beside_43 : decode cX12_beside 43 = .ok (.if_icmp .ge 42, 3) := by decide +kernel
theorem dX12_beside_46 : decode cX12_beside 46 = .ok (.aload_n 0, 1) := by decide +kernel
theorem dX12_beside_47 : decode cX12_beside 47 = .ok (.iload_n 1, 1) := by decide +kernel
theorem dX12_beside_48 : decode cX12_beside 48 = .ok (.iload 4, 2) := by decide +kernel
theorem dX12_beside_50 : decode cX12_beside 50 = .ok (.invokevirtual 279, 3) := by decide +kernel
theorem dX12_beside_53 : decode cX12_beside 53 = .ok (.aload_n 0, 1) := by decide +kernel
theorem dX12_beside_54 : decode cX12_beside 54 = .ok (.iload_n 1, 1) := by decide +kernel
theorem dX12_beside_55 : decode cX12_beside 55 = .ok (.invokevirtual 369, 3) := by decide +kernel
theorem dX12_beside_58 : decode cX12_beside 58 = .ok (.istore 5, 2) := by decide +kernel
theorem dX12_beside_60 : decode cX12_beside 60 = .ok (.iload_n 2, 1) := by decide +kernel
theorem dX12_beside_61 : decode cX12_beside 61 = .ok (.ifCond .lt 12, 3) := by decide +kernel
theorem dX12_beside_64 : decode cX12_beside 64 = .ok (.iload 5, 2) := by decide +kernel
theorem dX12_beside_66 : decode cX12_beside 66 = .ok (.iload_n 3, 1) := by decide +kernel
theorem dX12_beside_67 : decode cX12_beside 67 = .ok (.if_icmp .gt 6, 3) := by decide +kernel
theorem dX12_beside_70 : decode cX12_beside 70 = .ok (.goto 9, 3) := by decide +kernel
theorem dX12_beside_73 : decode cX12_beside 73 = .ok (.iload 4, 2) := by decide +kernel
theorem dX12_beside_75 : decode cX12_beside 75 = .ok (.istore_n 2, 1) := by decide +kernel
theorem dX12_beside_76 : decode cX12_beside 76 = .ok (.iload 5, 2) := by decide +kernel
theorem dX12_beside_78 : decode cX12_beside 78 = .ok (.istore_n 3, 1) := by decide +kernel
theorem dX12_beside_79 : decode cX12_beside 79 = .ok (.iinc 4 1, 3) := by decide +kernel
theorem dX12_beside_82 : decode cX12_beside 82 = .ok (.goto (-47), 3) := by decide +kernel
theorem dX12_beside_85 : decode cX12_beside 85 = .ok (.aload_n 0, 1) := by decide +kernel
theorem dX12_beside_86 : decode cX12_beside 86 = .ok (.iload_n 3, 1) := by decide +kernel
theorem dX12_beside_87 : decode cX12_beside 87 = .ok (.invokevirtual 388, 3) := by decide +kernel
theorem dX12_beside_90 : decode cX12_beside 90 = .ok (.iload_n 2, 1) := by decide +kernel
theorem dX12_beside_91 : decode cX12_beside 91 = .ok (.ireturn, 1) := by decide +kernel
set_option maxRecDepth 20000 in
theorem ggX12_hut_X12_isMan : GoodIn wsX12_hut wsX12_isMan := goodIn_r _ [10, 2, 11, 12, 9, 13, 89, 90, 91, 92, 93, 94, 95, 96, 97, 98, 99, 100, 101, 102, 103, 104, 105, 106, 107, 108, 109, 110, 111, 112, 113, 114, 115, 116, 117, 118, 119, 120, 121, 122, 123, 124, 125, 126, 127, 128, 129, 130, 131, 132, 133, 134, 135] (by decide +kernel) (by decide +kernel)
set_option maxRecDepth 20000 in
theorem gX12_hut_X12_isMan : GoodIn wsX12_hut (wsV RX12 269 RX12 yX12_isMan wsX12_isMan) := goodIn_app (goodIn_of _ (by decide +kernel)) ggX12_hut_X12_isMan
set_option maxRecDepth 20000 in
theorem ggX12_hut_X12_asNow : GoodIn wsX12_hut wsX12_asNow := goodIn_r _ [17, 2, 18, 19, 20, 9, 21, 4, 5, 3, 89, 90, 91, 92, 93, 94, 95, 96, 97, 98, 99, 100, 101, 102, 103, 104, 105, 106, 107, 108, 109, 110, 111, 112, 113, 114, 115, 116, 117, 118, 119, 120, 121, 122, 123, 124, 125, 126, 127, 128, 129, 130, 131, 132, 133, 134, 135] (by decide +kernel) (by decide +kernel)
set_option maxRecDepth 20000 in
theorem gX12_hut_X12_asNow : GoodIn wsX12_hut (wsV RX12 318 RX12 yX12_asNow wsX12_asNow) := goodIn_app (goodIn_of _ (by decide +kernel)) ggX12_hut_X12_asNow
set_option maxRecDepth 20000 in
theorem ggX12_hut_X12_meanOf : GoodIn wsX12_hut wsX12_meanOf := goodIn_r _ [25, 2, 26, 27, 28, 29, 9, 30, 31, 32, 33, 34, 35, 36, 37, 38, 39, 40, 41, 42, 43, 44, 45, 46, 47, 3, 4, 48, 49, 50, 51, 5, 52, 53, 54, 55, 56, 57, 58, 59, 60, 61, 62, 63, 64, 65, 66, 67, 68, 69, 70, 71, 72, 73, 74, 75, 76, 77, 89, 90, 91, 92, 93, 94, 95, 96, 97, 98, 99, 100, 101, 102, 103, 104, 105, 106, 107, 108, 109, 110, 111, 112, 113, 114, 115, 116, 117, 118, 119, 120, 121, 122, 123, 124, 125, 126, 127, 128, 129, 130, 131, 132, 133, 134, 135] (by decide +kernel) (by decide +kernel)
set_option maxRecDepth 20000 in
theorem gX12_hut_X12_meanOf : GoodIn wsX12_hut (wsV RX12 369 RX12 yX12_meanOf wsX12_meanOf) := goodIn_app (goodIn_of _ (by decide +kernel)) ggX12_hut_X12_meanOf
set_option maxRecDepth 20000 in
theorem ggX12_hut_X12_tellsBetter : GoodIn wsX12_hut wsX12_tellsBetter := goodIn_r _ [81, 82, 83, 84, 85, 86, 87, 9, 88, 2, 89, 90, 91, 92, 93, 94, 95, 96, 97, 98, 99, 100, 101, 102, 103, 104, 105, 106, 107, 108, 109, 110, 111, 112, 113, 114, 115, 116, 117, 118, 119, 120, 121, 122, 123, 124, 125, 126, 127, 128, 129, 130, 131, 132, 133, 134, 135] (by decide +kernel) (by decide +kernel)
set_option maxRecDepth 20000 in
theorem gX12_hut_X12_tellsBetter : GoodIn wsX12_hut (wsV RX12 388 RX12 yX12_tellsBetter wsX12_tellsBetter) := goodIn_app (goodIn_of _ (by decide +kernel)) ggX12_hut_X12_tellsBetter
theorem dX12_hut_0 : decode cX12_hut 0 = .ok (.aload_n 0, 1) := by decide +kernel
theorem dX12_hut_1 : decode cX12_hut 1 = .ok (.iconst 0, 1) := by decide +kernel
theorem dX12_hut_2 : decode cX12_hut 2 = .ok (.putfield 1, 3) := by decide +kernel
theorem dX12_hut_5 : decode cX12_hut 5 = .ok (.aload_n 0, 1) := by decide +kernel
theorem dX12_hut_6 : decode cX12_hut 6 = .ok (.iload_n 1, 1) := by decide +kernel
theorem dX12_hut_7 : decode cX12_hut 7 = .ok (.invokevirtual 269, 3) := by decide +kernel
theorem dX12_hut_10 : decode cX12_hut 10 = .ok (.ifCond .eq 12, 3) := by decide +kernel
theorem dX12_hut_13 : decode cX12_hut 13 = .ok (.aload_n 0, 1) := by decide +kernel
theorem dX12_hut_14 : decode cX12_hut 14 = .ok (.getfield 33, 3) := by decide +kernel
theorem dX12_hut_17 : decode cX12_hut 17 = .ok (.iconst 2, 1) := by decide +kernel
theorem dX12_hut_18 : decode cX12_hut 18 = .ok (.iaload, 1) := by decide +kernel
theorem dX12_hut_19 : decode cX12_hut 19 = .ok (.ifCond .ne 5, 3) := by decide +kernel
theorem dX12_hut_22 : decode cX12_hut 22 = .ok (.iconst (-1), 1) := by decide +kernel
theorem dX12_hut_23 : decode cX12_hut 23 = .ok (.ireturn, 1) := by decide +kernel
theorem dX12_hut_24 : decode cX12_hut 24 = .ok (.aload_n 0, 1) := by decide +kernel
theorem dX12_hut_25 : decode cX12_hut 25 = .ok (.invokevirtual 318, 3) := by decide +kernel
theorem dX12_hut_28 : decode cX12_hut 28 = .ok (.aload_n 0, 1) := by decide +kernel
theorem dX12_hut_29 : decode cX12_hut 29 = .ok (.getfield 56, 3) := by decide +kernel
theorem dX12_hut_32 : decode cX12_hut 32 = .ok (.iload_n 1, 1) := by decide +kernel
theorem dX12_hut_33 : decode cX12_hut 33 = .ok (.iconst 0, 1) := by decide +kernel
theorem dX12_hut_34 : decode cX12_hut 34 = .ok (.iastore, 1) := by decide +kernel
theorem dX12_hut_35 : decode cX12_hut 35 = .ok (.iconst (-1), 1) := by decide +kernel
theorem dX12_hut_36 : decode cX12_hut 36 = .ok (.istore_n 2, 1) := by decide +kernel
theorem dX12_hut_37 : decode cX12_hut 37 = .ok (.iconst 0, 1) := by decide +kernel
theorem dX12_hut_38 : decode cX12_hut 38 = .ok (.istore_n 3, 1) := by decide +kernel
theorem dX12_hut_39 : decode cX12_hut 39 = .ok (.iconst 0, 1) := by decide +kernel
theorem dX12_hut_40 : decode cX12_hut 40 = .ok (.istore 4, 2) := by decide +kernel
theorem dX12_hut_42 : decode cX12_hut 42 = .ok (.iload 4, 2) := by decide +kernel
theorem dX12_hut_44 : decode cX12_hut 44 = .ok (.bipush 20, 2) := by decide +kernel
theorem dX12_hut_46 : decode cX12_hut 46 = .ok (.if_icmp .gt 73, 3) := by decide +kernel
theorem dX12_hut_49 : decode cX12_hut 49 = .ok (.iconst 0, 1) := by decide +kernel
theorem dX12_hut_50 : decode cX12_hut 50 = .ok (.istore 5, 2) := by decide +kernel
theorem dX12_hut_52 : decode cX12_hut 52 = .ok (.iload 5, 2) := by decide +kernel
theorem dX12_hut_54 : decode cX12_hut 54 = .ok (.bipush 20, 2) := by decide +kernel
theorem dX12_hut_56 : decode cX12_hut 56 = .ok (.if_icmp .gt 57, 3) := by decide +kernel
theorem dX12_hut_59 : decode cX12_hut 59 = .ok (.aload_n 0, 1) := by decide +kernel
theorem dX12_hut_60 : decode cX12_hut 60 = .ok (.getfield 50, 3) := by decide +kernel
theorem dX12_hut_63 : decode cX12_hut 63 = .ok (.iload_n 1, 1) := by decide +kernel
theorem dX12_hut_64 : decode cX12_hut 64 = .ok (.iload 5, 2) := by decide +kernel
theorem dX12_hut_66 : decode cX12_hut 66 = .ok (.iastore, 1) := by decide +kernel
theorem dX12_hut_67 : decode cX12_hut 67 = .ok (.aload_n 0, 1) := by decide +kernel
theorem dX12_hut_68 : decode cX12_hut 68 = .ok (.getfield 53, 3) := by decide +kernel
theorem dX12_hut_71 : decode cX12_hut 71 = .ok (.iload_n 1, 1) := by decide +kernel
theorem dX12_hut_72 : decode cX12_hut 72 = .ok (.iload 4, 2) := by decide +kernel
theorem dX12_hut_74 : decode cX12_hut 74 = .ok (.iastore, 1) := by decide +kernel
theorem dX12_hut_75 : decode cX12_hut 75 = .ok (.aload_n 0, 1) := by decide +kernel
theorem dX12_hut_76 : decode cX12_hut 76 = .ok (.iload_n 1, 1) := by decide +kernel
theorem dX12_hut_77 : decode cX12_hut 77 = .ok (.invokevirtual 369, 3) := by decide +kernel
theorem dX12_hut_80 : decode cX12_hut 80 = .ok (.istore 6, 2) := by decide +kernel
theorem dX12_hut_82 : decode cX12_hut 82 = .ok (.iload_n 2, 1) := by decide +kernel
theorem dX12_hut_83 : decode cX12_hut 83 = .ok (.ifCond .lt 12, 3) := by decide +kernel
theorem dX12_hut_86 : decode cX12_hut 86 = .ok (.iload 6, 2) := by decide +kernel
theorem dX12_hut_88 : decode cX12_hut 88 = .ok (.iload_n 3, 1) := by decide +kernel
theorem dX12_hut_89 : decode cX12_hut 89 = .ok (.if_icmp .gt 6, 3) := by decide +kernel
theorem dX12_hut_92 : decode cX12_hut 92 = .ok (.goto 15, 3) := by decide +kernel
theorem dX12_hut_95 : decode cX12_hut 95 = .ok (.bipush 100, 2) := by decide +kernel
theorem dX12_hut_97 : decode cX12_hut 97 = .ok (.iload 4, 2) := by decide +kernel
theorem dX12_hut_99 : decode cX12_hut 99 = .ok (.imul, 1) := by decide +kernel
theorem dX12_hut_100 : decode cX12_hut 100 = .ok (.iload 5, 2) := by decide +kernel
theorem dX12_hut_102 : decode cX12_hut 102 = .ok (.iadd, 1) := by decide +kernel
theorem dX12_hut_103 : decode cX12_hut 103 = .ok (.istore_n 2, 1) := by decide +kernel
theorem dX12_hut_104 : decode cX12_hut 104 = .ok (.iload 6, 2) := by decide +kernel
theorem dX12_hut_106 : decode cX12_hut 106 = .ok (.istore_n 3, 1) := by decide +kernel
theorem dX12_hut_107 : decode cX12_hut 107 = .ok (.iinc 5 1, 3) := by decide +kernel
theorem dX12_hut_110 : decode cX12_hut 110 = .ok (.goto (-58), 3) := by decide +kernel
theorem dX12_hut_113 : decode cX12_hut 113 = .ok (.iinc 4 1, 3) := by decide +kernel
theorem dX12_hut_116 : decode cX12_hut 116 = .ok (.goto (-74), 3) := by decide +kernel
theorem dX12_hut_119 : decode cX12_hut 119 = .ok (.aload_n 0, 1) := by decide +kernel
theorem dX12_hut_120 : decode cX12_hut 120 = .ok (.iload_n 3, 1) := by decide +kernel
theorem dX12_hut_121 : decode cX12_hut 121 = .ok (.invokevirtual 388, 3) := by decide +kernel
theorem dX12_hut_124 : decode cX12_hut 124 = .ok (.iload_n 2, 1) := by decide +kernel
theorem dX12_hut_125 : decode cX12_hut 125 = .ok (.ireturn, 1) := by decide +kernel
set_option maxRecDepth 20000 in
theorem ggX12_better_X12_isIn : GoodIn wsX12_better wsX12_isIn := goodIn_r _ [7] (by decide +kernel) (by decide +kernel)
set_option maxRecDepth 20000 in
theorem gX12_better_X12_isIn : GoodIn wsX12_better (va_wsS RX12 191 yX12_isIn wsX12_isIn) := goodIn_app (goodIn_of _ (by decide +kernel)) ggX12_better_X12_isIn
set_option maxRecDepth 20000 in
theorem ggX12_better_X12_throwsIf : GoodIn wsX12_better wsX12_throwsIf := goodIn_r _ [11, 12, 16, 17, 18, 19, 20, 21, 22, 23, 24, 25, 26, 27, 28, 29, 30, 31, 32, 33, 34, 35, 36, 37, 38, 39, 40, 41, 42, 43, 44, 45, 46, 47, 48, 49, 50, 51, 52, 53, 54, 55, 56, 57, 58, 59, 60, 61, 62] (by decide +kernel) (by decide +kernel)
set_option maxRecDepth 20000 in
theorem gX12_better_X12_throwsIf : GoodIn wsX12_better (wsV RX12 272 RX12 yX12_throwsIf wsX12_throwsIf) := goodIn_app (goodIn_of _ (by decide +kernel)) ggX12_better_X12_throwsIf
set_option maxRecDepth 20000 in
theorem ggX12_better_X12_part : GoodIn wsX12_better wsX12_part := goodIn_r _ [15] (by decide +kernel) (by decide +kernel)
set_option maxRecDepth 20000 in
theorem gX12_better_X12_part : GoodIn wsX12_better (va_wsS RX12 375 yX12_part wsX12_part) := goodIn_app (goodIn_of _ (by decide +kernel)) ggX12_better_X12_part
theorem dX12_better_0 : decode cX12_better 0 = .ok (.aload_n 0, 1) := by decide +kernel
theorem dX12_better_1 : decode cX12_better 1 = .ok (.aload_n 0, 1) := by decide +kernel
theorem dX12_better_2 : decode cX12_better 2 = .ok (.getfield 378, 3) := by decide +kernel
theorem dX12_better_5 : decode cX12_better 5 = .ok (.ifCond .eq 12, 3) := by decide +kernel
theorem dX12_better_8 : decode cX12_better 8 = .ok (.iload_n 1, 1) := by decide +kernel
theorem dX12_better_9 : decode cX12_better 9 = .ok (.iconst 0, 1) := by decide +kernel
theorem dX12_better_10 : decode cX12_better 10 = .ok (.iconst 1, 1) := by decide +kernel
theorem dX12_better_11 : decode cX12_better 11 = .ok (.invokestatic 191, 3) := by decide +kernel
theorem dX12_better_14 : decode cX12_better 14 = .ok (.ifCond .ne 7, 3) := by decide +kernel
theorem dX12_better_17 : decode cX12_better 17 = .ok (.iconst 1, 1) := by decide +kernel
theorem dX12_better_18 : decode cX12_better 18 = .ok (.goto 4, 3) := by decide +kernel
theorem dX12_better_21 : decode cX12_better 21 = .ok (.iconst 0, 1) := by decide +kernel
theorem dX12_better_22 : decode cX12_better 22 = .ok (.invokevirtual 272, 3) := by decide +kernel
theorem dX12_better_25 : decode cX12_better 25 = .ok (.ifCond .eq 7, 3) := by decide +kernel
theorem dX12_better_28 : decode cX12_better 28 = .ok (.iconst 0, 1) := by decide +kernel
theorem dX12_better_29 : decode cX12_better 29 = .ok (.goto 15, 3) := by decide +kernel
theorem dX12_better_32 : decode cX12_better 32 = .ok (.aload_n 0, 1) := by decide +kernel
theorem dX12_better_33 : decode cX12_better 33 = .ok (.getfield 382, 3) := by decide +kernel
theorem dX12_better_36 : decode cX12_better 36 = .ok (.aload_n 0, 1) := by decide +kernel
theorem dX12_better_37 : decode cX12_better 37 = .ok (.getfield 385, 3) := by decide +kernel
theorem dX12_better_40 : decode cX12_better 40 = .ok (.iload_n 1, 1) := by decide +kernel
theorem dX12_better_41 : decode cX12_better 41 = .ok (.invokestatic 375, 3) := by decide +kernel
theorem dX12_better_44 : decode cX12_better 44 = .ok (.ireturn, 1) := by decide +kernel
set_option maxRecDepth 20000 in
theorem ggX12_whence_X12_taken : GoodIn wsX12_whence wsX12_taken := goodIn_r _ [8, 9, 2, 10, 11, 54, 55, 56, 57, 58, 59, 60, 61, 62, 63, 64, 65, 66, 67, 68, 69, 70, 71, 72, 73, 74, 75, 76, 77, 78, 79, 80, 81, 82, 83, 84, 85, 86, 87, 88, 89, 90, 91, 92, 93, 94, 95, 96, 97, 98, 99, 100] (by decide +kernel) (by decide +kernel)
set_option maxRecDepth 20000 in
theorem gX12_whence_X12_taken : GoodIn wsX12_whence (wsV RX12 244 RX12 yX12_taken wsX12_taken) := goodIn_app (goodIn_of _ (by decide +kernel)) ggX12_whence_X12_taken
set_option maxRecDepth 20000 in
theorem ggX12_whence_X12_isIn : GoodIn wsX12_whence wsX12_isIn := goodIn_r _ [14] (by decide +kernel) (by decide +kernel)
set_option maxRecDepth 20000 in
theorem gX12_whence_X12_isIn : GoodIn wsX12_whence (va_wsS RX12 191 yX12_isIn wsX12_isIn) := goodIn_app (goodIn_of _ (by decide +kernel)) ggX12_whence_X12_isIn
set_option maxRecDepth 20000 in
theorem ggX12_whence_X12_octet : GoodIn wsX12_whence wsX12_octet := goodIn_r _ [18, 19, 54, 55, 56, 57, 58, 59, 60, 61, 62, 63, 64, 65, 66, 67, 68, 69, 70, 71, 72, 73, 74, 75, 76, 77, 78, 79, 80, 81, 82, 83, 84, 85, 86, 87, 88, 89, 90, 91, 92, 93, 94, 95, 96, 97, 98, 99, 100] (by decide +kernel) (by decide +kernel)
set_option maxRecDepth 20000 in
theorem gX12_whence_X12_octet : GoodIn wsX12_whence (wsV RX12 391 RX12 yX12_octet wsX12_octet) := goodIn_app (goodIn_of _ (by decide +kernel)) ggX12_whence_X12_octet
set_option maxRecDepth 20000 in
theorem ggX12_whence_X12_isMan : GoodIn wsX12_whence wsX12_isMan := goodIn_r _ [23, 3, 12, 13, 7, 14, 54, 55, 56, 57, 58, 59, 60, 61, 62, 63, 64, 65, 66, 67, 68, 69, 70, 71, 72, 73, 74, 75, 76, 77, 78, 79, 80, 81, 82, 83, 84, 85, 86, 87, 88, 89, 90, 91, 92, 93, 94, 95, 96, 97, 98, 99, 100] (by decide +kernel) (by decide +kernel)
set_option maxRecDepth 20000 in
theorem gX12_whence_X12_isMan : GoodIn wsX12_whence (wsV RX12 269 RX12 yX12_isMan wsX12_isMan) := goodIn_app (goodIn_of _ (by decide +kernel)) ggX12_whence_X12_isMan
set_option maxRecDepth 20000 in
theorem ggX12_whence_X12_asNow : GoodIn wsX12_whence wsX12_asNow := goodIn_r _ [27, 3, 28, 29, 30, 7, 31, 32, 33, 34, 54, 55, 56, 57, 58, 59, 60, 61, 62, 63, 64, 65, 66, 67, 68, 69, 70, 71, 72, 73, 74, 75, 76, 77, 78, 79, 80, 81, 82, 83, 84, 85, 86, 87, 88, 89, 90, 91, 92, 93, 94, 95, 96, 97, 98, 99, 100] (by decide +kernel) (by decide +kernel)
set_option maxRecDepth 20000 in
theorem gX12_whence_X12_asNow : GoodIn wsX12_whence (wsV RX12 318 RX12 yX12_asNow wsX12_asNow) := goodIn_app (goodIn_of _ (by decide +kernel)) ggX12_whence_X12_asNow
set_option maxRecDepth 20000 in
theorem ggX12_whence_X12_canHear : GoodIn wsX12_whence wsX12_canHear := goodIn_r _ [38, 3, 34, 32, 39, 40, 41, 7, 42, 33, 43, 44, 45, 46, 47, 48, 49, 50, 51, 52, 53, 54, 55, 56, 57, 58, 59, 60, 61, 62, 63, 64, 65, 66, 67, 68, 69, 70, 71, 72, 73, 74, 75, 76, 77, 78, 79, 80, 81, 82, 83, 84, 85, 86, 87, 88, 89, 90, 91, 92, 93, 94, 95, 96, 97, 98, 99, 100] (by decide +kernel) (by decide +kernel)
set_option maxRecDepth 20000 in
theorem gX12_whence_X12_canHear : GoodIn wsX12_whence (wsV RX12 293 RX12 yX12_canHear wsX12_canHear) := goodIn_app (goodIn_of _ (by decide +kernel)) ggX12_whence_X12_canHear
theorem dX12_whence_0 : decode cX12_whence 0 = .ok (.aload_n 0, 1) := by decide +kernel
theorem dX12_whence_1 : decode cX12_whence 1 = .ok (.iconst 0, 1) := by decide +kernel
theorem dX12_whence_2 : decode cX12_whence 2 = .ok (.putfield 1, 3) := by decide +kernel
theorem dX12_whence_5 : decode cX12_whence 5 = .ok (.aload_n 0, 1) := by decide +kernel
theorem dX12_whence_6 : decode cX12_whence 6 = .ok (.sipush 940, 3) := by decide +kernel
theorem dX12_whence_9 : decode cX12_whence 9 = .ok (.invokevirtual 244, 3) := by decide +kernel
theorem dX12_whence_12 : decode cX12_whence 12 = .ok (.aload_n 0, 1) := by decide +kernel
theorem dX12_whence_13 : decode cX12_whence 13 = .ok (.getfield 18, 3) := by decide +kernel
theorem dX12_whence_16 : decode cX12_whence 16 = .ok (.iconst 2, 1) := by decide +kernel
theorem dX12_whence_17 : decode cX12_whence 17 = .ok (.bipush 40, 2) := by decide +kernel
theorem dX12_whence_19 : decode cX12_whence 19 = .ok (.invokestatic 191, 3) := by decide +kernel
theorem dX12_whence_22 : decode cX12_whence 22 = .ok (.ifCond .eq 13, 3) := by decide +kernel
theorem dX12_whence_25 : decode cX12_whence 25 = .ok (.aload_n 0, 1) := by decide +kernel
theorem dX12_whence_26 : decode cX12_whence 26 = .ok (.getfield 18, 3) := by decide +kernel
theorem dX12_whence_29 : decode cX12_whence 29 = .ok (.iconst 2, 1) := by decide +kernel
theorem dX12_whence_30 : decode cX12_whence 30 = .ok (.irem, 1) := by decide +kernel
theorem dX12_whence_31 : decode cX12_whence 31 = .ok (.iconst 1, 1) := by decide +kernel
theorem dX12_whence_32 : decode cX12_whence 32 = .ok (.if_icmp .ne 5, 3) := by decide +kernel
theorem dX12_whence_35 : decode cX12_whence 35 = .ok (.iconst (-1), 1) := by decide +kernel
theorem dX12_whence_36 : decode cX12_whence 36 = .ok (.ireturn, 1) := by decide +kernel
theorem dX12_whence_37 : decode cX12_whence 37 = .ok (.iconst 0, 1) := by decide +kernel
theorem dX12_whence_38 : decode cX12_whence 38 = .ok (.istore_n 1, 1) := by decide +kernel
theorem dX12_whence_39 : decode cX12_whence 39 = .ok (.iload_n 1, 1) := by decide +kernel
theorem dX12_whence_40 : decode cX12_whence 40 = .ok (.aload_n 0, 1) := by decide +kernel
theorem dX12_whence_41 : decode cX12_whence 41 = .ok (.getfield 18, 3) := by decide +kernel
theorem dX12_whence_44 : decode cX12_whence 44 = .ok (.if_icmp .ge 23, 3) := by decide +kernel
theorem dX12_whence_47 : decode cX12_whence 47 = .ok (.aload_n 0, 1) := by decide +kernel
theorem dX12_whence_48 : decode cX12_whence 48 = .ok (.aload_n 0, 1) := by decide +kernel
theorem dX12_whence_49 : decode cX12_whence 49 = .ok (.iload_n 1, 1) := by decide +kernel
theorem dX12_whence_50 : decode cX12_whence 50 = .ok (.invokevirtual 391, 3) := by decide +kernel
theorem dX12_whence_53 : decode cX12_whence 53 = .ok (.invokevirtual 269, 3) := by decide +kernel
theorem dX12_whence_56 : decode cX12_whence 56 = .ok (.ifCond .ne 5, 3) := by decide +kernel
theorem dX12_whence_59 : decode cX12_whence 59 = .ok (.iconst (-1), 1) := by decide +kernel
theorem dX12_whence_60 : decode cX12_whence 60 = .ok (.ireturn, 1) := by decide +kernel
theorem dX12_whence_61 : decode cX12_whence 61 = .ok (.iinc 1 2, 3) := by decide +kernel
theorem dX12_whence_64 : decode cX12_whence 64 = .ok (.goto (-25), 3) := by decide +kernel
theorem dX12_whence_67 : decode cX12_whence 67 = .ok (.aload_n 0, 1) := by decide +kernel
theorem dX12_whence_68 : decode cX12_whence 68 = .ok (.invokevirtual 318, 3) := by decide +kernel
theorem dX12_whence_71 : decode cX12_whence 71 = .ok (.iconst 0, 1) := by decide +kernel
theorem dX12_whence_72 : decode cX12_whence 72 = .ok (.istore_n 1, 1) := by decide +kernel
theorem dX12_whence_73 : decode cX12_whence 73 = .ok (.iconst 0, 1) := by decide +kernel
theorem dX12_whence_74 : decode cX12_whence 74 = .ok (.istore_n 2, 1) := by decide +kernel
theorem dX12_whence_75 : decode cX12_whence 75 = .ok (.iload_n 2, 1) := by decide +kernel
theorem dX12_whence_76 : decode cX12_whence 76 = .ok (.aload_n 0, 1) := by decide +kernel
theorem dX12_whence_77 : decode cX12_whence 77 = .ok (.getfield 33, 3) := by decide +kernel
theorem dX12_whence_80 : decode cX12_whence 80 = .ok (.iconst 2, 1) := by decide +kernel
theorem dX12_whence_81 : decode cX12_whence 81 = .ok (.iaload, 1) := by decide +kernel
theorem dX12_whence_82 : decode cX12_whence 82 = .ok (.if_icmp .ge 124, 3) := by decide +kernel
theorem dX12_whence_85 : decode cX12_whence 85 = .ok (.iconst 1, 1) := by decide +kernel
theorem dX12_whence_86 : decode cX12_whence 86 = .ok (.istore_n 3, 1) := by decide +kernel
theorem dX12_whence_87 : decode cX12_whence 87 = .ok (.iconst 0, 1) := by decide +kernel
theorem dX12_whence_88 : decode cX12_whence 88 = .ok (.istore 4, 2) := by decide +kernel
theorem dX12_whence_90 : decode cX12_whence 90 = .ok (.iload 4, 2) := by decide +kernel
theorem dX12_whence_92 : decode cX12_whence 92 = .ok (.aload_n 0, 1) := by decide +kernel
theorem dX12_whence_93 : decode cX12_whence 93 = .ok (.getfield 18, 3) := by decide +kernel
theorem dX12_whence_96 : decode cX12_whence 96 = .ok (.if_icmp .ge 90, 3) := by decide +kernel
theorem dX12_whence_99 : decode cX12_whence 99 = .ok (.iload_n 3, 1) := by decide +kernel
theorem dX12_whence_100 : decode cX12_whence 100 = .ok (.ifCond .eq 86, 3) := by decide +kernel
theorem dX12_whence_103 : decode cX12_whence 103 = .ok (.iconst 0, 1) := by decide +kernel
theorem dX12_whence_104 : decode cX12_whence 104 = .ok (.istore_n 3, 1) := by decide +kernel
theorem dX12_whence_105 : decode cX12_whence 105 = .ok (.iconst 0, 1) := by decide +kernel
theorem dX12_whence_106 : decode cX12_whence 106 = .ok (.istore 5, 2) := by decide +kernel
theorem dX12_whence_108 : decode cX12_whence 108 = .ok (.iload 5, 2) := by decide +kernel
theorem dX12_whence_110 : decode cX12_whence 110 = .ok (.aload_n 0, 1) := by decide +kernel
theorem dX12_whence_111 : decode cX12_whence 111 = .ok (.getfield 33, 3) := by decide +kernel
theorem dX12_whence_114 : decode cX12_whence 114 = .ok (.bipush 87, 2) := by decide +kernel
theorem dX12_whence_116 : decode cX12_whence 116 = .ok (.iload_n 2, 1) := by decide +kernel
theorem dX12_whence_117 : decode cX12_whence 117 = .ok (.iadd, 1) := by decide +kernel
theorem dX12_whence_118 : decode cX12_whence 118 = .ok (.iaload, 1) := by decide +kernel
theorem dX12_whence_119 : decode cX12_whence 119 = .ok (.if_icmp .ge 61, 3) := by decide +kernel
theorem dX12_whence_122 : decode cX12_whence 122 = .ok (.iload_n 3, 1) := by decide +kernel
theorem dX12_whence_123 : decode cX12_whence 123 = .ok (.ifCond .ne 45, 3) := by decide +kernel
theorem dX12_whence_126 : decode cX12_whence 126 = .ok (.aload_n 0, 1) := by decide +kernel
theorem dX12_whence_127 : decode cX12_whence 127 = .ok (.getfield 33, 3) := by decide +kernel
theorem dX12_whence_130 : decode cX12_whence 130 = .ok (.bipush 91, 2) := by decide +kernel
theorem dX12_whence_132 : decode cX12_whence 132 = .ok (.bipush 10, 2) := by decide +kernel
theorem dX12_whence_134 : decode cX12_whence 134 = .ok (.iload_n 2, 1) := by decide +kernel
theorem dX12_whence_135 : decode cX12_whence 135 = .ok (.imul, 1) := by decide +kernel
theorem dX12_whence_136 : decode cX12_whence 136 = .ok (.iadd, 1) := by decide +kernel
theorem dX12_whence_137 : decode cX12_whence 137 = .ok (.iload 5, 2) := by decide +kernel
theorem dX12_whence_139 : decode cX12_whence 139 = .ok (.iadd, 1) := by decide +kernel
theorem dX12_whence_140 : decode cX12_whence 140 = .ok (.iaload, 1) := by decide +kernel
theorem dX12_whence_141 : decode cX12_whence 141 = .ok (.aload_n 0, 1) := by decide +kernel
theorem dX12_whence_142 : decode cX12_whence 142 = .ok (.iload 4, 2) := by decide +kernel
theorem dX12_whence_144 : decode cX12_whence 144 = .ok (.iconst 1, 1) := by decide +kernel
theorem dX12_whence_145 : decode cX12_whence 145 = .ok (.iadd, 1) := by decide +kernel
theorem dX12_whence_146 : decode cX12_whence 146 = .ok (.invokevirtual 391, 3) := by decide +kernel
theorem dX12_whence_149 : decode cX12_whence 149 = .ok (.if_icmp .ne 23, 3) := by decide +kernel
theorem dX12_whence_152 : decode cX12_whence 152 = .ok (.aload_n 0, 1) := by decide +kernel
theorem dX12_whence_153 : decode cX12_whence 153 = .ok (.aload_n 0, 1) := by decide +kernel
theorem dX12_whence_154 : decode cX12_whence 154 = .ok (.iload 4, 2) := by decide +kernel
theorem dX12_whence_156 : decode cX12_whence 156 = .ok (.invokevirtual 391, 3) := by decide +kernel
theorem dX12_whence_159 : decode cX12_whence 159 = .ok (.iload_n 2, 1) := by decide +kernel
theorem dX12_whence_160 : decode cX12_whence 160 = .ok (.iload 5, 2) := by decide +kernel
theorem dX12_whence_162 : decode cX12_whence 162 = .ok (.invokevirtual 293, 3) := by decide +kernel
theorem dX12_whence_165 : decode cX12_whence 165 = .ok (.ifCond .eq 7, 3) := by decide +kernel
theorem dX12_whence_168 : decode cX12_whence 168 = .ok (.iconst 1, 1) := by decide +kernel
theorem dX12_whence_169 : decode cX12_whence 169 = .ok (.goto 4, 3) := by decide +kernel
theorem dX12_whence_172 : decode cX12_whence 172 = .ok (.iconst 0, 1) := by decide +kernel
theorem dX12_whence_173 : decode cX12_whence 173 = .ok (.istore_n 3, 1) := by decide +kernel
theorem dX12_whence_174 : decode cX12_whence 174 = .ok (.iinc 5 1, 3) := by decide +kernel
theorem dX12_whence_177 : decode cX12_whence 177 = .ok (.goto (-69), 3) := by decide +kernel
theorem dX12_whence_180 : decode cX12_whence 180 = .ok (.iinc 4 2, 3) := by decide +kernel
theorem dX12_whence_183 : decode cX12_whence 183 = .ok (.goto (-93), 3) := by decide +kernel
theorem dX12_whence_186 : decode cX12_whence 186 = .ok (.iload_n 1, 1) := by decide +kernel
theorem dX12_whence_187 : decode cX12_whence 187 = .ok (.iload_n 3, 1) := by decide +kernel
theorem dX12_whence_188 : decode cX12_whence 188 = .ok (.ifCond .eq 9, 3) := by decide +kernel
theorem dX12_whence_191 : decode cX12_whence 191 = .ok (.iconst 1, 1) := by decide +kernel
theorem dX12_whence_192 : decode cX12_whence 192 = .ok (.iload_n 2, 1) := by decide +kernel
theorem dX12_whence_193 : decode cX12_whence 193 = .ok (.ishl, 1) := by decide +kernel
theorem dX12_whence_194 : decode cX12_whence 194 = .ok (.goto 4, 3) := by decide +kernel
theorem dX12_whence_197 : decode cX12_whence 197 = .ok (.iconst 0, 1) := by decide +kernel
theorem dX12_whence_198 : decode cX12_whence 198 = .ok (.ior, 1) := by decide +kernel
theorem dX12_whence_199 : decode cX12_whence 199 = .ok (.istore_n 1, 1) := by decide +kernel
theorem dX12_whence_200 : decode cX12_whence 200 = .ok (.iinc 2 1, 3) := by decide +kernel
theorem dX12_whence_203 : decode cX12_whence 203 = .ok (.goto (-128), 3) := by decide +kernel
theorem dX12_whence_206 : decode cX12_whence 206 = .ok (.iload_n 1, 1) := by decide +kernel
theorem dX12_whence_207 : decode cX12_whence 207 = .ok (.ireturn, 1) := by decide +kernel
set_option maxRecDepth 20000 in
theorem ggX12_enough_X12_isFlight : GoodIn wsX12_enough wsX12_isFlight := goodIn_r _ [8, 2, 9, 10, 7, 11, 74, 75, 76, 77, 78, 79, 80, 81, 82, 83, 84, 85, 86, 87, 88, 89, 90, 91, 92, 93, 94, 95, 96, 97, 98, 99, 100, 101, 102, 103, 104, 105, 106, 107, 108, 109, 110, 111, 112, 113, 114, 115, 116, 117, 118, 119, 120] (by decide +kernel) (by decide +kernel)
set_option maxRecDepth 20000 in
theorem gX12_enough_X12_isFlight : GoodIn wsX12_enough (wsV RX12 259 RX12 yX12_isFlight wsX12_isFlight) := goodIn_app (goodIn_of _ (by decide +kernel)) ggX12_enough_X12_isFlight
set_option maxRecDepth 20000 in
theorem ggX12_enough_X12_asNow : GoodIn wsX12_enough wsX12_asNow := goodIn_r _ [15, 2, 16, 17, 18, 7, 19, 20, 21, 22, 74, 75, 76, 77, 78, 79, 80, 81, 82, 83, 84, 85, 86, 87, 88, 89, 90, 91, 92, 93, 94, 95, 96, 97, 98, 99, 100, 101, 102, 103, 104, 105, 106, 107, 108, 109, 110, 111, 112, 113, 114, 115, 116, 117, 118, 119, 120] (by decide +kernel) (by decide +kernel)
set_option maxRecDepth 20000 in
theorem gX12_enough_X12_asNow : GoodIn wsX12_enough (wsV RX12 318 RX12 yX12_asNow wsX12_asNow) := goodIn_app (goodIn_of _ (by decide +kernel)) ggX12_enough_X12_asNow
set_option maxRecDepth 20000 in
theorem ggX12_enough_X12_sharesBy : GoodIn wsX12_enough wsX12_sharesBy := goodIn_r _ [26, 27, 28, 29, 7, 30, 31, 3, 32, 33, 34, 35, 2, 36, 37, 38, 39, 40, 41, 42, 43, 22, 20, 44, 45, 46, 47, 21, 48, 49, 50, 51, 52, 53, 54, 55, 56, 57, 58, 59, 60, 61, 62, 63, 64, 65, 66, 67, 68, 69, 70, 71, 72, 73, 74, 75, 76, 77, 78, 79, 80, 81, 82, 83, 84, 85, 86, 87, 88, 89, 90, 91, 92, 93, 94, 95, 96, 97, 98, 99, 100, 101, 102, 103, 104, 105, 106, 107, 108, 109, 110, 111, 112, 113, 114, 115, 116, 117, 118, 119, 120] (by decide +kernel) (by decide +kernel)
set_option maxRecDepth 20000 in
theorem gX12_enough_X12_sharesBy : GoodIn wsX12_enough (wsV RX12 366 RX12 yX12_sharesBy wsX12_sharesBy) := goodIn_app (goodIn_of _ (by decide +kernel)) ggX12_enough_X12_sharesBy
theorem dX12_enough_0 : decode cX12_enough 0 = .ok (.aload_n 0, 1) := by decide +kernel
theorem dX12_enough_1 : decode cX12_enough 1 = .ok (.iconst 0, 1) := by decide +kernel
theorem dX12_enough_2 : decode cX12_enough 2 = .ok (.putfield 1, 3) := by decide +kernel
theorem dX12_enough_5 : decode cX12_enough 5 = .ok (.aload_n 0, 1) := by decide +kernel
theorem dX12_enough_6 : decode cX12_enough 6 = .ok (.iload_n 1, 1) := by decide +kernel
theorem dX12_enough_7 : decode cX12_enough 7 = .ok (.invokevirtual 259, 3) := by decide +kernel
theorem dX12_enough_10 : decode cX12_enough 10 = .ok (.ifCond .ne 5, 3) := by decide +kernel
theorem dX12_enough_13 : decode cX12_enough 13 = .ok (.iconst (-1), 1) := by decide +kernel
theorem dX12_enough_14 : decode cX12_enough 14 = .ok (.ireturn, 1) := by decide +kernel
theorem dX12_enough_15 : decode cX12_enough 15 = .ok (.aload_n 0, 1) := by decide +kernel
theorem dX12_enough_16 : decode cX12_enough 16 = .ok (.invokevirtual 318, 3) := by decide +kernel
theorem dX12_enough_19 : decode cX12_enough 19 = .ok (.aload_n 0, 1) := by decide +kernel
theorem dX12_enough_20 : decode cX12_enough 20 = .ok (.iload_n 1, 1) := by decide +kernel
theorem dX12_enough_21 : decode cX12_enough 21 = .ok (.aload_n 0, 1) := by decide +kernel
theorem dX12_enough_22 : decode cX12_enough 22 = .ok (.getfield 33, 3) := by decide +kernel
theorem dX12_enough_25 : decode cX12_enough 25 = .ok (.iconst 4, 1) := by decide +kernel
theorem dX12_enough_26 : decode cX12_enough 26 = .ok (.iaload, 1) := by decide +kernel
theorem dX12_enough_27 : decode cX12_enough 27 = .ok (.invokevirtual 366, 3) := by decide +kernel
theorem dX12_enough_30 : decode cX12_enough 30 = .ok (.iconst 0, 1) := by decide +kernel
theorem dX12_enough_31 : decode cX12_enough 31 = .ok (.istore_n 2, 1) := by decide +kernel
theorem dX12_enough_32 : decode cX12_enough 32 = .ok (.iconst 0, 1) := by decide +kernel
theorem dX12_enough_33 : decode cX12_enough 33 = .ok (.istore_n 3, 1) := by decide +kernel
theorem dX12_enough_34 : decode cX12_enough 34 = .ok (.iload_n 3, 1) := by decide +kernel
theorem dX12_enough_35 : decode cX12_enough 35 = .ok (.aload_n 0, 1) := by decide +kernel
theorem dX12_enough_36 : decode cX12_enough 36 = .ok (.getfield 33, 3) := by decide +kernel
theorem dX12_enough_39 : decode cX12_enough 39 = .ok (.iconst 1, 1) := by decide +kernel
theorem dX12_enough_40 : decode cX12_enough 40 = .ok (.iaload, 1) := by decide +kernel
theorem dX12_enough_41 : decode cX12_enough 41 = .ok (.if_icmp .ge 51, 3) := by decide +kernel
theorem dX12_enough_44 : decode cX12_enough 44 = .ok (.iload_n 2, 1) := by decide +kernel
theorem dX12_enough_45 : decode cX12_enough 45 = .ok (.aload_n 0, 1) := by decide +kernel
theorem dX12_enough_46 : decode cX12_enough 46 = .ok (.getfield 33, 3) := by decide +kernel
theorem dX12_enough_49 : decode cX12_enough 49 = .ok (.bipush 71, 2) := by decide +kernel
theorem dX12_enough_51 : decode cX12_enough 51 = .ok (.iload_n 3, 1) := by decide +kernel
theorem dX12_enough_52 : decode cX12_enough 52 = .ok (.iadd, 1) := by decide +kernel
theorem dX12_enough_53 : decode cX12_enough 53 = .ok (.iaload, 1) := by decide +kernel
theorem dX12_enough_54 : decode cX12_enough 54 = .ok (.ifCond .le 29, 3) := by decide +kernel
theorem dX12_enough_57 : decode cX12_enough 57 = .ok (.aload_n 0, 1) := by decide +kernel
theorem dX12_enough_58 : decode cX12_enough 58 = .ok (.getfield 59, 3) := by decide +kernel
theorem dX12_enough_61 : decode cX12_enough 61 = .ok (.iload_n 3, 1) := by decide +kernel
theorem dX12_enough_62 : decode cX12_enough 62 = .ok (.iaload, 1) := by decide +kernel
theorem dX12_enough_63 : decode cX12_enough 63 = .ok (.aload_n 0, 1) := by decide +kernel
theorem dX12_enough_64 : decode cX12_enough 64 = .ok (.getfield 33, 3) := by decide +kernel
theorem dX12_enough_67 : decode cX12_enough 67 = .ok (.bipush 71, 2) := by decide +kernel
theorem dX12_enough_69 : decode cX12_enough 69 = .ok (.iload_n 3, 1) := by decide +kernel
theorem dX12_enough_70 : decode cX12_enough 70 = .ok (.iadd, 1) := by decide +kernel
theorem dX12_enough_71 : decode cX12_enough 71 = .ok (.iaload, 1) := by decide +kernel
theorem dX12_enough_72 : decode cX12_enough 72 = .ok (.iconst 1, 1) := by decide +kernel
theorem dX12_enough_73 : decode cX12_enough 73 = .ok (.isub, 1) := by decide +kernel
theorem dX12_enough_74 : decode cX12_enough 74 = .ok (.if_icmp .lt 9, 3) := by decide +kernel
theorem dX12_enough_77 : decode cX12_enough 77 = .ok (.iconst 1, 1) := by decide +kernel
theorem dX12_enough_78 : decode cX12_enough 78 = .ok (.iload_n 3, 1) := by decide +kernel
theorem dX12_enough_79 : decode cX12_enough 79 = .ok (.ishl, 1) := by decide +kernel
theorem dX12_enough_80 : decode cX12_enough 80 = .ok (.goto 4, 3) := by decide +kernel
theorem dX12_enough_83 : decode cX12_enough 83 = .ok (.iconst 0, 1) := by decide +kernel
theorem dX12_enough_84 : decode cX12_enough 84 = .ok (.ior, 1) := by decide +kernel
theorem dX12_enough_85 : decode cX12_enough 85 = .ok (.istore_n 2, 1) := by decide +kernel
theorem dX12_enough_86 : decode cX12_enough 86 = .ok (.iinc 3 1, 3) := by decide +kernel
theorem dX12_enough_89 : decode cX12_enough 89 = .ok (.goto (-55), 3) := by decide +kernel
theorem dX12_enough_92 : decode cX12_enough 92 = .ok (.iload_n 2, 1) := by decide +kernel
theorem dX12_enough_93 : decode cX12_enough 93 = .ok (.ireturn, 1) := by decide +kernel
set_option maxRecDepth 20000 in
theorem ggX12_least_X12_isFlight : GoodIn wsX12_least wsX12_isFlight := goodIn_r _ [9, 3, 10, 11, 8, 12, 74, 75, 76, 77, 78, 79, 80, 81, 82, 83, 84, 85, 86, 87, 88, 89, 90, 91, 92, 93, 94, 95, 96, 97, 98, 99, 100, 101, 102, 103, 104, 105, 106, 107, 108, 109, 110, 111, 112, 113, 114, 115, 116, 117, 118, 119, 120] (by decide +kernel) (by decide +kernel)
set_option maxRecDepth 20000 in
theorem gX12_least_X12_isFlight : GoodIn wsX12_least (wsV RX12 259 RX12 yX12_isFlight wsX12_isFlight) := goodIn_app (goodIn_of _ (by decide +kernel)) ggX12_least_X12_isFlight
set_option maxRecDepth 20000 in
theorem ggX12_least_X12_asNow : GoodIn wsX12_least wsX12_asNow := goodIn_r _ [16, 3, 17, 18, 19, 8, 20, 21, 22, 23, 74, 75, 76, 77, 78, 79, 80, 81, 82, 83, 84, 85, 86, 87, 88, 89, 90, 91, 92, 93, 94, 95, 96, 97, 98, 99, 100, 101, 102, 103, 104, 105, 106, 107, 108, 109, 110, 111, 112, 113, 114, 115, 116, 117, 118, 119, 120] (by decide +kernel) (by decide +kernel)
set_option maxRecDepth 20000 in
theorem gX12_least_X12_asNow : GoodIn wsX12_least (wsV RX12 318 RX12 yX12_asNow wsX12_asNow) := goodIn_app (goodIn_of _ (by decide +kernel)) ggX12_least_X12_asNow
set_option maxRecDepth 20000 in
theorem ggX12_least_X12_sharesBy : GoodIn wsX12_least wsX12_sharesBy := goodIn_r _ [27, 28, 29, 30, 8, 31, 2, 4, 32, 33, 34, 35, 3, 36, 37, 38, 39, 40, 41, 42, 43, 23, 21, 44, 45, 46, 47, 22, 48, 49, 50, 51, 52, 53, 54, 55, 56, 57, 58, 59, 60, 61, 62, 63, 64, 65, 66, 67, 68, 69, 70, 71, 72, 73, 74, 75, 76, 77, 78, 79, 80, 81, 82, 83, 84, 85, 86, 87, 88, 89, 90, 91, 92, 93, 94, 95, 96, 97, 98, 99, 100, 101, 102, 103, 104, 105, 106, 107, 108, 109, 110, 111, 112, 113, 114, 115, 116, 117, 118, 119, 120] (by decide +kernel) (by decide +kernel)
set_option maxRecDepth 20000 in
theorem gX12_least_X12_sharesBy : GoodIn wsX12_least (wsV RX12 366 RX12 yX12_sharesBy wsX12_sharesBy) := goodIn_app (goodIn_of _ (by decide +kernel)) ggX12_least_X12_sharesBy
set_option maxRecDepth 20000 in
theorem ggX12_least_X12_bitOf : GoodIn wsX12_least wsX12_bitOf := goodIn_r _ [69] (by decide +kernel) (by decide +kernel)
set_option maxRecDepth 20000 in
theorem gX12_least_X12_bitOf : GoodIn wsX12_least (va_wsS RX12 216 yX12_bitOf wsX12_bitOf) := goodIn_app (goodIn_of _ (by decide +kernel)) ggX12_least_X12_bitOf
theorem dX12_least_0 : decode cX12_least 0 = .ok (.aload_n 0, 1) := by decide +kernel
theorem dX12_least_1 : decode cX12_least 1 = .ok (.iconst 0, 1) := by decide +kernel
theorem dX12_least_2 : decode cX12_least 2 = .ok (.putfield 1, 3) := by decide +kernel
theorem dX12_least_5 : decode cX12_least 5 = .ok (.aload_n 0, 1) := by decide +kernel
theorem dX12_least_6 : decode cX12_least 6 = .ok (.iload_n 1, 1) := by decide +kernel
theorem dX12_least_7 : decode cX12_least 7 = .ok (.invokevirtual 259, 3) := by decide +kernel
theorem dX12_least_10 : decode cX12_least 10 = .ok (.ifCond .ne 5, 3) := by decide +kernel
theorem dX12_least_13 : decode cX12_least 13 = .ok (.iconst (-1), 1) := by decide +kernel
theorem dX12_least_14 : decode cX12_least 14 = .ok (.ireturn, 1) := by decide +kernel
theorem dX12_least_15 : decode cX12_least 15 = .ok (.aload_n 0, 1) := by decide +kernel
theorem dX12_least_16 : decode cX12_least 16 = .ok (.invokevirtual 318, 3) := by decide +kernel
theorem dX12_least_19 : decode cX12_least 19 = .ok (.iconst 0, 1) := by decide +kernel
theorem dX12_least_20 : decode cX12_least 20 = .ok (.istore_n 2, 1) := by decide +kernel
theorem dX12_least_21 : decode cX12_least 21 = .ok (.iload_n 2, 1) := by decide +kernel
theorem dX12_least_22 : decode cX12_least 22 = .ok (.sipush 1000, 3) := by decide +kernel
theorem dX12_least_25 : decode cX12_least 25 = .ok (.if_icmp .ge 98, 3) := by decide +kernel
theorem dX12_least_28 : decode cX12_least 28 = .ok (.aload_n 0, 1) := by decide +kernel
theorem dX12_least_29 : decode cX12_least 29 = .ok (.iload_n 1, 1) := by decide +kernel
theorem dX12_least_30 : decode cX12_least 30 = .ok (.iload_n 2, 1) := by decide +kernel
theorem dX12_least_31 : decode cX12_least 31 = .ok (.invokevirtual 366, 3) := by decide +kernel
theorem dX12_least_34 : decode cX12_least 34 = .ok (.aload_n 0, 1) := by decide +kernel
theorem dX12_least_35 : decode cX12_least 35 = .ok (.getfield 305, 3) := by decide +kernel
theorem dX12_least_38 : decode cX12_least 38 = .ok (.ifCond .eq 7, 3) := by decide +kernel
theorem dX12_least_41 : decode cX12_least 41 = .ok (.iconst 1, 1) := by decide +kernel
theorem dX12_least_42 : decode cX12_least 42 = .ok (.goto 4, 3) := by decide +kernel
theorem dX12_least_45 : decode cX12_least 45 = .ok (.iconst 0, 1) := by decide +kernel
theorem dX12_least_46 : decode cX12_least 46 = .ok (.istore_n 3, 1) := by decide +kernel
theorem dX12_least_47 : decode cX12_least 47 = .ok (.iconst 0, 1) := by decide +kernel
