theorem dX12_throwsIf_0 : decode cX12_throwsIf 0 = .ok (.aload_n 0, 1) := by decide +kernel
theorem dX12_throwsIf_1 : decode cX12_throwsIf 1 = .ok (.iload_n 1, 1) := by decide +kernel
theorem dX12_throwsIf_2 : decode cX12_throwsIf 2 = .ok (.ifCond .eq 7, 3) := by decide +kernel
theorem dX12_throwsIf_5 : decode cX12_throwsIf 5 = .ok (.iconst 1, 1) := by decide +kernel
theorem dX12_throwsIf_6 : decode cX12_throwsIf 6 = .ok (.goto 4, 3) := by decide +kernel
theorem dX12_throwsIf_9 : decode cX12_throwsIf 9 = .ok (.iconst 0, 1) := by decide +kernel
theorem dX12_throwsIf_10 : decode cX12_throwsIf 10 = .ok (.putfield 1, 3) := by decide +kernel
theorem dX12_throwsIf_13 : decode cX12_throwsIf 13 = .ok (.iload_n 1, 1) := by decide +kernel
theorem dX12_throwsIf_14 : decode cX12_throwsIf 14 = .ok (.ireturn, 1) := by decide +kernel
set_option maxRecDepth 20000 in
theorem ggX12_feed_X12_four : GoodIn wsX12_feed wsX12_four := goodIn_r _ [7, 8, 2, 9, 10, 11, 12, 13, 14, 15, 16, 17, 18, 19, 20, 21, 22, 23, 24, 25, 26, 27, 28, 29, 30, 31, 32, 33, 34, 35, 36, 37, 38, 39, 40, 41, 42, 43, 44, 45, 46, 47, 48, 49, 50, 51, 52, 53, 54, 55] (by decide +kernel) (by decide +kernel)
set_option maxRecDepth 20000 in
theorem gX12_feed_X12_four : GoodIn wsX12_feed (wsV RX12 10 RX12 yX12_four wsX12_four) := goodIn_app (goodIn_of _ (by decide +kernel)) ggX12_feed_X12_four
theorem dX12_feed_0 : decode cX12_feed 0 = .ok (.aload_n 0, 1) := by decide +kernel
theorem dX12_feed_1 : decode cX12_feed 1 = .ok (.iconst 0, 1) := by decide +kernel
theorem dX12_feed_2 : decode cX12_feed 2 = .ok (.putfield 1, 3) := by decide +kernel
theorem dX12_feed_5 : decode cX12_feed 5 = .ok (.aload_n 0, 1) := by decide +kernel
theorem dX12_feed_6 : decode cX12_feed 6 = .ok (.getfield 7, 3) := by decide +kernel
theorem dX12_feed_9 : decode cX12_feed 9 = .ok (.bipush 20, 2) := by decide +kernel
theorem dX12_feed_11 : decode cX12_feed 11 = .ok (.iadd, 1) := by decide +kernel
theorem dX12_feed_12 : decode cX12_feed 12 = .ok (.sipush 940, 3) := by decide +kernel
theorem dX12_feed_15 : decode cX12_feed 15 = .ok (.if_icmp .le 5, 3) := by decide +kernel
theorem dX12_feed_18 : decode cX12_feed 18 = .ok (.iconst (-1), 1) := by decide +kernel
theorem dX12_feed_19 : decode cX12_feed 19 = .ok (.ireturn, 1) := by decide +kernel
theorem dX12_feed_20 : decode cX12_feed 20 = .ok (.aload_n 0, 1) := by decide +kernel
theorem dX12_feed_21 : decode cX12_feed 21 = .ok (.iload_n 1, 1) := by decide +kernel
theorem dX12_feed_22 : decode cX12_feed 22 = .ok (.invokevirtual 10, 3) := by decide +kernel
theorem dX12_feed_25 : decode cX12_feed 25 = .ok (.aload_n 0, 1) := by decide +kernel
theorem dX12_feed_26 : decode cX12_feed 26 = .ok (.iload_n 2, 1) := by decide +kernel
theorem dX12_feed_27 : decode cX12_feed 27 = .ok (.invokevirtual 10, 3) := by decide +kernel
theorem dX12_feed_30 : decode cX12_feed 30 = .ok (.aload_n 0, 1) := by decide +kernel
theorem dX12_feed_31 : decode cX12_feed 31 = .ok (.iload_n 3, 1) := by decide +kernel
theorem dX12_feed_32 : decode cX12_feed 32 = .ok (.invokevirtual 10, 3) := by decide +kernel
theorem dX12_feed_35 : decode cX12_feed 35 = .ok (.aload_n 0, 1) := by decide +kernel
theorem dX12_feed_36 : decode cX12_feed 36 = .ok (.iload 4, 2) := by decide +kernel
theorem dX12_feed_38 : decode cX12_feed 38 = .ok (.invokevirtual 10, 3) := by decide +kernel
theorem dX12_feed_41 : decode cX12_feed 41 = .ok (.aload_n 0, 1) := by decide +kernel
theorem dX12_feed_42 : decode cX12_feed 42 = .ok (.iload 5, 2) := by decide +kernel
theorem dX12_feed_44 : decode cX12_feed 44 = .ok (.invokevirtual 10, 3) := by decide +kernel
theorem dX12_feed_47 : decode cX12_feed 47 = .ok (.aload_n 0, 1) := by decide +kernel
theorem dX12_feed_48 : decode cX12_feed 48 = .ok (.getfield 7, 3) := by decide +kernel
theorem dX12_feed_51 : decode cX12_feed 51 = .ok (.ireturn, 1) := by decide +kernel
theorem dX12_four_0 : decode cX12_four 0 = .ok (.bipush 24, 2) := by decide +kernel
theorem dX12_four_2 : decode cX12_four 2 = .ok (.istore_n 2, 1) := by decide +kernel
theorem dX12_four_3 : decode cX12_four 3 = .ok (.iload_n 2, 1) := by decide +kernel
theorem dX12_four_4 : decode cX12_four 4 = .ok (.ifCond .lt 32, 3) := by decide +kernel
theorem dX12_four_7 : decode cX12_four 7 = .ok (.aload_n 0, 1) := by decide +kernel
theorem dX12_four_8 : decode cX12_four 8 = .ok (.getfield 14, 3) := by decide +kernel
theorem dX12_four_11 : decode cX12_four 11 = .ok (.aload_n 0, 1) := by decide +kernel
theorem dX12_four_12 : decode cX12_four 12 = .ok (.getfield 7, 3) := by decide +kernel
theorem dX12_four_15 : decode cX12_four 15 = .ok (.iload_n 1, 1) := by decide +kernel
theorem dX12_four_16 : decode cX12_four 16 = .ok (.iload_n 2, 1) := by decide +kernel
theorem dX12_four_17 : decode cX12_four 17 = .ok (.ishr, 1) := by decide +kernel
theorem dX12_four_18 : decode cX12_four 18 = .ok (.i2b, 1) := by decide +kernel
theorem dX12_four_19 : decode cX12_four 19 = .ok (.bastore, 1) := by decide +kernel
theorem dX12_four_20 : decode cX12_four 20 = .ok (.aload_n 0, 1) := by decide +kernel
theorem dX12_four_21 : decode cX12_four 21 = .ok (.dup, 1) := by decide +kernel
theorem dX12_four_22 : decode cX12_four 22 = .ok (.getfield 7, 3) := by decide +kernel
theorem dX12_four_25 : decode cX12_four 25 = .ok (.iconst 1, 1) := by decide +kernel
theorem dX12_four_26 : decode cX12_four 26 = .ok (.iadd, 1) := by decide +kernel
theorem dX12_four_27 : decode cX12_four 27 = .ok (.putfield 7, 3) := by decide +kernel
theorem dX12_four_30 : decode cX12_four 30 = .ok (.iinc 2 (-8), 3) := by decide +kernel
theorem dX12_four_33 : decode cX12_four 33 = .ok (.goto (-30), 3) := by decide +kernel
theorem dX12_four_36 : decode cX12_four 36 = .ok (.return_, 1) := by decide +kernel
theorem dX12_end_0 : decode cX12_end 0 = .ok (.aload_n 0, 1) := by decide +kernel
theorem dX12_end_1 : decode cX12_end 1 = .ok (.iconst 0, 1) := by decide +kernel
theorem dX12_end_2 : decode cX12_end 2 = .ok (.putfield 1, 3) := by decide +kernel
theorem dX12_end_5 : decode cX12_end 5 = .ok (.iload_n 1, 1) := by decide +kernel
theorem dX12_end_6 : decode cX12_end 6 = .ok (.ifCond .lt 11, 3) := by decide +kernel
theorem dX12_end_9 : decode cX12_end 9 = .ok (.iload_n 1, 1) := by decide +kernel
theorem dX12_end_10 : decode cX12_end 10 = .ok (.aload_n 0, 1) := by decide +kernel
theorem dX12_end_11 : decode cX12_end 11 = .ok (.getfield 7, 3) := by decide +kernel
theorem dX12_end_14 : decode cX12_end 14 = .ok (.if_icmp .le 5, 3) := by decide +kernel
theorem dX12_end_17 : decode cX12_end 17 = .ok (.iconst 0, 1) := by decide +kernel
theorem dX12_end_18 : decode cX12_end 18 = .ok (.ireturn, 1) := by decide +kernel
theorem dX12_end_19 : decode cX12_end 19 = .ok (.aload_n 0, 1) := by decide +kernel
theorem dX12_end_20 : decode cX12_end 20 = .ok (.iload_n 1, 1) := by decide +kernel
theorem dX12_end_21 : decode cX12_end 21 = .ok (.putfield 7, 3) := by decide +kernel
theorem dX12_end_24 : decode cX12_end 24 = .ok (.iconst 1, 1) := by decide +kernel
theorem dX12_end_25 : decode cX12_end 25 = .ok (.ireturn, 1) := by decide +kernel
theorem dX12_taken_0 : decode cX12_taken 0 = .ok (.aload_n 0, 1) := by decide +kernel
theorem dX12_taken_1 : decode cX12_taken 1 = .ok (.aload_n 0, 1) := by decide +kernel
theorem dX12_taken_2 : decode cX12_taken 2 = .ok (.getfield 7, 3) := by decide +kernel
theorem dX12_taken_5 : decode cX12_taken 5 = .ok (.putfield 18, 3) := by decide +kernel
theorem dX12_taken_8 : decode cX12_taken 8 = .ok (.aload_n 0, 1) := by decide +kernel
theorem dX12_taken_9 : decode cX12_taken 9 = .ok (.iconst 0, 1) := by decide +kernel
theorem dX12_taken_10 : decode cX12_taken 10 = .ok (.putfield 7, 3) := by decide +kernel
theorem dX12_taken_13 : decode cX12_taken 13 = .ok (.aload_n 0, 1) := by decide +kernel
theorem dX12_taken_14 : decode cX12_taken 14 = .ok (.iconst 0, 1) := by decide +kernel
theorem dX12_taken_15 : decode cX12_taken 15 = .ok (.putfield 21, 3) := by decide +kernel
theorem dX12_taken_18 : decode cX12_taken 18 = .ok (.aload_n 0, 1) := by decide +kernel
theorem dX12_taken_19 : decode cX12_taken 19 = .ok (.iload_n 1, 1) := by decide +kernel
theorem dX12_taken_20 : decode cX12_taken 20 = .ok (.putfield 24, 3) := by decide +kernel
theorem dX12_taken_23 : decode cX12_taken 23 = .ok (.return_, 1) := by decide +kernel
theorem dX12_isIn_0 : decode cX12_isIn 0 = .ok (.iload_n 0, 1) := by decide +kernel
theorem dX12_isIn_1 : decode cX12_isIn 1 = .ok (.iload_n 1, 1) := by decide +kernel
theorem dX12_isIn_2 : decode cX12_isIn 2 = .ok (.if_icmp .lt 12, 3) := by decide +kernel
theorem dX12_isIn_5 : decode cX12_isIn 5 = .ok (.iload_n 0, 1) := by decide +kernel
theorem dX12_isIn_6 : decode cX12_isIn 6 = .ok (.iload_n 2, 1) := by decide +kernel
theorem dX12_isIn_7 : decode cX12_isIn 7 = .ok (.if_icmp .gt 7, 3) := by decide +kernel
theorem dX12_isIn_10 : decode cX12_isIn 10 = .ok (.iconst 1, 1) := by decide +kernel
theorem dX12_isIn_11 : decode cX12_isIn 11 = .ok (.goto 4, 3) := by decide +kernel
theorem dX12_isIn_14 : decode cX12_isIn 14 = .ok (.iconst 0, 1) := by decide +kernel
theorem dX12_isIn_15 : decode cX12_isIn 15 = .ok (.ireturn, 1) := by decide +kernel
theorem dX12_bitOf_0 : decode cX12_bitOf 0 = .ok (.iload_n 0, 1) := by decide +kernel
theorem dX12_bitOf_1 : decode cX12_bitOf 1 = .ok (.iload_n 1, 1) := by decide +kernel
theorem dX12_bitOf_2 : decode cX12_bitOf 2 = .ok (.ishr, 1) := by decide +kernel
theorem dX12_bitOf_3 : decode cX12_bitOf 3 = .ok (.iconst 1, 1) := by decide +kernel
theorem dX12_bitOf_4 : decode cX12_bitOf 4 = .ok (.iand, 1) := by decide +kernel
theorem dX12_bitOf_5 : decode cX12_bitOf 5 = .ok (.iconst 1, 1) := by decide +kernel
theorem dX12_bitOf_6 : decode cX12_bitOf 6 = .ok (.if_icmp .ne 7, 3) := by decide +kernel
theorem dX12_bitOf_9 : decode cX12_bitOf 9 = .ok (.iconst 1, 1) := by decide +kernel
theorem dX12_bitOf_10 : decode cX12_bitOf 10 = .ok (.goto 4, 3) := by decide +kernel
theorem dX12_bitOf_13 : decode cX12_bitOf 13 = .ok (.iconst 0, 1) := by decide +kernel
theorem dX12_bitOf_14 : decode cX12_bitOf 14 = .ok (.ireturn, 1) := by decide +kernel
theorem dX12_off_0 : decode cX12_off 0 = .ok (.iload_n 0, 1) := by decide +kernel
theorem dX12_off_1 : decode cX12_off 1 = .ok (.iload_n 1, 1) := by decide +kernel
theorem dX12_off_2 : decode cX12_off 2 = .ok (.if_icmp .ge 9, 3) := by decide +kernel
theorem dX12_off_5 : decode cX12_off 5 = .ok (.iload_n 1, 1) := by decide +kernel
theorem dX12_off_6 : decode cX12_off 6 = .ok (.iload_n 0, 1) := by decide +kernel
theorem dX12_off_7 : decode cX12_off 7 = .ok (.isub, 1) := by decide +kernel
theorem dX12_off_8 : decode cX12_off 8 = .ok (.goto 6, 3) := by decide +kernel
theorem dX12_off_11 : decode cX12_off 11 = .ok (.iload_n 0, 1) := by decide +kernel
theorem dX12_off_12 : decode cX12_off 12 = .ok (.iload_n 1, 1) := by decide +kernel
theorem dX12_off_13 : decode cX12_off 13 = .ok (.isub, 1) := by decide +kernel
theorem dX12_off_14 : decode cX12_off 14 = .ok (.ireturn, 1) := by decide +kernel
theorem dX12_lesser_0 : decode cX12_lesser 0 = .ok (.iload_n 0, 1) := by decide +kernel
theorem dX12_lesser_1 : decode cX12_lesser 1 = .ok (.iload_n 1, 1) := by decide +kernel
theorem dX12_lesser_2 : decode cX12_lesser 2 = .ok (.if_icmp .ge 7, 3) := by decide +kernel
theorem dX12_lesser_5 : decode cX12_lesser 5 = .ok (.iload_n 0, 1) := by decide +kernel
theorem dX12_lesser_6 : decode cX12_lesser 6 = .ok (.goto 4, 3) := by decide +kernel
theorem dX12_lesser_9 : decode cX12_lesser 9 = .ok (.iload_n 1, 1) := by decide +kernel
theorem dX12_lesser_10 : decode cX12_lesser 10 = .ok (.ireturn, 1) := by decide +kernel
theorem dX12_bits_0 : decode cX12_bits 0 = .ok (.iconst 0, 1) := by decide +kernel
theorem dX12_bits_1 : decode cX12_bits 1 = .ok (.istore_n 1, 1) := by decide +kernel
theorem dX12_bits_2 : decode cX12_bits 2 = .ok (.iload_n 0, 1) := by decide +kernel
theorem dX12_bits_3 : decode cX12_bits 3 = .ok (.istore_n 2, 1) := by decide +kernel
theorem dX12_bits_4 : decode cX12_bits 4 = .ok (.iload_n 2, 1) := by decide +kernel
theorem dX12_bits_5 : decode cX12_bits 5 = .ok (.ifCond .eq 15, 3) := by decide +kernel
theorem dX12_bits_8 : decode cX12_bits 8 = .ok (.iinc 1 1, 3) := by decide +kernel
theorem dX12_bits_11 : decode cX12_bits 11 = .ok (.iload_n 2, 1) := by decide +kernel
theorem dX12_bits_12 : decode cX12_bits 12 = .ok (.iload_n 2, 1) := by decide +kernel
theorem dX12_bits_13 : decode cX12_bits 13 = .ok (.iconst 1, 1) := by decide +kernel
theorem dX12_bits_14 : decode cX12_bits 14 = .ok (.isub, 1) := by decide +kernel
theorem dX12_bits_15 : decode cX12_bits 15 = .ok (.iand, 1) := by decide +kernel
theorem dX12_bits_16 : decode cX12_bits 16 = .ok (.istore_n 2, 1) := by decide +kernel
theorem dX12_bits_17 : decode cX12_bits 17 = .ok (.goto (-13), 3) := by decide +kernel
theorem dX12_bits_20 : decode cX12_bits 20 = .ok (.iload_n 1, 1) := by decide +kernel
theorem dX12_bits_21 : decode cX12_bits 21 = .ok (.ireturn, 1) := by decide +kernel
theorem dX12_part_0 : decode cX12_part 0 = .ok (.iload_n 0, 1) := by decide +kernel
theorem dX12_part_1 : decode cX12_part 1 = .ok (.istore_n 3, 1) := by decide +kernel
theorem dX12_part_2 : decode cX12_part 2 = .ok (.iload_n 1, 1) := by decide +kernel
theorem dX12_part_3 : decode cX12_part 3 = .ok (.istore 4, 2) := by decide +kernel
theorem dX12_part_5 : decode cX12_part 5 = .ok (.iload 4, 2) := by decide +kernel
theorem dX12_part_7 : decode cX12_part 7 = .ok (.ifCond .eq 19, 3) := by decide +kernel
theorem dX12_part_10 : decode cX12_part 10 = .ok (.iload_n 3, 1) := by decide +kernel
theorem dX12_part_11 : decode cX12_part 11 = .ok (.iload 4, 2) := by decide +kernel
theorem dX12_part_13 : decode cX12_part 13 = .ok (.irem, 1) := by decide +kernel
theorem dX12_part_14 : decode cX12_part 14 = .ok (.istore 5, 2) := by decide +kernel
theorem dX12_part_16 : decode cX12_part 16 = .ok (.iload 4, 2) := by decide +kernel
theorem dX12_part_18 : decode cX12_part 18 = .ok (.istore_n 3, 1) := by decide +kernel
theorem dX12_part_19 : decode cX12_part 19 = .ok (.iload 5, 2) := by decide +kernel
theorem dX12_part_21 : decode cX12_part 21 = .ok (.istore 4, 2) := by decide +kernel
theorem dX12_part_23 : decode cX12_part 23 = .ok (.goto (-18), 3) := by decide +kernel
theorem dX12_part_26 : decode cX12_part 26 = .ok (.iload_n 2, 1) := by decide +kernel
theorem dX12_part_27 : decode cX12_part 27 = .ok (.ifCond .ne 7, 3) := by decide +kernel
theorem dX12_part_30 : decode cX12_part 30 = .ok (.iload_n 0, 1) := by decide +kernel
theorem dX12_part_31 : decode cX12_part 31 = .ok (.goto 4, 3) := by decide +kernel
theorem dX12_part_34 : decode cX12_part 34 = .ok (.iload_n 1, 1) := by decide +kernel
theorem dX12_part_35 : decode cX12_part 35 = .ok (.iload_n 3, 1) := by decide +kernel
theorem dX12_part_36 : decode cX12_part 36 = .ok (.idiv, 1) := by decide +kernel
theorem dX12_part_37 : decode cX12_part 37 = .ok (.ireturn, 1) := by decide +kernel
theorem dX12_octet_0 : decode cX12_octet 0 = .ok (.aload_n 0, 1) := by decide +kernel
theorem dX12_octet_1 : decode cX12_octet 1 = .ok (.getfield 14, 3) := by decide +kernel
theorem dX12_octet_4 : decode cX12_octet 4 = .ok (.iload_n 1, 1) := by decide +kernel
theorem dX12_octet_5 : decode cX12_octet 5 = .ok (.baload, 1) := by decide +kernel
theorem dX12_octet_6 : decode cX12_octet 6 = .ok (.sipush 255, 3) := by decide +kernel
theorem dX12_octet_9 : decode cX12_octet 9 = .ok (.iand, 1) := by decide +kernel
theorem dX12_octet_10 : decode cX12_octet 10 = .ok (.ireturn, 1) := by decide +kernel
theorem dX12_init_0 : decode cX12_init 0 = .ok (.aload_n 0, 1) := by decide +kernel
theorem dX12_init_1 : decode cX12_init 1 = .ok (.invokespecial 27, 3) := by decide +kernel
theorem dX12_init_4 : decode cX12_init 4 = .ok (.aload_n 0, 1) := by decide +kernel
theorem dX12_init_5 : decode cX12_init 5 = .ok (.sipush 940, 3) := by decide +kernel
theorem dX12_init_8 : decode cX12_init 8 = .ok (.newarray .byte, 2) := by decide +kernel
theorem dX12_init_10 : decode cX12_init 10 = .ok (.putfield 14, 3) := by decide +kernel
theorem dX12_init_13 : decode cX12_init 13 = .ok (.aload_n 0, 1) := by decide +kernel
theorem dX12_init_14 : decode cX12_init 14 = .ok (.sipush 427, 3) := by decide +kernel
theorem dX12_init_17 : decode cX12_init 17 = .ok (.newarray .int, 2) := by decide +kernel
theorem dX12_init_19 : decode cX12_init 19 = .ok (.putfield 33, 3) := by decide +kernel
theorem dX12_init_22 : decode cX12_init 22 = .ok (.aload_n 0, 1) := by decide +kernel
theorem dX12_init_23 : decode cX12_init 23 = .ok (.sipush 211, 3) := by decide +kernel
theorem dX12_init_26 : decode cX12_init 26 = .ok (.newarray .int, 2) := by decide +kernel
theorem dX12_init_28 : decode cX12_init 28 = .ok (.putfield 37, 3) := by decide +kernel
theorem dX12_init_31 : decode cX12_init 31 = .ok (.aload_n 0, 1) := by decide +kernel
theorem dX12_init_32 : decode cX12_init 32 = .ok (.sipush 135, 3) := by decide +kernel
theorem dX12_init_35 : decode cX12_init 35 = .ok (.newarray .int, 2) := by decide +kernel
theorem dX12_init_37 : decode cX12_init 37 = .ok (.putfield 40, 3) := by decide +kernel
theorem dX12_init_40 : decode cX12_init 40 = .ok (.aload_n 0, 1) := by decide +kernel
theorem dX12_init_41 : decode cX12_init 41 = .ok (.bipush 32, 2) := by decide +kernel
theorem dX12_init_43 : decode cX12_init 43 = .ok (.newarray .long, 2) := by decide +kernel
theorem dX12_init_45 : decode cX12_init 45 = .ok (.putfield 43, 3) := by decide +kernel
theorem dX12_init_48 : decode cX12_init 48 = .ok (.aload_n 0, 1) := by decide +kernel
theorem dX12_init_49 : decode cX12_init 49 = .ok (.bipush 31, 2) := by decide +kernel
theorem dX12_init_51 : decode cX12_init 51 = .ok (.newarray .long, 2) := by decide +kernel
theorem dX12_init_53 : decode cX12_init 53 = .ok (.putfield 47, 3) := by decide +kernel
theorem dX12_init_56 : decode cX12_init 56 = .ok (.aload_n 0, 1) := by decide +kernel
theorem dX12_init_57 : decode cX12_init 57 = .ok (.bipush 8, 2) := by decide +kernel
theorem dX12_init_59 : decode cX12_init 59 = .ok (.newarray .int, 2) := by decide +kernel
theorem dX12_init_61 : decode cX12_init 61 = .ok (.putfield 50, 3) := by decide +kernel
theorem dX12_init_64 : decode cX12_init 64 = .ok (.aload_n 0, 1) := by decide +kernel
theorem dX12_init_65 : decode cX12_init 65 = .ok (.bipush 8, 2) := by decide +kernel
theorem dX12_init_67 : decode cX12_init 67 = .ok (.newarray .int, 2) := by decide +kernel
theorem dX12_init_69 : decode cX12_init 69 = .ok (.putfield 53, 3) := by decide +kernel
theorem dX12_init_72 : decode cX12_init 72 = .ok (.aload_n 0, 1) := by decide +kernel
theorem dX12_init_73 : decode cX12_init 73 = .ok (.bipush 8, 2) := by decide +kernel
theorem dX12_init_75 : decode cX12_init 75 = .ok (.newarray .int, 2) := by decide +kernel
theorem dX12_init_77 : decode cX12_init 77 = .ok (.putfield 56, 3) := by decide +kernel
theorem dX12_init_80 : decode cX12_init 80 = .ok (.aload_n 0, 1) := by decide +kernel
theorem dX12_init_81 : decode cX12_init 81 = .ok (.bipush 8, 2) := by decide +kernel
theorem dX12_init_83 : decode cX12_init 83 = .ok (.newarray .int, 2) := by decide +kernel
theorem dX12_init_85 : decode cX12_init 85 = .ok (.putfield 59, 3) := by decide +kernel
theorem dX12_init_88 : decode cX12_init 88 = .ok (.aload_n 0, 1) := by decide +kernel
theorem dX12_init_89 : decode cX12_init 89 = .ok (.sipush 280, 3) := by decide +kernel
theorem dX12_init_92 : decode cX12_init 92 = .ok (.newarray .int, 2) := by decide +kernel
theorem dX12_init_94 : decode cX12_init 94 = .ok (.putfield 62, 3) := by decide +kernel
theorem dX12_init_97 : decode cX12_init 97 = .ok (.aload_n 0, 1) := by decide +kernel
theorem dX12_init_98 : decode cX12_init 98 = .ok (.bipush 35, 2) := by decide +kernel
theorem dX12_init_100 : decode cX12_init 100 = .ok (.newarray .int, 2) := by decide +kernel
theorem dX12_init_102 : decode cX12_init 102 = .ok (.putfield 65, 3) := by decide +kernel
theorem dX12_init_105 : decode cX12_init 105 = .ok (.aload_n 0, 1) := by decide +kernel
theorem dX12_init_106 : decode cX12_init 106 = .ok (.iconst 4, 1) := by decide +kernel
theorem dX12_init_107 : decode cX12_init 107 = .ok (.newarray .int, 2) := by decide +kernel
theorem dX12_init_109 : decode cX12_init 109 = .ok (.putfield 68, 3) := by decide +kernel
theorem dX12_init_112 : decode cX12_init 112 = .ok (.aload_n 0, 1) := by decide +kernel
theorem dX12_init_113 : decode cX12_init 113 = .ok (.bipush 45, 2) := by decide +kernel
theorem dX12_init_115 : decode cX12_init 115 = .ok (.newarray .int, 2) := by decide +kernel
theorem dX12_init_117 : decode cX12_init 117 = .ok (.putfield 71, 3) := by decide +kernel
theorem dX12_init_120 : decode cX12_init 120 = .ok (.aload_n 0, 1) := by decide +kernel
theorem dX12_init_121 : decode cX12_init 121 = .ok (.bipush 45, 2) := by decide +kernel
theorem dX12_init_123 : decode cX12_init 123 = .ok (.newarray .boolean, 2) := by decide +kernel
theorem dX12_init_125 : decode cX12_init 125 = .ok (.putfield 74, 3) := by decide +kernel
theorem dX12_init_128 : decode cX12_init 128 = .ok (.aload_n 0, 1) := by decide +kernel
theorem dX12_init_129 : decode cX12_init 129 = .ok (.sipush 854, 3) := by decide +kernel
theorem dX12_init_132 : decode cX12_init 132 = .ok (.newarray .int, 2) := by decide +kernel
theorem dX12_init_134 : decode cX12_init 134 = .ok (.putfield 78, 3) := by decide +kernel
theorem dX12_init_137 : decode cX12_init 137 = .ok (.aload_n 0, 1) := by decide +kernel
theorem dX12_init_138 : decode cX12_init 138 = .ok (.bipush 32, 2) := by decide +kernel
theorem dX12_init_140 : decode cX12_init 140 = .ok (.newarray .long, 2) := by decide +kernel
theorem dX12_init_142 : decode cX12_init 142 = .ok (.putfield 81, 3) := by decide +kernel
theorem dX12_init_145 : decode cX12_init 145 = .ok (.aload_n 0, 1) := by decide +kernel
theorem dX12_init_146 : decode cX12_init 146 = .ok (.iconst 2, 1) := by decide +kernel
theorem dX12_init_147 : decode cX12_init 147 = .ok (.newarray .boolean, 2) := by decide +kernel
theorem dX12_init_149 : decode cX12_init 149 = .ok (.putfield 84, 3) := by decide +kernel
theorem dX12_init_152 : decode cX12_init 152 = .ok (.aload_n 0, 1) := by decide +kernel
theorem dX12_init_153 : decode cX12_init 153 = .ok (.getfield 47, 3) := by decide +kernel
theorem dX12_init_156 : decode cX12_init 156 = .ok (.iconst 0, 1) := by decide +kernel
theorem dX12_init_157 : decode cX12_init 157 = .ok (.ldc2_w 87, 3) := by decide +kernel
theorem dX12_init_160 : decode cX12_init 160 = .ok (.lastore, 1) := by decide +kernel
theorem dX12_init_161 : decode cX12_init 161 = .ok (.aload_n 0, 1) := by decide +kernel
theorem dX12_init_162 : decode cX12_init 162 = .ok (.getfield 47, 3) := by decide +kernel
theorem dX12_init_165 : decode cX12_init 165 = .ok (.iconst 1, 1) := by decide +kernel
theorem dX12_init_166 : decode cX12_init 166 = .ok (.ldc2_w 89, 3) := by decide +kernel
theorem dX12_init_169 : decode cX12_init 169 = .ok (.lastore, 1) := by decide +kernel
theorem dX12_init_170 : decode cX12_init 170 = .ok (.aload_n 0, 1) := by decide +kernel
theorem dX12_init_171 : decode cX12_init 171 = .ok (.getfield 47, 3) := by decide +kernel
theorem dX12_init_174 : decode cX12_init 174 = .ok (.iconst 2, 1) := by decide +kernel
theorem dX12_init_175 : decode cX12_init 175 = .ok (.ldc2_w 91, 3) := by decide +kernel
theorem dX12_init_178 : decode cX12_init 178 = .ok (.lastore, 1) := by decide +kernel
theorem dX12_init_179 : decode cX12_init 179 = .ok (.aload_n 0, 1) := by decide +kernel
theorem dX12_init_180 : decode cX12_init 180 = .ok (.getfield 47, 3) := by decide +kernel
theorem dX12_init_183 : decode cX12_init 183 = .ok (.iconst 3, 1) := by decide +kernel
theorem dX12_init_184 : decode cX12_init 184 = .ok (.ldc2_w 93, 3) := by decide +kernel
theorem dX12_init_187 : decode cX12_init 187 = .ok (.lastore, 1) := by decide +kernel
theorem dX12_init_188 : decode cX12_init 188 = .ok (.aload_n 0, 1) := by decide +kernel
theorem dX12_init_189 : decode cX12_init 189 = .ok (.getfield 47, 3) := by decide +kernel
theorem dX12_init_192 : decode cX12_init 192 = .ok (.iconst 4, 1) := by decide +kernel
theorem dX12_init_193 : decode cX12_init 193 = .ok (.ldc2_w 95, 3) := by decide +kernel
theorem dX12_init_196 : decode cX12_init 196 = .ok (.lastore, 1) := by decide +kernel
theorem dX12_init_197 : decode cX12_init 197 = .ok (.aload_n 0, 1) := by decide +kernel
theorem dX12_init_198 : decode cX12_init 198 = .ok (.getfield 47, 3) := by decide +kernel
theorem dX12_init_201 : decode cX12_init 201 = .ok (.iconst 5, 1) := by decide +kernel
theorem dX12_init_202 : decode cX12_init 202 = .ok (.ldc2_w 97, 3) := by decide +kernel
theorem dX12_init_205 : decode cX12_init 205 = .ok (.lastore, 1) := by decide +kernel
theorem dX12_init_206 : decode cX12_init 206 = .ok (.aload_n 0, 1) := by decide +kernel
theorem dX12_init_207 : decode cX12_init 207 = .ok (.getfield 47, 3) := by decide +kernel
theorem dX12_init_210 : decode cX12_init 210 = .ok (.bipush 6, 2) := by decide +kernel
theorem dX12_init_212 : decode cX12_init 212 = .ok (.ldc2_w 99, 3) := by decide +kernel
theorem dX12_init_215 : decode cX12_init 215 = .ok (.lastore, 1) := by decide +kernel
theorem dX12_init_216 : decode cX12_init 216 = .ok (.aload_n 0, 1) := by decide +kernel
theorem dX12_init_217 : decode cX12_init 217 = .ok (.getfield 47, 3) := by decide +kernel
theorem dX12_init_220 : decode cX12_init 220 = .ok (.bipush 7, 2) := by decide +kernel
theorem dX12_init_222 : decode cX12_init 222 = .ok (.ldc2_w 101, 3) := by decide +kernel
theorem dX12_init_225 : decode cX12_init 225 = .ok (.lastore, 1) := by decide +kernel
theorem dX12_init_226 : decode cX12_init 226 = .ok (.aload_n 0, 1) := by decide +kernel
theorem dX12_init_227 : decode cX12_init 227 = .ok (.getfield 47, 3) := by decide +kernel
theorem dX12_init_230 : decode cX12_init 230 = .ok (.bipush 8, 2) := by decide +kernel
theorem dX12_init_232 : decode cX12_init 232 = .ok (.ldc2_w 103, 3) := by decide +kernel
theorem dX12_init_235 : decode cX12_init 235 = .ok (.lastore, 1) := by decide +kernel
theorem dX12_init_236 : decode cX12_init 236 = .ok (.aload_n 0, 1) := by decide +kernel
theorem dX12_init_237 : decode cX12_init 237 = .ok (.getfield 47, 3) := by decide +kernel
theorem dX12_init_240 : decode cX12_init 240 = .ok (.bipush 9, 2) := by decide +kernel
theorem dX12_init_242 : decode cX12_init 242 = .ok (.ldc2_w 105, 3) := by decide +kernel
theorem dX12_init_245 : decode cX12_init 245 = .ok (.lastore, 1) := by decide +kernel
theorem dX12_init_246 : decode cX12_init 246 = .ok (.aload_n 0, 1) := by decide +kernel
theorem dX12_init_247 : decode cX12_init 247 = .ok (.getfield 47, 3) := by decide +kernel
theorem dX12_init_250 : decode cX12_init 250 = .ok (.bipush 10, 2) := by decide +kernel
theorem dX12_init_252 : decode cX12_init 252 = .ok (.ldc2_w 107, 3) := by decide +kernel
theorem dX12_init_255 : decode cX12_init 255 = .ok (.lastore, 1) := by decide +kernel
theorem dX12_init_256 : decode cX12_init 256 = .ok (.aload_n 0, 1) := by decide +kernel
theorem dX12_init_257 : decode cX12_init 257 = .ok (.getfield 47, 3) := by decide +kernel
theorem dX12_init_260 : decode cX12_init 260 = .ok (.bipush 11, 2) := by decide +kernel
theorem dX12_init_262 : decode cX12_init 262 = .ok (.ldc2_w 109, 3) := by decide +kernel
theorem dX12_init_265 : decode cX12_init 265 = .ok (.lastore, 1) := by decide +kernel
theorem dX12_init_266 : decode cX12_init 266 = .ok (.aload_n 0, 1) := by decide +kernel
theorem dX12_init_267 : decode cX12_init 267 = .ok (.getfield 47, 3) := by decide +kernel
theorem dX12_init_270 : decode cX12_init 270 = .ok (.bipush 12, 2) := by decide +kernel
theorem dX12_init_272 : decode cX12_init 272 = .ok (.ldc2_w 111, 3) := by decide +kernel
theorem dX12_init_275 : decode cX12_init 275 = .ok (.lastore, 1) := by decide +kernel
theorem dX12_init_276 : decode cX12_init 276 = .ok (.aload_n 0, 1) := by decide +kernel
theorem dX12_init_277 : decode cX12_init 277 = .ok (.getfield 47, 3) := by decide +kernel
theorem dX12_init_280 : decode cX12_init 280 = .ok (.bipush 13, 2) := by decide +kernel
theorem dX12_init_282 : decode cX12_init 282 = .ok (.ldc2_w 113, 3) := by decide +kernel
theorem dX12_init_285 : decode cX12_init 285 = .ok (.lastore, 1) := by decide +kernel
theorem dX12_init_286 : decode cX12_init 286 = .ok (.aload_n 0, 1) := by decide +kernel
theorem dX12_init_287 : decode cX12_init 287 = .ok (.getfield 47, 3) := by decide +kernel
theorem dX12_init_290 : decode cX12_init 290 = .ok (.bipush 14, 2) := by decide +kernel
theorem dX12_init_292 : decode cX12_init 292 = .ok (.ldc2_w 115, 3) := by decide +kernel
theorem dX12_init_295 : decode cX12_init 295 = .ok (.lastore, 1) := by decide +kernel
theorem dX12_init_296 : decode cX12_init 296 = .ok (.aload_n 0, 1) := by decide +kernel
theorem dX12_init_297 : decode cX12_init 297 = .ok (.getfield 47, 3) := by decide +kernel
theorem dX12_init_300 : decode cX12_init 300 = .ok (.bipush 15, 2) := by decide +kernel
theorem dX12_init_302 : decode cX12_init 302 = .ok (.ldc2_w 117, 3) := by decide +kernel
theorem dX12_init_305 : decode cX12_init 305 = .ok (.lastore, 1) := by decide +kernel
theorem dX12_init_306 : decode cX12_init 306 = .ok (.aload_n 0, 1) := by decide +kernel
theorem dX12_init_307 : decode cX12_init 307 = .ok (.getfield 47, 3) := by decide +kernel
theorem dX12_init_310 : decode cX12_init 310 = .ok (.bipush 16, 2) := by decide +kernel
theorem dX12_init_312 : decode cX12_init 312 = .ok (.ldc2_w 119, 3) := by decide +kernel
theorem dX12_init_315 : decode cX12_init 315 = .ok (.lastore, 1) := by decide +kernel
theorem dX12_init_316 : decode cX12_init 316 = .ok (.aload_n 0, 1) := by decide +kernel
theorem dX12_init_317 : decode cX12_init 317 = .ok (.getfield 47, 3) := by decide +kernel
theorem dX12_init_320 : decode cX12_init 320 = .ok (.bipush 17, 2) := by decide +kernel
theorem dX12_init_322 : decode cX12_init 322 = .ok (.ldc2_w 121, 3) := by decide +kernel
theorem dX12_init_325 : decode cX12_init 325 = .ok (.lastore, 1) := by decide +kernel
theorem dX12_init_326 : decode cX12_init 326 = .ok (.aload_n 0, 1) := by decide +kernel
theorem dX12_init_327 : decode cX12_init 327 = .ok (.getfield 47, 3) := by decide +kernel
theorem dX12_init_330 : decode cX12_init 330 = .ok (.bipush 18, 2) := by decide +kernel
theorem dX12_init_332 : decode cX12_init 332 = .ok (.ldc2_w 123, 3) := by decide +kernel
theorem dX12_init_335 : decode cX12_init 335 = .ok (.lastore, 1) := by decide +kernel
theorem dX12_init_336 : decode cX12_init 336 = .ok (.aload_n 0, 1) := by decide +kernel
theorem dX12_init_337 : decode cX12_init 337 = .ok (.getfield 47, 3) := by decide +kernel
theorem dX12_init_340 : decode cX12_init 340 = .ok (.bipush 19, 2) := by decide +kernel
theorem dX12_init_342 : decode cX12_init 342 = .ok (.ldc2_w 125, 3) := by decide +kernel
theorem dX12_init_345 : decode cX12_init 345 = .ok (.lastore, 1) := by decide +kernel
theorem dX12_init_346 : decode cX12_init 346 = .ok (.aload_n 0, 1) := by decide +kernel
theorem dX12_init_347 : decode cX12_init 347 = .ok (.getfield 47, 3) := by decide +kernel
theorem dX12_init_350 : decode cX12_init 350 = .ok (.bipush 20, 2) := by decide +kernel
theorem dX12_init_352 : decode cX12_init 352 = .ok (.ldc2_w 127, 3) := by decide +kernel
theorem dX12_init_355 : decode cX12_init 355 = .ok (.lastore, 1) := by decide +kernel
theorem dX12_init_356 : decode cX12_init 356 = .ok (.aload_n 0, 1) := by decide +kernel
theorem dX12_init_357 : decode cX12_init 357 = .ok (.getfield 47, 3) := by decide +kernel
theorem dX12_init_360 : decode cX12_init 360 = .ok (.bipush 21, 2) := by decide +kernel
theorem dX12_init_362 : decode cX12_init 362 = .ok (.ldc2_w 129, 3) := by decide +kernel
theorem dX12_init_365 : decode cX12_init 365 = .ok (.lastore, 1) := by decide +kernel
theorem dX12_init_366 : decode cX12_init 366 = .ok (.aload_n 0, 1) := by decide +kernel
theorem dX12_init_367 : decode cX12_init 367 = .ok (.getfield 47, 3) := by decide +kernel
theorem dX12_init_370 : decode cX12_init 370 = .ok (.bipush 22, 2) := by decide +kernel
theorem dX12_init_372 : decode cX12_init 372 = .ok (.ldc2_w 131, 3) := by decide +kernel
theorem dX12_init_375 : decode cX12_init 375 = .ok (.lastore, 1) := by decide +kernel
theorem dX12_init_376 : decode cX12_init 376 = .ok (.aload_n 0, 1) := by decide +kernel
theorem dX12_init_377 : decode cX12_init 377 = .ok (.getfield 47, 3) := by decide +kernel
theorem dX12_init_380 : decode cX12_init 380 = .ok (.bipush 23, 2) := by decide +kernel
theorem dX12_init_382 : decode cX12_init 382 = .ok (.ldc2_w 133, 3) := by decide +kernel
theorem dX12_init_385 : decode cX12_init 385 = .ok (.lastore, 1) := by decide +kernel
theorem dX12_init_386 : decode cX12_init 386 = .ok (.aload_n 0, 1) := by decide +kernel
theorem dX12_init_387 : decode cX12_init 387 = .ok (.getfield 47, 3) := by decide +kernel
theorem dX12_init_390 : decode cX12_init 390 = .ok (.bipush 24, 2) := by decide +kernel
theorem dX12_init_392 : decode cX12_init 392 = .ok (.ldc2_w 135, 3) := by decide +kernel
theorem dX12_init_395 : decode cX12_init 395 = .ok (.lastore, 1) := by decide +kernel
theorem dX12_init_396 : decode cX12_init 396 = .ok (.aload_n 0, 1) := by decide +kernel
theorem dX12_init_397 : decode cX12_init 397 = .ok (.getfield 47, 3) := by decide +kernel
theorem dX12_init_400 : decode cX12_init 400 = .ok (.bipush 25, 2) := by decide +kernel
theorem dX12_init_402 : decode cX12_init 402 = .ok (.ldc2_w 137, 3) := by decide +kernel
theorem dX12_init_405 : decode cX12_init 405 = .ok (.lastore, 1) := by decide +kernel
theorem dX12_init_406 : decode cX12_init 406 = .ok (.aload_n 0, 1) := by decide +kernel
theorem dX12_init_407 : decode cX12_init 407 = .ok (.getfield 47, 3) := by decide +kernel
theorem dX12_init_410 : decode cX12_init 410 = .ok (.bipush 26, 2) := by decide +kernel
theorem dX12_init_412 : decode cX12_init 412 = .ok (.ldc2_w 139, 3) := by decide +kernel
theorem dX12_init_415 : decode cX12_init 415 = .ok (.lastore, 1) := by decide +kernel
theorem dX12_init_416 : decode cX12_init 416 = .ok (.aload_n 0, 1) := by decide +kernel
theorem dX12_init_417 : decode cX12_init 417 = .ok (.getfield 47, 3) := by decide +kernel
theorem dX12_init_420 : decode cX12_init 420 = .ok (.bipush 27, 2) := by decide +kernel
theorem dX12_init_422 : decode cX12_init 422 = .ok (.ldc2_w 141, 3) := by decide +kernel
theorem dX12_init_425 : decode cX12_init 425 = .ok (.lastore, 1) := by decide +kernel
theorem dX12_init_426 : decode cX12_init 426 = .ok (.aload_n 0, 1) := by decide +kernel
theorem dX12_init_427 : decode cX12_init 427 = .ok (.getfield 47, 3) := by decide +kernel
theorem dX12_init_430 : decode cX12_init 430 = .ok (.bipush 28, 2) := by decide +kernel
theorem dX12_init_432 : decode cX12_init 432 = .ok (.ldc2_w 143, 3) := by decide +kernel
theorem dX12_init_435 : decode cX12_init 435 = .ok (.lastore, 1) := by decide +kernel
theorem dX12_init_436 : decode cX12_init 436 = .ok (.aload_n 0, 1) := by decide +kernel
theorem dX12_init_437 : decode cX12_init 437 = .ok (.getfield 47, 3) := by decide +kernel
theorem dX12_init_440 : decode cX12_init 440 = .ok (.bipush 29, 2) := by decide +kernel
theorem dX12_init_442 : decode cX12_init 442 = .ok (.ldc2_w 145, 3) := by decide +kernel
theorem dX12_init_445 : decode cX12_init 445 = .ok (.lastore, 1) := by decide +kernel
theorem dX12_init_446 : decode cX12_init 446 = .ok (.aload_n 0, 1) := by decide +kernel
theorem dX12_init_447 : decode cX12_init 447 = .ok (.getfield 47, 3) := by decide +kernel
theorem dX12_init_450 : decode cX12_init 450 = .ok (.bipush 30, 2) := by decide +kernel
theorem dX12_init_452 : decode cX12_init 452 = .ok (.ldc2_w 147, 3) := by decide +kernel
theorem dX12_init_455 : decode cX12_init 455 = .ok (.lastore, 1) := by decide +kernel
theorem dX12_init_456 : decode cX12_init 456 = .ok (.aload_n 0, 1) := by decide +kernel
theorem dX12_init_457 : decode cX12_init 457 = .ok (.getfield 33, 3) := by decide +kernel
theorem dX12_init_460 : decode cX12_init 460 = .ok (.iconst 3, 1) := by decide +kernel
theorem dX12_init_461 : decode cX12_init 461 = .ok (.bipush 99, 2) := by decide +kernel
theorem dX12_init_463 : decode cX12_init 463 = .ok (.iastore, 1) := by decide +kernel
theorem dX12_init_464 : decode cX12_init 464 = .ok (.aload_n 0, 1) := by decide +kernel
theorem dX12_init_465 : decode cX12_init 465 = .ok (.getfield 33, 3) := by decide +kernel
theorem dX12_init_468 : decode cX12_init 468 = .ok (.iconst 4, 1) := by decide +kernel
theorem dX12_init_469 : decode cX12_init 469 = .ok (.bipush 99, 2) := by decide +kernel
theorem dX12_init_471 : decode cX12_init 471 = .ok (.iastore, 1) := by decide +kernel
theorem dX12_init_472 : decode cX12_init 472 = .ok (.return_, 1) := by decide +kernel
theorem dX12_peek_0 : decode cX12_peek 0 = .ok (.aload_n 0, 1) := by decide +kernel
theorem dX12_peek_1 : decode cX12_peek 1 = .ok (.getfield 21, 3) := by decide +kernel
theorem dX12_peek_4 : decode cX12_peek 4 = .ok (.aload_n 0, 1) := by decide +kernel
theorem dX12_peek_5 : decode cX12_peek 5 = .ok (.getfield 18, 3) := by decide +kernel
theorem dX12_peek_8 : decode cX12_peek 8 = .ok (.if_icmp .ge 19, 3) := by decide +kernel
theorem dX12_peek_11 : decode cX12_peek 11 = .ok (.aload_n 0, 1) := by decide +kernel
theorem dX12_peek_12 : decode cX12_peek 12 = .ok (.getfield 14, 3) := by decide +kernel
theorem dX12_peek_15 : decode cX12_peek 15 = .ok (.aload_n 0, 1) := by decide +kernel
theorem dX12_peek_16 : decode cX12_peek 16 = .ok (.getfield 21, 3) := by decide +kernel
theorem dX12_peek_19 : decode cX12_peek 19 = .ok (.baload, 1) := by decide +kernel
theorem dX12_peek_20 : decode cX12_peek 20 = .ok (.sipush 255, 3) := by decide +kernel
theorem dX12_peek_23 : decode cX12_peek 23 = .ok (.iand, 1) := by decide +kernel
theorem dX12_peek_24 : decode cX12_peek 24 = .ok (.goto 4, 3) := by decide +kernel
theorem dX12_peek_27 : decode cX12_peek 27 = .ok (.iconst (-1), 1) := by decide +kernel
theorem dX12_peek_28 : decode cX12_peek 28 = .ok (.ireturn, 1) := by decide +kernel
theorem dX12_isSmall_0 : decode cX12_isSmall 0 = .ok (.iload_n 0, 1) := by decide +kernel
theorem dX12_isSmall_1 : decode cX12_isSmall 1 = .ok (.bipush 97, 2) := by decide +kernel
theorem dX12_isSmall_3 : decode cX12_isSmall 3 = .ok (.if_icmp .lt 13, 3) := by decide +kernel
theorem dX12_isSmall_6 : decode cX12_isSmall 6 = .ok (.iload_n 0, 1) := by decide +kernel
theorem dX12_isSmall_7 : decode cX12_isSmall 7 = .ok (.bipush 122, 2) := by decide +kernel
theorem dX12_isSmall_9 : decode cX12_isSmall 9 = .ok (.if_icmp .gt 7, 3) := by decide +kernel
theorem dX12_isSmall_12 : decode cX12_isSmall 12 = .ok (.iconst 1, 1) := by decide +kernel
theorem dX12_isSmall_13 : decode cX12_isSmall 13 = .ok (.goto 4, 3) := by decide +kernel
theorem dX12_isSmall_16 : decode cX12_isSmall 16 = .ok (.iconst 0, 1) := by decide +kernel
theorem dX12_isSmall_17 : decode cX12_isSmall 17 = .ok (.ireturn, 1) := by decide +kernel
theorem dX12_isDigit_0 : decode cX12_isDigit 0 = .ok (.iload_n 0, 1) := by decide +kernel
theorem dX12_isDigit_1 : decode cX12_isDigit 1 = .ok (.bipush 48, 2) := by decide +kernel
theorem dX12_isDigit_3 : decode cX12_isDigit 3 = .ok (.if_icmp .lt 13, 3) := by decide +kernel
theorem dX12_isDigit_6 : decode cX12_isDigit 6 = .ok (.iload_n 0, 1) := by decide +kernel
theorem dX12_isDigit_7 : decode cX12_isDigit 7 = .ok (.bipush 57, 2) := by decide +kernel
theorem dX12_isDigit_9 : decode cX12_isDigit 9 = .ok (.if_icmp .gt 7, 3) := by decide +kernel
theorem dX12_isDigit_12 : decode cX12_isDigit 12 = .ok (.iconst 1, 1) := by decide +kernel
theorem dX12_isDigit_13 : decode cX12_isDigit 13 = .ok (.goto 4, 3) := by decide +kernel
theorem dX12_isDigit_16 : decode cX12_isDigit 16 = .ok (.iconst 0, 1) := by decide +kernel
theorem dX12_isDigit_17 : decode cX12_isDigit 17 = .ok (.ireturn, 1) := by decide +kernel
set_option maxRecDepth 20000 in
theorem ggX12_next_X12_peek : GoodIn wsX12_next wsX12_peek := goodIn_r _ [13, 1, 4, 14, 21, 22, 23, 24, 25, 26, 27, 28, 29, 30, 31, 32, 33, 34, 35, 36, 37, 38, 39, 40, 41, 42, 43, 44, 45, 46, 47, 48, 49, 50, 51, 52, 53, 54, 55, 56, 57, 58, 59, 60, 61, 62, 63, 64, 65, 66, 67] (by decide +kernel) (by decide +kernel)
set_option maxRecDepth 20000 in
theorem gX12_next_X12_peek : GoodIn wsX12_next (wsV RX12 149 RX12 yX12_peek wsX12_peek) := goodIn_app (goodIn_of _ (by decide +kernel)) ggX12_next_X12_peek
set_option maxRecDepth 20000 in
theorem ggX12_next_X12_isSmall : GoodIn wsX12_next wsX12_isSmall := goodIn_r _ [17] (by decide +kernel) (by decide +kernel)
set_option maxRecDepth 20000 in
theorem gX12_next_X12_isSmall : GoodIn wsX12_next (va_wsS RX12 162 yX12_isSmall wsX12_isSmall) := goodIn_app (goodIn_of _ (by decide +kernel)) ggX12_next_X12_isSmall
set_option maxRecDepth 20000 in
theorem ggX12_next_X12_isDigit : GoodIn wsX12_next wsX12_isDigit := goodIn_r _ [20] (by decide +kernel) (by decide +kernel)
set_option maxRecDepth 20000 in
theorem gX12_next_X12_isDigit : GoodIn wsX12_next (va_wsS RX12 166 yX12_isDigit wsX12_isDigit) := goodIn_app (goodIn_of _ (by decide +kernel)) ggX12_next_X12_isDigit
theorem dX12_next_0 : decode cX12_next 0 = .ok (.aload_n 0, 1) := by decide +kernel
theorem dX12_next_1 : decode cX12_next 1 = .ok (.invokevirtual 149, 3) := by decide +kernel
theorem dX12_next_4 : decode cX12_next 4 = .ok (.bipush 32, 2) := by decide +kernel
theorem dX12_next_6 : decode cX12_next 6 = .ok (.if_icmp .eq 12, 3) := by decide +kernel
theorem dX12_next_9 : decode cX12_next 9 = .ok (.aload_n 0, 1) := by decide +kernel
theorem dX12_next_10 : decode cX12_next 10 = .ok (.invokevirtual 149, 3) := by decide +kernel
theorem dX12_next_13 : decode cX12_next 13 = .ok (.bipush 10, 2) := by decide +kernel
theorem dX12_next_15 : decode cX12_next 15 = .ok (.if_icmp .ne 16, 3) := by decide +kernel
theorem dX12_next_18 : decode cX12_next 18 = .ok (.aload_n 0, 1) := by decide +kernel
theorem dX12_next_19 : decode cX12_next 19 = .ok (.dup, 1) := by decide +kernel
theorem dX12_next_20 : decode cX12_next 20 = .ok (.getfield 21, 3) := by decide +kernel
theorem dX12_next_23 : decode cX12_next 23 = .ok (.iconst 1, 1) := by decide +kernel
theorem dX12_next_24 : decode cX12_next 24 = .ok (.iadd, 1) := by decide +kernel
theorem dX12_next_25 : decode cX12_next 25 = .ok (.putfield 21, 3) := by decide +kernel
theorem dX12_next_28 : decode cX12_next 28 = .ok (.goto (-28), 3) := by decide +kernel
theorem dX12_next_31 : decode cX12_next 31 = .ok (.aload_n 0, 1) := by decide +kernel
theorem dX12_next_32 : decode cX12_next 32 = .ok (.aload_n 0, 1) := by decide +kernel
theorem dX12_next_33 : decode cX12_next 33 = .ok (.getfield 21, 3) := by decide +kernel
theorem dX12_next_36 : decode cX12_next 36 = .ok (.putfield 153, 3) := by decide +kernel
theorem dX12_next_39 : decode cX12_next 39 = .ok (.aload_n 0, 1) := by decide +kernel
theorem dX12_next_40 : decode cX12_next 40 = .ok (.iconst 0, 1) := by decide +kernel
theorem dX12_next_41 : decode cX12_next 41 = .ok (.putfield 156, 3) := by decide +kernel
theorem dX12_next_44 : decode cX12_next 44 = .ok (.aload_n 0, 1) := by decide +kernel
theorem dX12_next_45 : decode cX12_next 45 = .ok (.getfield 18, 3) := by decide +kernel
theorem dX12_next_48 : decode cX12_next 48 = .ok (.aload_n 0, 1) := by decide +kernel
theorem dX12_next_49 : decode cX12_next 49 = .ok (.getfield 24, 3) := by decide +kernel
theorem dX12_next_52 : decode cX12_next 52 = .ok (.if_icmp .le 28, 3) := by decide +kernel
theorem dX12_next_55 : decode cX12_next 55 = .ok (.aload_n 0, 1) := by decide +kernel
theorem dX12_next_56 : decode cX12_next 56 = .ok (.getfield 21, 3) := by decide +kernel
theorem dX12_next_59 : decode cX12_next 59 = .ok (.aload_n 0, 1) := by decide +kernel
theorem dX12_next_60 : decode cX12_next 60 = .ok (.getfield 24, 3) := by decide +kernel
theorem dX12_next_63 : decode cX12_next 63 = .ok (.if_icmp .lt 17, 3) := by decide +kernel
theorem dX12_next_66 : decode cX12_next 66 = .ok (.aload_n 0, 1) := by decide +kernel
theorem dX12_next_67 : decode cX12_next 67 = .ok (.aload_n 0, 1) := by decide +kernel
theorem dX12_next_68 : decode cX12_next 68 = .ok (.getfield 24, 3) := by decide +kernel
theorem dX12_next_71 : decode cX12_next 71 = .ok (.putfield 153, 3) := by decide +kernel
theorem dX12_next_74 : decode cX12_next 74 = .ok (.aload_n 0, 1) := by decide +kernel
theorem dX12_next_75 : decode cX12_next 75 = .ok (.iconst 4, 1) := by decide +kernel
theorem dX12_next_76 : decode cX12_next 76 = .ok (.putfield 159, 3) := by decide +kernel
theorem dX12_next_79 : decode cX12_next 79 = .ok (.return_, 1) := by decide +kernel
theorem dX12_next_80 : decode cX12_next 80 = .ok (.aload_n 0, 1) := by decide +kernel
theorem dX12_next_81 : decode cX12_next 81 = .ok (.invokevirtual 149, 3) := by decide +kernel
theorem dX12_next_84 : decode cX12_next 84 = .ok (.istore_n 1, 1) := by decide +kernel
theorem dX12_next_85 : decode cX12_next 85 = .ok (.iload_n 1, 1) := by decide +kernel
theorem dX12_next_86 : decode cX12_next 86 = .ok (.ifCond .ge 9, 3) := by decide +kernel
theorem dX12_next_89 : decode cX12_next 89 = .ok (.aload_n 0, 1) := by decide +kernel
theorem dX12_next_90 : decode cX12_next 90 = .ok (.iconst 0, 1) := by decide +kernel
theorem dX12_next_91 : decode cX12_next 91 = .ok (.putfield 159, 3) := by decide +kernel
theorem dX12_next_94 : decode cX12_next 94 = .ok (.return_, 1) := by decide +kernel
theorem dX12_next_95 : decode cX12_next 95 = .ok (.iload_n 1, 1) := by decide +kernel
theorem dX12_next_96 : decode cX12_next 96 = .ok (.invokestatic 162, 3) := by decide +kernel
theorem dX12_next_99 : decode cX12_next 99 = .ok (.ifCond .ne 65, 3) := by decide +kernel
theorem dX12_next_102 : decode cX12_next 102 = .ok (.iload_n 1, 1) := by decide +kernel
theorem dX12_next_103 : decode cX12_next 103 = .ok (.invokestatic 166, 3) := by decide +kernel
theorem dX12_next_106 : decode cX12_next 106 = .ok (.ifCond .ne 58, 3) := by decide +kernel
theorem dX12_next_109 : decode cX12_next 109 = .ok (.aload_n 0, 1) := by decide +kernel
theorem dX12_next_110 : decode cX12_next 110 = .ok (.iload_n 1, 1) := by decide +kernel
theorem dX12_next_111 : decode cX12_next 111 = .ok (.bipush 59, 2) := by decide +kernel
theorem dX12_next_113 : decode cX12_next 113 = .ok (.if_icmp .eq 27, 3) := by decide +kernel
theorem dX12_next_116 : decode cX12_next 116 = .ok (.iload_n 1, 1) := by decide +kernel
theorem dX12_next_117 : decode cX12_next 117 = .ok (.bipush 40, 2) := by decide +kernel
theorem dX12_next_119 : decode cX12_next 119 = .ok (.if_icmp .eq 21, 3) := by decide +kernel
theorem dX12_next_122 : decode cX12_next 122 = .ok (.iload_n 1, 1) := by decide +kernel
theorem dX12_next_123 : decode cX12_next 123 = .ok (.bipush 41, 2) := by decide +kernel
theorem dX12_next_125 : decode cX12_next 125 = .ok (.if_icmp .eq 15, 3) := by decide +kernel
theorem dX12_next_128 : decode cX12_next 128 = .ok (.iload_n 1, 1) := by decide +kernel
theorem dX12_next_129 : decode cX12_next 129 = .ok (.bipush 60, 2) := by decide +kernel
theorem dX12_next_131 : decode cX12_next 131 = .ok (.if_icmp .lt 13, 3) := by decide +kernel
theorem dX12_next_134 : decode cX12_next 134 = .ok (.iload_n 1, 1) := by decide +kernel
theorem dX12_next_135 : decode cX12_next 135 = .ok (.bipush 62, 2) := by decide +kernel
theorem dX12_next_137 : decode cX12_next 137 = .ok (.if_icmp .gt 7, 3) := by decide +kernel
theorem dX12_next_140 : decode cX12_next 140 = .ok (.iconst 3, 1) := by decide +kernel
theorem dX12_next_141 : decode cX12_next 141 = .ok (.goto 4, 3) := by decide +kernel
theorem dX12_next_144 : decode cX12_next 144 = .ok (.iconst 4, 1) := by decide +kernel
theorem dX12_next_145 : decode cX12_next 145 = .ok (.putfield 159, 3) := by decide +kernel
theorem dX12_next_148 : decode cX12_next 148 = .ok (.aload_n 0, 1) := by decide +kernel
theorem dX12_next_149 : decode cX12_next 149 = .ok (.iload_n 1, 1) := by decide +kernel
theorem dX12_next_150 : decode cX12_next 150 = .ok (.putfield 169, 3) := by decide +kernel
theorem dX12_next_153 : decode cX12_next 153 = .ok (.aload_n 0, 1) := by decide +kernel
theorem dX12_next_154 : decode cX12_next 154 = .ok (.dup, 1) := by decide +kernel
theorem dX12_next_155 : decode cX12_next 155 = .ok (.getfield 21, 3) := by decide +kernel
theorem dX12_next_158 : decode cX12_next 158 = .ok (.iconst 1, 1) := by decide +kernel
theorem dX12_next_159 : decode cX12_next 159 = .ok (.iadd, 1) := by decide +kernel
theorem dX12_next_160 : decode cX12_next 160 = .ok (.putfield 21, 3) := by decide +kernel
theorem dX12_next_163 : decode cX12_next 163 = .ok (.return_, 1) := by decide +kernel
theorem dX12_next_164 : decode cX12_next 164 = .ok (.iload_n 1, 1) := by decide +kernel
theorem dX12_next_165 : decode cX12_next 165 = .ok (.invokestatic 162, 3) := by decide +kernel
theorem dX12_next_168 : decode cX12_next 168 = .ok (.istore_n 2, 1) := by decide +kernel
theorem dX12_next_169 : decode cX12_next 169 = .ok (.iconst 1, 1) := by decide +kernel
theorem dX12_next_170 : decode cX12_next 170 = .ok (.istore_n 3, 1) := by decide +kernel
theorem dX12_next_171 : decode cX12_next 171 = .ok (.aload_n 0, 1) := by decide +kernel
theorem dX12_next_172 : decode cX12_next 172 = .ok (.lconst 0, 1) := by decide +kernel
theorem dX12_next_173 : decode cX12_next 173 = .ok (.putfield 172, 3) := by decide +kernel
theorem dX12_next_176 : decode cX12_next 176 = .ok (.aload_n 0, 1) := by decide +kernel
theorem dX12_next_177 : decode cX12_next 177 = .ok (.iconst 0, 1) := by decide +kernel
theorem dX12_next_178 : decode cX12_next 178 = .ok (.putfield 169, 3) := by decide +kernel
theorem dX12_next_181 : decode cX12_next 181 = .ok (.aload_n 0, 1) := by decide +kernel
theorem dX12_next_182 : decode cX12_next 182 = .ok (.invokevirtual 149, 3) := by decide +kernel
theorem dX12_next_185 : decode cX12_next 185 = .ok (.invokestatic 162, 3) := by decide +kernel
theorem dX12_next_188 : decode cX12_next 188 = .ok (.ifCond .ne 13, 3) := by decide +kernel
theorem dX12_next_191 : decode cX12_next 191 = .ok (.aload_n 0, 1) := by decide +kernel
theorem dX12_next_192 : decode cX12_next 192 = .ok (.invokevirtual 149, 3) := by decide +kernel
theorem dX12_next_195 : decode cX12_next 195 = .ok (.invokestatic 166, 3) := by decide +kernel
theorem dX12_next_198 : decode cX12_next 198 = .ok (.ifCond .eq 100, 3) := by decide +kernel
theorem dX12_next_201 : decode cX12_next 201 = .ok (.iload_n 3, 1) := by decide +kernel
theorem dX12_next_202 : decode cX12_next 202 = .ok (.ifCond .eq 18, 3) := by decide +kernel
theorem dX12_next_205 : decode cX12_next 205 = .ok (.aload_n 0, 1) := by decide +kernel
theorem dX12_next_206 : decode cX12_next 206 = .ok (.invokevirtual 149, 3) := by decide +kernel
theorem dX12_next_209 : decode cX12_next 209 = .ok (.invokestatic 162, 3) := by decide +kernel
theorem dX12_next_212 : decode cX12_next 212 = .ok (.iload_n 2, 1) := by decide +kernel
theorem dX12_next_213 : decode cX12_next 213 = .ok (.if_icmp .ne 7, 3) := by decide +kernel
theorem dX12_next_216 : decode cX12_next 216 = .ok (.iconst 1, 1) := by decide +kernel
theorem dX12_next_217 : decode cX12_next 217 = .ok (.goto 4, 3) := by decide +kernel
theorem dX12_next_220 : decode cX12_next 220 = .ok (.iconst 0, 1) := by decide +kernel
theorem dX12_next_221 : decode cX12_next 221 = .ok (.istore_n 3, 1) := by decide +kernel
theorem dX12_next_222 : decode cX12_next 222 = .ok (.aload_n 0, 1) := by decide +kernel
theorem dX12_next_223 : decode cX12_next 223 = .ok (.getfield 156, 3) := by decide +kernel
theorem dX12_next_226 : decode cX12_next 226 = .ok (.bipush 7, 2) := by decide +kernel
theorem dX12_next_228 : decode cX12_next 228 = .ok (.if_icmp .ge 20, 3) := by decide +kernel
theorem dX12_next_231 : decode cX12_next 231 = .ok (.aload_n 0, 1) := by decide +kernel
theorem dX12_next_232 : decode cX12_next 232 = .ok (.aload_n 0, 1) := by decide +kernel
theorem dX12_next_233 : decode cX12_next 233 = .ok (.getfield 172, 3) := by decide +kernel
theorem dX12_next_236 : decode cX12_next 236 = .ok (.bipush 8, 2) := by decide +kernel
theorem dX12_next_238 : decode cX12_next 238 = .ok (.lshl, 1) := by decide +kernel
theorem dX12_next_239 : decode cX12_next 239 = .ok (.aload_n 0, 1) := by decide +kernel
theorem dX12_next_240 : decode cX12_next 240 = .ok (.invokevirtual 149, 3) := by decide +kernel
theorem dX12_next_243 : decode cX12_next 243 = .ok (.i2l, 1) := by decide +kernel
theorem dX12_next_244 : decode cX12_next 244 = .ok (.lor, 1) := by decide +kernel
theorem dX12_next_245 : decode cX12_next 245 = .ok (.putfield 172, 3) := by decide +kernel
theorem dX12_next_248 : decode cX12_next 248 = .ok (.aload_n 0, 1) := by decide +kernel
theorem dX12_next_249 : decode cX12_next 249 = .ok (.getfield 156, 3) := by decide +kernel
theorem dX12_next_252 : decode cX12_next 252 = .ok (.iconst 3, 1) := by decide +kernel
theorem dX12_next_253 : decode cX12_next 253 = .ok (.if_icmp .ge 22, 3) := by decide +kernel
theorem dX12_next_256 : decode cX12_next 256 = .ok (.aload_n 0, 1) := by decide +kernel
theorem dX12_next_257 : decode cX12_next 257 = .ok (.bipush 10, 2) := by decide +kernel
theorem dX12_next_259 : decode cX12_next 259 = .ok (.aload_n 0, 1) := by decide +kernel
theorem dX12_next_260 : decode cX12_next 260 = .ok (.getfield 169, 3) := by decide +kernel
theorem dX12_next_263 : decode cX12_next 263 = .ok (.imul, 1) := by decide +kernel
theorem dX12_next_264 : decode cX12_next 264 = .ok (.aload_n 0, 1) := by decide +kernel
theorem dX12_next_265 : decode cX12_next 265 = .ok (.invokevirtual 149, 3) := by decide +kernel
theorem dX12_next_268 : decode cX12_next 268 = .ok (.iadd, 1) := by decide +kernel
theorem dX12_next_269 : decode cX12_next 269 = .ok (.bipush 48, 2) := by decide +kernel
theorem dX12_next_271 : decode cX12_next 271 = .ok (.isub, 1) := by decide +kernel
theorem dX12_next_272 : decode cX12_next 272 = .ok (.putfield 169, 3) := by decide +kernel
theorem dX12_next_275 : decode cX12_next 275 = .ok (.aload_n 0, 1) := by decide +kernel
theorem dX12_next_276 : decode cX12_next 276 = .ok (.dup, 1) := by decide +kernel
theorem dX12_next_277 : decode cX12_next 277 = .ok (.getfield 156, 3) := by decide +kernel
theorem dX12_next_280 : decode cX12_next 280 = .ok (.iconst 1, 1) := by decide +kernel
theorem dX12_next_281 : decode cX12_next 281 = .ok (.iadd, 1) := by decide +kernel
theorem dX12_next_282 : decode cX12_next 282 = .ok (.putfield 156, 3) := by decide +kernel
theorem dX12_next_285 : decode cX12_next 285 = .ok (.aload_n 0, 1) := by decide +kernel
theorem dX12_next_286 : decode cX12_next 286 = .ok (.dup, 1) := by decide +kernel
theorem dX12_next_287 : decode cX12_next 287 = .ok (.getfield 21, 3) := by decide +kernel
theorem dX12_next_290 : decode cX12_next 290 = .ok (.iconst 1, 1) := by decide +kernel
theorem dX12_next_291 : decode cX12_next 291 = .ok (.iadd, 1) := by decide +kernel
theorem dX12_next_292 : decode cX12_next 292 = .ok (.putfield 21, 3) := by decide +kernel
theorem dX12_next_295 : decode cX12_next 295 = .ok (.goto (-114), 3) := by decide +kernel
theorem dX12_next_298 : decode cX12_next 298 = .ok (.aload_n 0, 1) := by decide +kernel
theorem dX12_next_299 : decode cX12_next 299 = .ok (.iload_n 3, 1) := by decide +kernel
theorem dX12_next_300 : decode cX12_next 300 = .ok (.ifCond .eq 20, 3) := by decide +kernel
theorem dX12_next_303 : decode cX12_next 303 = .ok (.aload_n 0, 1) := by decide +kernel
theorem dX12_next_304 : decode cX12_next 304 = .ok (.getfield 156, 3) := by decide +kernel
theorem dX12_next_307 : decode cX12_next 307 = .ok (.iload_n 2, 1) := by decide +kernel
theorem dX12_next_308 : decode cX12_next 308 = .ok (.ifCond .eq 8, 3) := by decide +kernel
theorem dX12_next_311 : decode cX12_next 311 = .ok (.bipush 7, 2) := by decide +kernel
theorem dX12_next_313 : decode cX12_next 313 = .ok (.goto 4, 3) := by decide +kernel
theorem dX12_next_316 : decode cX12_next 316 = .ok (.iconst 3, 1) := by decide +kernel
theorem dX12_next_317 : decode cX12_next 317 = .ok (.if_icmp .le 7, 3) := by decide +kernel
theorem dX12_next_320 : decode cX12_next 320 = .ok (.iconst 4, 1) := by decide +kernel
theorem dX12_next_321 : decode cX12_next 321 = .ok (.goto 12, 3) := by decide +kernel
theorem dX12_next_324 : decode cX12_next 324 = .ok (.iload_n 2, 1) := by decide +kernel
theorem dX12_next_325 : decode cX12_next 325 = .ok (.ifCond .eq 7, 3) := by decide +kernel
theorem dX12_next_328 : decode cX12_next 328 = .ok (.iconst 1, 1) := by decide +kernel
theorem dX12_next_329 : decode cX12_next 329 = .ok (.goto 4, 3) := by decide +kernel
theorem dX12_next_332 : decode cX12_next 332 = .ok (.iconst 2, 1) := by decide +kernel
theorem dX12_next_333 : decode cX12_next 333 = .ok (.putfield 159, 3) := by decide +kernel
theorem dX12_next_336 : decode cX12_next 336 = .ok (.return_, 1) := by decide +kernel
theorem dX12_bad_0 : decode cX12_bad 0 = .ok (.aload_n 0, 1) := by decide +kernel
theorem dX12_bad_1 : decode cX12_bad 1 = .ok (.iload_n 1, 1) := by decide +kernel
theorem dX12_bad_2 : decode cX12_bad 2 = .ok (.putfield 176, 3) := by decide +kernel
theorem dX12_bad_5 : decode cX12_bad 5 = .ok (.aload_n 0, 1) := by decide +kernel
theorem dX12_bad_6 : decode cX12_bad 6 = .ok (.aload_n 0, 1) := by decide +kernel
theorem dX12_bad_7 : decode cX12_bad 7 = .ok (.getfield 153, 3) := by decide +kernel
theorem dX12_bad_10 : decode cX12_bad 10 = .ok (.putfield 179, 3) := by decide +kernel
theorem dX12_bad_13 : decode cX12_bad 13 = .ok (.iconst 0, 1) := by decide +kernel
theorem dX12_bad_14 : decode cX12_bad 14 = .ok (.ireturn, 1) := by decide +kernel
theorem dX12_isWord_0 : decode cX12_isWord 0 = .ok (.aload_n 0, 1) := by decide +kernel
theorem dX12_isWord_1 : decode cX12_isWord 1 = .ok (.getfield 159, 3) := by decide +kernel
theorem dX12_isWord_4 : decode cX12_isWord 4 = .ok (.iconst 1, 1) := by decide +kernel
theorem dX12_isWord_5 : decode cX12_isWord 5 = .ok (.if_icmp .ne 16, 3) := by decide +kernel
theorem dX12_isWord_8 : decode cX12_isWord 8 = .ok (.aload_n 0, 1) := by decide +kernel
theorem dX12_isWord_9 : decode cX12_isWord 9 = .ok (.getfield 172, 3) := by decide +kernel
theorem dX12_isWord_12 : decode cX12_isWord 12 = .ok (.lload_n 1, 1) := by decide +kernel
theorem dX12_isWord_13 : decode cX12_isWord 13 = .ok (.lcmp, 1) := by decide +kernel
theorem dX12_isWord_14 : decode cX12_isWord 14 = .ok (.ifCond .ne 7, 3) := by decide +kernel
theorem dX12_isWord_17 : decode cX12_isWord 17 = .ok (.iconst 1, 1) := by decide +kernel
theorem dX12_isWord_18 : decode cX12_isWord 18 = .ok (.goto 4, 3) := by decide +kernel
theorem dX12_isWord_21 : decode cX12_isWord 21 = .ok (.iconst 0, 1) := by decide +kernel
theorem dX12_isWord_22 : decode cX12_isWord 22 = .ok (.ireturn, 1) := by decide +kernel
theorem dX12_isSign_0 : decode cX12_isSign 0 = .ok (.aload_n 0, 1) := by decide +kernel
theorem dX12_isSign_1 : decode cX12_isSign 1 = .ok (.getfield 159, 3) := by decide +kernel
theorem dX12_isSign_4 : decode cX12_isSign 4 = .ok (.iconst 3, 1) := by decide +kernel
theorem dX12_isSign_5 : decode cX12_isSign 5 = .ok (.if_icmp .ne 15, 3) := by decide +kernel
theorem dX12_isSign_8 : decode cX12_isSign 8 = .ok (.aload_n 0, 1) := by decide +kernel
theorem dX12_isSign_9 : decode cX12_isSign 9 = .ok (.getfield 169, 3) := by decide +kernel
theorem dX12_isSign_12 : decode cX12_isSign 12 = .ok (.iload_n 1, 1) := by decide +kernel
theorem dX12_isSign_13 : decode cX12_isSign 13 = .ok (.if_icmp .ne 7, 3) := by decide +kernel
theorem dX12_isSign_16 : decode cX12_isSign 16 = .ok (.iconst 1, 1) := by decide +kernel
theorem dX12_isSign_17 : decode cX12_isSign 17 = .ok (.goto 4, 3) := by decide +kernel
theorem dX12_isSign_20 : decode cX12_isSign 20 = .ok (.iconst 0, 1) := by decide +kernel
theorem dX12_isSign_21 : decode cX12_isSign 21 = .ok (.ireturn, 1) := by decide +kernel
set_option maxRecDepth 20000 in
theorem ggX12_sign_X12_isSign : GoodIn wsX12_sign wsX12_isSign := goodIn_r _ [5, 6, 7, 35, 36, 37, 38, 39, 40, 41, 42, 43, 44, 45, 46, 47, 48, 49, 50, 51, 52, 53, 54, 55, 56, 57, 58, 59, 60, 61, 62, 63, 64, 65, 66, 67, 68, 69, 70, 71, 72, 73, 74, 75, 76, 77, 78, 79, 80, 81] (by decide +kernel) (by decide +kernel)
set_option maxRecDepth 20000 in
theorem gX12_sign_X12_isSign : GoodIn wsX12_sign (wsV RX12 182 RX12 yX12_isSign wsX12_isSign) := goodIn_app (goodIn_of _ (by decide +kernel)) ggX12_sign_X12_isSign
set_option maxRecDepth 20000 in
theorem ggX12_sign_X12_bad : GoodIn wsX12_sign wsX12_bad := goodIn_r _ [11, 12, 13, 14, 35, 36, 37, 38, 39, 40, 41, 42, 43, 44, 45, 46, 47, 48, 49, 50, 51, 52, 53, 54, 55, 56, 57, 58, 59, 60, 61, 62, 63, 64, 65, 66, 67, 68, 69, 70, 71, 72, 73, 74, 75, 76, 77, 78, 79, 80, 81] (by decide +kernel) (by decide +kernel)
set_option maxRecDepth 20000 in
theorem gX12_sign_X12_bad : GoodIn wsX12_sign (wsV RX12 185 RX12 yX12_bad wsX12_bad) := goodIn_app (goodIn_of _ (by decide +kernel)) ggX12_sign_X12_bad
set_option maxRecDepth 20000 in
theorem ggX12_sign_X12_next : GoodIn wsX12_sign wsX12_next := goodIn_r _ [18, 19, 13, 20, 21, 22, 6, 7, 23, 24, 25, 26, 4, 27, 28, 29, 30, 31, 32, 33, 34, 35, 36, 37, 38, 39, 40, 41, 42, 43, 44, 45, 46, 47, 48, 49, 50, 51, 52, 53, 54, 55, 56, 57, 58, 59, 60, 61, 62, 63, 64, 65, 66, 67, 68, 69, 70, 71, 72, 73, 74, 75, 76, 77, 78, 79, 80, 81] (by decide +kernel) (by decide +kernel)
set_option maxRecDepth 20000 in
theorem gX12_sign_X12_next : GoodIn wsX12_sign (wsV RX12 188 RX12 yX12_next wsX12_next) := goodIn_app (goodIn_of _ (by decide +kernel)) ggX12_sign_X12_next
theorem dX12_sign_0 : decode cX12_sign 0 = .ok (.aload_n 0, 1) := by decide +kernel
theorem dX12_sign_1 : decode cX12_sign 1 = .ok (.iload_n 1, 1) := by decide +kernel
theorem dX12_sign_2 : decode cX12_sign 2 = .ok (.invokevirtual 182, 3) := by decide +kernel
theorem dX12_sign_5 : decode cX12_sign 5 = .ok (.ifCond .ne 9, 3) := by decide +kernel
theorem dX12_sign_8 : decode cX12_sign 8 = .ok (.aload_n 0, 1) := by decide +kernel
theorem dX12_sign_9 : decode cX12_sign 9 = .ok (.iconst 1, 1) := by decide +kernel
theorem dX12_sign_10 : decode cX12_sign 10 = .ok (.invokevirtual 185, 3) := by decide +kernel
theorem dX12_sign_13 : decode cX12_sign 13 = .ok (.ireturn, 1) := by decide +kernel
theorem dX12_sign_14 : decode cX12_sign 14 = .ok (.aload_n 0, 1) := by decide +kernel
theorem dX12_sign_15 : decode cX12_sign 15 = .ok (.invokevirtual 188, 3) := by decide +kernel
theorem dX12_sign_18 : decode cX12_sign 18 = .ok (.iconst 1, 1) := by decide +kernel
theorem dX12_sign_19 : decode cX12_sign 19 = .ok (.ireturn, 1) := by decide +kernel
theorem dX12_isName_0 : decode cX12_isName 0 = .ok (.aload_n 0, 1) := by decide +kernel
theorem dX12_isName_1 : decode cX12_isName 1 = .ok (.getfield 159, 3) := by decide +kernel
theorem dX12_isName_4 : decode cX12_isName 4 = .ok (.iconst 1, 1) := by decide +kernel
theorem dX12_isName_5 : decode cX12_isName 5 = .ok (.if_icmp .ne 7, 3) := by decide +kernel
theorem dX12_isName_8 : decode cX12_isName 8 = .ok (.iconst 1, 1) := by decide +kernel
theorem dX12_isName_9 : decode cX12_isName 9 = .ok (.goto 4, 3) := by decide +kernel
theorem dX12_isName_12 : decode cX12_isName 12 = .ok (.iconst 0, 1) := by decide +kernel
theorem dX12_isName_13 : decode cX12_isName 13 = .ok (.istore_n 1, 1) := by decide +kernel
theorem dX12_isName_14 : decode cX12_isName 14 = .ok (.iconst 0, 1) := by decide +kernel
theorem dX12_isName_15 : decode cX12_isName 15 = .ok (.istore_n 2, 1) := by decide +kernel
theorem dX12_isName_16 : decode cX12_isName 16 = .ok (.iload_n 2, 1) := by decide +kernel
theorem dX12_isName_17 : decode cX12_isName 17 = .ok (.bipush 31, 2) := by decide +kernel
theorem dX12_isName_19 : decode cX12_isName 19 = .ok (.if_icmp .ge 33, 3) := by decide +kernel
theorem dX12_isName_22 : decode cX12_isName 22 = .ok (.iload_n 1, 1) := by decide +kernel
theorem dX12_isName_23 : decode cX12_isName 23 = .ok (.ifCond .eq 21, 3) := by decide +kernel
theorem dX12_isName_26 : decode cX12_isName 26 = .ok (.aload_n 0, 1) := by decide +kernel
theorem dX12_isName_27 : decode cX12_isName 27 = .ok (.getfield 172, 3) := by decide +kernel
theorem dX12_isName_30 : decode cX12_isName 30 = .ok (.aload_n 0, 1) := by decide +kernel
theorem dX12_isName_31 : decode cX12_isName 31 = .ok (.getfield 47, 3) := by decide +kernel
theorem dX12_isName_34 : decode cX12_isName 34 = .ok (.iload_n 2, 1) := by decide +kernel
theorem dX12_isName_35 : decode cX12_isName 35 = .ok (.laload, 1) := by decide +kernel
theorem dX12_isName_36 : decode cX12_isName 36 = .ok (.lcmp, 1) := by decide +kernel
theorem dX12_isName_37 : decode cX12_isName 37 = .ok (.ifCond .eq 7, 3) := by decide +kernel
theorem dX12_isName_40 : decode cX12_isName 40 = .ok (.iconst 1, 1) := by decide +kernel
theorem dX12_isName_41 : decode cX12_isName 41 = .ok (.goto 4, 3) := by decide +kernel
theorem dX12_isName_44 : decode cX12_isName 44 = .ok (.iconst 0, 1) := by decide +kernel
theorem dX12_isName_45 : decode cX12_isName 45 = .ok (.istore_n 1, 1) := by decide +kernel
theorem dX12_isName_46 : decode cX12_isName 46 = .ok (.iinc 2 1, 3) := by decide +kernel
theorem dX12_isName_49 : decode cX12_isName 49 = .ok (.goto (-33), 3) := by decide +kernel
theorem dX12_isName_52 : decode cX12_isName 52 = .ok (.iload_n 1, 1) := by decide +kernel
theorem dX12_isName_53 : decode cX12_isName 53 = .ok (.ireturn, 1) := by decide +kernel
set_option maxRecDepth 20000 in
theorem ggX12_takes_X12_bad : GoodIn wsX12_takes wsX12_bad := goodIn_r _ [8, 9, 10, 11, 35, 36, 37, 38, 39, 40, 41, 42, 43, 44, 45, 46, 47, 48, 49, 50, 51, 52, 53, 54, 55, 56, 57, 58, 59, 60, 61, 62, 63, 64, 65, 66, 67, 68, 69, 70, 71, 72, 73, 74, 75, 76, 77, 78, 79, 80, 81] (by decide +kernel) (by decide +kernel)
set_option maxRecDepth 20000 in
theorem gX12_takes_X12_bad : GoodIn wsX12_takes (wsV RX12 185 RX12 yX12_bad wsX12_bad) := goodIn_app (goodIn_of _ (by decide +kernel)) ggX12_takes_X12_bad
set_option maxRecDepth 20000 in
theorem ggX12_takes_X12_isIn : GoodIn wsX12_takes wsX12_isIn := goodIn_r _ [14] (by decide +kernel) (by decide +kernel)
set_option maxRecDepth 20000 in
theorem gX12_takes_X12_isIn : GoodIn wsX12_takes (va_wsS RX12 191 yX12_isIn wsX12_isIn) := goodIn_app (goodIn_of _ (by decide +kernel)) ggX12_takes_X12_isIn
set_option maxRecDepth 20000 in
theorem ggX12_takes_X12_next : GoodIn wsX12_takes wsX12_next := goodIn_r _ [18, 19, 10, 20, 21, 22, 1, 2, 23, 24, 25, 26, 7, 27, 28, 29, 30, 31, 32, 33, 34, 35, 36, 37, 38, 39, 40, 41, 42, 43, 44, 45, 46, 47, 48, 49, 50, 51, 52, 53, 54, 55, 56, 57, 58, 59, 60, 61, 62, 63, 64, 65, 66, 67, 68, 69, 70, 71, 72, 73, 74, 75, 76, 77, 78, 79, 80, 81] (by decide +kernel) (by decide +kernel)
set_option maxRecDepth 20000 in
theorem gX12_takes_X12_next : GoodIn wsX12_takes (wsV RX12 188 RX12 yX12_next wsX12_next) := goodIn_app (goodIn_of _ (by decide +kernel)) ggX12_takes_X12_next
theorem dX12_takes_0 : decode cX12_takes 0 = .ok (.aload_n 0, 1) := by decide +kernel
theorem dX12_takes_1 : decode cX12_takes 1 = .ok (.getfield 159, 3) := by decide +kernel
theorem dX12_takes_4 : decode cX12_takes 4 = .ok (.iconst 2, 1) := by decide +kernel
theorem dX12_takes_5 : decode cX12_takes 5 = .ok (.if_icmp .eq 9, 3) := by decide +kernel
theorem dX12_takes_8 : decode cX12_takes 8 = .ok (.aload_n 0, 1) := by decide +kernel
theorem dX12_takes_9 : decode cX12_takes 9 = .ok (.iconst 1, 1) := by decide +kernel
theorem dX12_takes_10 : decode cX12_takes 10 = .ok (.invokevirtual 185, 3) := by decide +kernel
theorem dX12_takes_13 : decode cX12_takes 13 = .ok (.ireturn, 1) := by decide +kernel
theorem dX12_takes_14 : decode cX12_takes 14 = .ok (.aload_n 0, 1) := by decide +kernel
theorem dX12_takes_15 : decode cX12_takes 15 = .ok (.getfield 169, 3) := by decide +kernel
theorem dX12_takes_18 : decode cX12_takes 18 = .ok (.iload_n 1, 1) := by decide +kernel
theorem dX12_takes_19 : decode cX12_takes 19 = .ok (.iload_n 2, 1) := by decide +kernel
theorem dX12_takes_20 : decode cX12_takes 20 = .ok (.invokestatic 191, 3) := by decide +kernel
theorem dX12_takes_23 : decode cX12_takes 23 = .ok (.ifCond .ne 9, 3) := by decide +kernel
theorem dX12_takes_26 : decode cX12_takes 26 = .ok (.aload_n 0, 1) := by decide +kernel
theorem dX12_takes_27 : decode cX12_takes 27 = .ok (.iconst 2, 1) := by decide +kernel
theorem dX12_takes_28 : decode cX12_takes 28 = .ok (.invokevirtual 185, 3) := by decide +kernel
theorem dX12_takes_31 : decode cX12_takes 31 = .ok (.ireturn, 1) := by decide +kernel
theorem dX12_takes_32 : decode cX12_takes 32 = .ok (.aload_n 0, 1) := by decide +kernel
theorem dX12_takes_33 : decode cX12_takes 33 = .ok (.aload_n 0, 1) := by decide +kernel
theorem dX12_takes_34 : decode cX12_takes 34 = .ok (.getfield 169, 3) := by decide +kernel
theorem dX12_takes_37 : decode cX12_takes 37 = .ok (.putfield 195, 3) := by decide +kernel
theorem dX12_takes_40 : decode cX12_takes 40 = .ok (.aload_n 0, 1) := by decide +kernel
theorem dX12_takes_41 : decode cX12_takes 41 = .ok (.invokevirtual 188, 3) := by decide +kernel
theorem dX12_takes_44 : decode cX12_takes 44 = .ok (.iconst 1, 1) := by decide +kernel
theorem dX12_takes_45 : decode cX12_takes 45 = .ok (.ireturn, 1) := by decide +kernel
set_option maxRecDepth 20000 in
theorem ggX12_puts_X12_takes : GoodIn wsX12_puts wsX12_takes := goodIn_r _ [7, 8, 9, 2, 10, 11, 12, 6, 13, 14, 15, 16, 17, 18, 19, 20, 21, 22, 23, 24, 25, 26, 27, 28, 29, 30, 31, 32, 33, 34, 35, 36, 37, 38, 39, 40, 41, 42, 43, 44, 45, 46, 47, 48, 49, 50, 51, 52, 53, 54, 55, 56, 57, 58, 59, 60, 61, 62, 63, 64, 65, 66, 67, 68, 69, 70, 71, 72, 73, 74, 75, 76, 77, 78, 79, 80, 81, 82, 83, 84, 85, 86] (by decide +kernel) (by decide +kernel)
set_option maxRecDepth 20000 in
theorem gX12_puts_X12_takes : GoodIn wsX12_puts (wsV RX12 198 RX12 yX12_takes wsX12_takes) := goodIn_app (goodIn_of _ (by decide +kernel)) ggX12_puts_X12_takes
theorem dX12_puts_0 : decode cX12_puts 0 = .ok (.aload_n 0, 1) := by decide +kernel
theorem dX12_puts_1 : decode cX12_puts 1 = .ok (.iload_n 2, 1) := by decide +kernel
theorem dX12_puts_2 : decode cX12_puts 2 = .ok (.iload_n 3, 1) := by decide +kernel
theorem dX12_puts_3 : decode cX12_puts 3 = .ok (.invokevirtual 198, 3) := by decide +kernel
theorem dX12_puts_6 : decode cX12_puts 6 = .ok (.ifCond .ne 5, 3) := by decide +kernel
theorem dX12_puts_9 : decode cX12_puts 9 = .ok (.iconst 0, 1) := by decide +kernel
theorem dX12_puts_10 : decode cX12_puts 10 = .ok (.ireturn, 1) := by decide +kernel
theorem dX12_puts_11 : decode cX12_puts 11 = .ok (.aload_n 0, 1) := by decide +kernel
theorem dX12_puts_12 : decode cX12_puts 12 = .ok (.getfield 37, 3) := by decide +kernel
theorem dX12_puts_15 : decode cX12_puts 15 = .ok (.iload_n 1, 1) := by decide +kernel
theorem dX12_puts_16 : decode cX12_puts 16 = .ok (.aload_n 0, 1) := by decide +kernel
theorem dX12_puts_17 : decode cX12_puts 17 = .ok (.getfield 195, 3) := by decide +kernel
theorem dX12_puts_20 : decode cX12_puts 20 = .ok (.iastore, 1) := by decide +kernel
theorem dX12_puts_21 : decode cX12_puts 21 = .ok (.iconst 1, 1) := by decide +kernel
theorem dX12_puts_22 : decode cX12_puts 22 = .ok (.ireturn, 1) := by decide +kernel
theorem dX12_find_0 : decode cX12_find 0 = .ok (.iconst 0, 1) := by decide +kernel
theorem dX12_find_1 : decode cX12_find 1 = .ok (.istore_n 3, 1) := by decide +kernel
theorem dX12_find_2 : decode cX12_find 2 = .ok (.iload_n 3, 1) := by decide +kernel
theorem dX12_find_3 : decode cX12_find 3 = .ok (.iload_n 2, 1) := by decide +kernel
theorem dX12_find_4 : decode cX12_find 4 = .ok (.if_icmp .ge 27, 3) := by decide +kernel
theorem dX12_find_7 : decode cX12_find 7 = .ok (.aload_n 0, 1) := by decide +kernel
theorem dX12_find_8 : decode cX12_find 8 = .ok (.getfield 43, 3) := by decide +kernel
theorem dX12_find_11 : decode cX12_find 11 = .ok (.iload_n 1, 1) := by decide +kernel
theorem dX12_find_12 : decode cX12_find 12 = .ok (.iload_n 3, 1) := by decide +kernel
theorem dX12_find_13 : decode cX12_find 13 = .ok (.iadd, 1) := by decide +kernel
theorem dX12_find_14 : decode cX12_find 14 = .ok (.laload, 1) := by decide +kernel
theorem dX12_find_15 : decode cX12_find 15 = .ok (.aload_n 0, 1) := by decide +kernel
theorem dX12_find_16 : decode cX12_find 16 = .ok (.getfield 172, 3) := by decide +kernel
theorem dX12_find_19 : decode cX12_find 19 = .ok (.lcmp, 1) := by decide +kernel
theorem dX12_find_20 : decode cX12_find 20 = .ok (.ifCond .ne 5, 3) := by decide +kernel
theorem dX12_find_23 : decode cX12_find 23 = .ok (.iload_n 3, 1) := by decide +kernel
theorem dX12_find_24 : decode cX12_find 24 = .ok (.ireturn, 1) := by decide +kernel
theorem dX12_find_25 : decode cX12_find 25 = .ok (.iinc 3 1, 3) := by decide +kernel
theorem dX12_find_28 : decode cX12_find 28 = .ok (.goto (-26), 3) := by decide +kernel
theorem dX12_find_31 : decode cX12_find 31 = .ok (.iconst (-1), 1) := by decide +kernel
theorem dX12_find_32 : decode cX12_find 32 = .ok (.ireturn, 1) := by decide +kernel
set_option maxRecDepth 20000 in
theorem ggX12_fresh_X12_isName : GoodIn wsX12_fresh wsX12_isName := goodIn_r _ [8, 9, 3, 10, 42, 43, 44, 45, 46, 47, 48, 49, 50, 51, 52, 53, 54, 55, 56, 57, 58, 59, 60, 61, 62, 63, 64, 65, 66, 67, 68, 69, 70, 71, 72, 73, 74, 75, 76, 77, 78, 79, 80, 81, 82, 83, 84, 85, 86, 87, 88] (by decide +kernel) (by decide +kernel)
set_option maxRecDepth 20000 in
theorem gX12_fresh_X12_isName : GoodIn wsX12_fresh (wsV RX12 202 RX12 yX12_isName wsX12_isName) := goodIn_app (goodIn_of _ (by decide +kernel)) ggX12_fresh_X12_isName
set_option maxRecDepth 20000 in
theorem ggX12_fresh_X12_bad : GoodIn wsX12_fresh wsX12_bad := goodIn_r _ [14, 15, 16, 17, 42, 43, 44, 45, 46, 47, 48, 49, 50, 51, 52, 53, 54, 55, 56, 57, 58, 59, 60, 61, 62, 63, 64, 65, 66, 67, 68, 69, 70, 71, 72, 73, 74, 75, 76, 77, 78, 79, 80, 81, 82, 83, 84, 85, 86, 87, 88] (by decide +kernel) (by decide +kernel)
set_option maxRecDepth 20000 in
theorem gX12_fresh_X12_bad : GoodIn wsX12_fresh (wsV RX12 185 RX12 yX12_bad wsX12_bad) := goodIn_app (goodIn_of _ (by decide +kernel)) ggX12_fresh_X12_bad
set_option maxRecDepth 20000 in
theorem ggX12_fresh_X12_find : GoodIn wsX12_fresh wsX12_find := goodIn_r _ [21, 2, 3, 42, 43, 44, 45, 46, 47, 48, 49, 50, 51, 52, 53, 54, 55, 56, 57, 58, 59, 60, 61, 62, 63, 64, 65, 66, 67, 68, 69, 70, 71, 72, 73, 74, 75, 76, 77, 78, 79, 80, 81, 82, 83, 84, 85, 86, 87, 88] (by decide +kernel) (by decide +kernel)
set_option maxRecDepth 20000 in
theorem gX12_fresh_X12_find : GoodIn wsX12_fresh (wsV RX12 206 RX12 yX12_find wsX12_find) := goodIn_app (goodIn_of _ (by decide +kernel)) ggX12_fresh_X12_find
set_option maxRecDepth 20000 in
theorem ggX12_fresh_X12_next : GoodIn wsX12_fresh wsX12_next := goodIn_r _ [25, 26, 16, 27, 28, 29, 9, 30, 3, 31, 32, 33, 7, 34, 35, 36, 37, 38, 39, 40, 41, 42, 43, 44, 45, 46, 47, 48, 49, 50, 51, 52, 53, 54, 55, 56, 57, 58, 59, 60, 61, 62, 63, 64, 65, 66, 67, 68, 69, 70, 71, 72, 73, 74, 75, 76, 77, 78, 79, 80, 81, 82, 83, 84, 85, 86, 87, 88] (by decide +kernel) (by decide +kernel)
set_option maxRecDepth 20000 in
theorem gX12_fresh_X12_next : GoodIn wsX12_fresh (wsV RX12 188 RX12 yX12_next wsX12_next) := goodIn_app (goodIn_of _ (by decide +kernel)) ggX12_fresh_X12_next
theorem dX12_fresh_0 : decode cX12_fresh 0 = .ok (.aload_n 0, 1) := by decide +kernel
theorem dX12_fresh_1 : decode cX12_fresh 1 = .ok (.invokevirtual 202, 3) := by decide +kernel
theorem dX12_fresh_4 : decode cX12_fresh 4 = .ok (.ifCond .ne 9, 3) := by decide +kernel
theorem dX12_fresh_7 : decode cX12_fresh 7 = .ok (.aload_n 0, 1) := by decide +kernel
theorem dX12_fresh_8 : decode cX12_fresh 8 = .ok (.iconst 1, 1) := by decide +kernel
theorem dX12_fresh_9 : decode cX12_fresh 9 = .ok (.invokevirtual 185, 3) := by decide +kernel
theorem dX12_fresh_12 : decode cX12_fresh 12 = .ok (.ireturn, 1) := by decide +kernel
theorem dX12_fresh_13 : decode cX12_fresh 13 = .ok (.aload_n 0, 1) := by decide +kernel
theorem dX12_fresh_14 : decode cX12_fresh 14 = .ok (.bipush 16, 2) := by decide +kernel
theorem dX12_fresh_16 : decode cX12_fresh 16 = .ok (.aload_n 0, 1) := by decide +kernel
theorem dX12_fresh_17 : decode cX12_fresh 17 = .ok (.getfield 37, 3) := by decide +kernel
theorem dX12_fresh_20 : decode cX12_fresh 20 = .ok (.iconst 0, 1) := by decide +kernel
theorem dX12_fresh_21 : decode cX12_fresh 21 = .ok (.iaload, 1) := by decide +kernel
theorem dX12_fresh_22 : decode cX12_fresh 22 = .ok (.invokevirtual 206, 3) := by decide +kernel
theorem dX12_fresh_25 : decode cX12_fresh 25 = .ok (.ifCond .ge 18, 3) := by decide +kernel
theorem dX12_fresh_28 : decode cX12_fresh 28 = .ok (.aload_n 0, 1) := by decide +kernel
theorem dX12_fresh_29 : decode cX12_fresh 29 = .ok (.bipush 24, 2) := by decide +kernel
theorem dX12_fresh_31 : decode cX12_fresh 31 = .ok (.aload_n 0, 1) := by decide +kernel
theorem dX12_fresh_32 : decode cX12_fresh 32 = .ok (.getfield 37, 3) := by decide +kernel
theorem dX12_fresh_35 : decode cX12_fresh 35 = .ok (.iconst 1, 1) := by decide +kernel
theorem dX12_fresh_36 : decode cX12_fresh 36 = .ok (.iaload, 1) := by decide +kernel
theorem dX12_fresh_37 : decode cX12_fresh 37 = .ok (.invokevirtual 206, 3) := by decide +kernel
theorem dX12_fresh_40 : decode cX12_fresh 40 = .ok (.ifCond .lt 9, 3) := by decide +kernel
theorem dX12_fresh_43 : decode cX12_fresh 43 = .ok (.aload_n 0, 1) := by decide +kernel
theorem dX12_fresh_44 : decode cX12_fresh 44 = .ok (.iconst 3, 1) := by decide +kernel
theorem dX12_fresh_45 : decode cX12_fresh 45 = .ok (.invokevirtual 185, 3) := by decide +kernel
theorem dX12_fresh_48 : decode cX12_fresh 48 = .ok (.ireturn, 1) := by decide +kernel
theorem dX12_fresh_49 : decode cX12_fresh 49 = .ok (.aload_n 0, 1) := by decide +kernel
theorem dX12_fresh_50 : decode cX12_fresh 50 = .ok (.getfield 43, 3) := by decide +kernel
theorem dX12_fresh_53 : decode cX12_fresh 53 = .ok (.iload_n 1, 1) := by decide +kernel
theorem dX12_fresh_54 : decode cX12_fresh 54 = .ok (.aload_n 0, 1) := by decide +kernel
theorem dX12_fresh_55 : decode cX12_fresh 55 = .ok (.getfield 172, 3) := by decide +kernel
theorem dX12_fresh_58 : decode cX12_fresh 58 = .ok (.lastore, 1) := by decide +kernel
theorem dX12_fresh_59 : decode cX12_fresh 59 = .ok (.aload_n 0, 1) := by decide +kernel
theorem dX12_fresh_60 : decode cX12_fresh 60 = .ok (.invokevirtual 188, 3) := by decide +kernel
theorem dX12_fresh_63 : decode cX12_fresh 63 = .ok (.iconst 1, 1) := by decide +kernel
theorem dX12_fresh_64 : decode cX12_fresh 64 = .ok (.ireturn, 1) := by decide +kernel
set_option maxRecDepth 20000 in
theorem ggX12_looksAt_X12_isName : GoodIn wsX12_looksAt wsX12_isName := goodIn_r _ [6, 7, 8, 9, 22, 23, 24, 25, 26, 27, 28, 29, 30, 31, 32, 33, 34, 35, 36, 37, 38, 39, 40, 41, 42, 43, 44, 45, 46, 47, 48, 49, 50, 51, 52, 53, 54, 55, 56, 57, 58, 59, 60, 61, 62, 63, 64, 65, 66, 67, 68] (by decide +kernel) (by decide +kernel)
set_option maxRecDepth 20000 in
theorem gX12_looksAt_X12_isName : GoodIn wsX12_looksAt (wsV RX12 202 RX12 yX12_isName wsX12_isName) := goodIn_app (goodIn_of _ (by decide +kernel)) ggX12_looksAt_X12_isName
set_option maxRecDepth 20000 in
theorem ggX12_looksAt_X12_bad : GoodIn wsX12_looksAt wsX12_bad := goodIn_r _ [13, 14, 15, 16, 22, 23, 24, 25, 26, 27, 28, 29, 30, 31, 32, 33, 34, 35, 36, 37, 38, 39, 40, 41, 42, 43, 44, 45, 46, 47, 48, 49, 50, 51, 52, 53, 54, 55, 56, 57, 58, 59, 60, 61, 62, 63, 64, 65, 66, 67, 68] (by decide +kernel) (by decide +kernel)
set_option maxRecDepth 20000 in
theorem gX12_looksAt_X12_bad : GoodIn wsX12_looksAt (wsV RX12 185 RX12 yX12_bad wsX12_bad) := goodIn_app (goodIn_of _ (by decide +kernel)) ggX12_looksAt_X12_bad
set_option maxRecDepth 20000 in
theorem ggX12_looksAt_X12_find : GoodIn wsX12_looksAt wsX12_find := goodIn_r _ [20, 21, 8, 22, 23, 24, 25, 26, 27, 28, 29, 30, 31, 32, 33, 34, 35, 36, 37, 38, 39, 40, 41, 42, 43, 44, 45, 46, 47, 48, 49, 50, 51, 52, 53, 54, 55, 56, 57, 58, 59, 60, 61, 62, 63, 64, 65, 66, 67, 68] (by decide +kernel) (by decide +kernel)
set_option maxRecDepth 20000 in
theorem gX12_looksAt_X12_find : GoodIn wsX12_looksAt (wsV RX12 206 RX12 yX12_find wsX12_find) := goodIn_app (goodIn_of _ (by decide +kernel)) ggX12_looksAt_X12_find
theorem dX12_looksAt_0 : decode cX12_looksAt 0 = .ok (.aload_n 0, 1) := by decide +kernel
theorem dX12_looksAt_1 : decode cX12_looksAt 1 = .ok (.invokevirtual 202, 3) := by decide +kernel
theorem dX12_looksAt_4 : decode cX12_looksAt 4 = .ok (.ifCond .ne 9, 3) := by decide +kernel
theorem dX12_looksAt_7 : decode cX12_looksAt 7 = .ok (.aload_n 0, 1) := by decide +kernel
theorem dX12_looksAt_8 : decode cX12_looksAt 8 = .ok (.iconst 1, 1) := by decide +kernel
theorem dX12_looksAt_9 : decode cX12_looksAt 9 = .ok (.invokevirtual 185, 3) := by decide +kernel
theorem dX12_looksAt_12 : decode cX12_looksAt 12 = .ok (.ireturn, 1) := by decide +kernel
theorem dX12_looksAt_13 : decode cX12_looksAt 13 = .ok (.aload_n 0, 1) := by decide +kernel
theorem dX12_looksAt_14 : decode cX12_looksAt 14 = .ok (.aload_n 0, 1) := by decide +kernel
theorem dX12_looksAt_15 : decode cX12_looksAt 15 = .ok (.iload_n 1, 1) := by decide +kernel
theorem dX12_looksAt_16 : decode cX12_looksAt 16 = .ok (.iload_n 2, 1) := by decide +kernel
theorem dX12_looksAt_17 : decode cX12_looksAt 17 = .ok (.invokevirtual 206, 3) := by decide +kernel
theorem dX12_looksAt_20 : decode cX12_looksAt 20 = .ok (.putfield 195, 3) := by decide +kernel
theorem dX12_looksAt_23 : decode cX12_looksAt 23 = .ok (.aload_n 0, 1) := by decide +kernel
theorem dX12_looksAt_24 : decode cX12_looksAt 24 = .ok (.getfield 195, 3) := by decide +kernel
theorem dX12_looksAt_27 : decode cX12_looksAt 27 = .ok (.ifCond .ge 11, 3) := by decide +kernel
theorem dX12_looksAt_30 : decode cX12_looksAt 30 = .ok (.aload_n 0, 1) := by decide +kernel
theorem dX12_looksAt_31 : decode cX12_looksAt 31 = .ok (.iconst 3, 1) := by decide +kernel
theorem dX12_looksAt_32 : decode cX12_looksAt 32 = .ok (.invokevirtual 185, 3) := by decide +kernel
theorem dX12_looksAt_35 : decode cX12_looksAt 35 = .ok (.ifCond .eq 7, 3) := by decide +kernel
theorem dX12_looksAt_38 : decode cX12_looksAt 38 = .ok (.iconst 1, 1) := by decide +kernel
theorem dX12_looksAt_39 : decode cX12_looksAt 39 = .ok (.goto 4, 3) := by decide +kernel
theorem dX12_looksAt_42 : decode cX12_looksAt 42 = .ok (.iconst 0, 1) := by decide +kernel
theorem dX12_looksAt_43 : decode cX12_looksAt 43 = .ok (.ireturn, 1) := by decide +kernel
set_option maxRecDepth 20000 in
theorem ggX12_takesName_X12_looksAt : GoodIn wsX12_takesName wsX12_looksAt := goodIn_r _ [5, 6, 7, 8, 9, 4, 10, 11, 12, 13, 14, 15, 16, 17, 18, 19, 20, 21, 22, 23, 24, 25, 46, 47, 48, 49, 50, 51, 52, 53, 54, 55, 56, 57, 58, 59, 60, 61, 62, 63, 64, 65, 66, 67, 68, 69, 70, 71, 72, 73, 74, 75, 76, 77, 78, 79, 80, 81, 82, 83, 84, 85, 86, 87, 88, 89, 90, 91, 92] (by decide +kernel) (by decide +kernel)
set_option maxRecDepth 20000 in
theorem gX12_takesName_X12_looksAt : GoodIn wsX12_takesName (wsV RX12 210 RX12 yX12_looksAt wsX12_looksAt) := goodIn_app (goodIn_of _ (by decide +kernel)) ggX12_takesName_X12_looksAt
set_option maxRecDepth 20000 in
theorem ggX12_takesName_X12_next : GoodIn wsX12_takesName wsX12_next := goodIn_r _ [29, 30, 19, 31, 32, 33, 11, 34, 12, 35, 36, 37, 4, 38, 39, 40, 41, 42, 43, 44, 45, 46, 47, 48, 49, 50, 51, 52, 53, 54, 55, 56, 57, 58, 59, 60, 61, 62, 63, 64, 65, 66, 67, 68, 69, 70, 71, 72, 73, 74, 75, 76, 77, 78, 79, 80, 81, 82, 83, 84, 85, 86, 87, 88, 89, 90, 91, 92] (by decide +kernel) (by decide +kernel)
set_option maxRecDepth 20000 in
theorem gX12_takesName_X12_next : GoodIn wsX12_takesName (wsV RX12 188 RX12 yX12_next wsX12_next) := goodIn_app (goodIn_of _ (by decide +kernel)) ggX12_takesName_X12_next
theorem dX12_takesName_0 : decode cX12_takesName 0 = .ok (.aload_n 0, 1) := by decide +kernel
theorem dX12_takesName_1 : decode cX12_takesName 1 = .ok (.iload_n 1, 1) := by decide +kernel
theorem dX12_takesName_2 : decode cX12_takesName 2 = .ok (.iload_n 2, 1) := by decide +kernel
theorem dX12_takesName_3 : decode cX12_takesName 3 = .ok (.invokevirtual 210, 3) := by decide +kernel
theorem dX12_takesName_6 : decode cX12_takesName 6 = .ok (.ifCond .ne 5, 3) := by decide +kernel
theorem dX12_takesName_9 : decode cX12_takesName 9 = .ok (.iconst 0, 1) := by decide +kernel
theorem dX12_takesName_10 : decode cX12_takesName 10 = .ok (.ireturn, 1) := by decide +kernel
theorem dX12_takesName_11 : decode cX12_takesName 11 = .ok (.aload_n 0, 1) := by decide +kernel
theorem dX12_takesName_12 : decode cX12_takesName 12 = .ok (.invokevirtual 188, 3) := by decide +kernel
theorem dX12_takesName_15 : decode cX12_takesName 15 = .ok (.iconst 1, 1) := by decide +kernel
theorem dX12_takesName_16 : decode cX12_takesName 16 = .ok (.ireturn, 1) := by decide +kernel
set_option maxRecDepth 20000 in
theorem ggX12_isOnce_X12_bitOf : GoodIn wsX12_isOnce wsX12_bitOf := goodIn_r _ [5] (by decide +kernel) (by decide +kernel)
set_option maxRecDepth 20000 in
theorem gX12_isOnce_X12_bitOf : GoodIn wsX12_isOnce (va_wsS RX12 216 yX12_bitOf wsX12_bitOf) := goodIn_app (goodIn_of _ (by decide +kernel)) ggX12_isOnce_X12_bitOf
set_option maxRecDepth 20000 in
theorem ggX12_isOnce_X12_bad : GoodIn wsX12_isOnce wsX12_bad := goodIn_r _ [9, 10, 11, 12, 35, 36, 37, 38, 39, 40, 41, 42, 43, 44, 45, 46, 47, 48, 49, 50, 51, 52, 53, 54, 55, 56, 57, 58, 59, 60, 61, 62, 63, 64, 65, 66, 67, 68, 69, 70, 71, 72, 73, 74, 75, 76, 77, 78, 79, 80, 81] (by decide +kernel) (by decide +kernel)
set_option maxRecDepth 20000 in
theorem gX12_isOnce_X12_bad : GoodIn wsX12_isOnce (wsV RX12 185 RX12 yX12_bad wsX12_bad) := goodIn_app (goodIn_of _ (by decide +kernel)) ggX12_isOnce_X12_bad
set_option maxRecDepth 20000 in
theorem ggX12_isOnce_X12_next : GoodIn wsX12_isOnce wsX12_next := goodIn_r _ [16, 17, 11, 18, 19, 20, 21, 22, 23, 24, 25, 26, 4, 27, 28, 29, 30, 31, 32, 33, 34, 35, 36, 37, 38, 39, 40, 41, 42, 43, 44, 45, 46, 47, 48, 49, 50, 51, 52, 53, 54, 55, 56, 57, 58, 59, 60, 61, 62, 63, 64, 65, 66, 67, 68, 69, 70, 71, 72, 73, 74, 75, 76, 77, 78, 79, 80, 81] (by decide +kernel) (by decide +kernel)
set_option maxRecDepth 20000 in
theorem gX12_isOnce_X12_next : GoodIn wsX12_isOnce (wsV RX12 188 RX12 yX12_next wsX12_next) := goodIn_app (goodIn_of _ (by decide +kernel)) ggX12_isOnce_X12_next
theorem dX12_isOnce_0 : decode cX12_isOnce 0 = .ok (.aload_n 0, 1) := by decide +kernel
theorem dX12_isOnce_1 : decode cX12_isOnce 1 = .ok (.getfield 213, 3) := by decide +kernel
theorem dX12_isOnce_4 : decode cX12_isOnce 4 = .ok (.iload_n 1, 1) := by decide +kernel
theorem dX12_isOnce_5 : decode cX12_isOnce 5 = .ok (.invokestatic 216, 3) := by decide +kernel
theorem dX12_isOnce_8 : decode cX12_isOnce 8 = .ok (.ifCond .eq 9, 3) := by decide +kernel
theorem dX12_isOnce_11 : decode cX12_isOnce 11 = .ok (.aload_n 0, 1) := by decide +kernel
theorem dX12_isOnce_12 : decode cX12_isOnce 12 = .ok (.iconst 3, 1) := by decide +kernel
theorem dX12_isOnce_13 : decode cX12_isOnce 13 = .ok (.invokevirtual 185, 3) := by decide +kernel
theorem dX12_isOnce_16 : decode cX12_isOnce 16 = .ok (.ireturn, 1) := by decide +kernel
theorem dX12_isOnce_17 : decode cX12_isOnce 17 = .ok (.aload_n 0, 1) := by decide +kernel
theorem dX12_isOnce_18 : decode cX12_isOnce 18 = .ok (.dup, 1) := by decide +kernel
theorem dX12_isOnce_19 : decode cX12_isOnce 19 = .ok (.getfield 213, 3) := by decide +kernel
theorem dX12_isOnce_22 : decode cX12_isOnce 22 = .ok (.iconst 1, 1) := by decide +kernel
theorem dX12_isOnce_23 : decode cX12_isOnce 23 = .ok (.iload_n 1, 1) := by decide +kernel
theorem dX12_isOnce_24 : decode cX12_isOnce 24 = .ok (.ishl, 1) := by decide +kernel
theorem dX12_isOnce_25 : decode cX12_isOnce 25 = .ok (.ior, 1) := by decide +kernel
theorem dX12_isOnce_26 : decode cX12_isOnce 26 = .ok (.putfield 213, 3) := by decide +kernel
theorem dX12_isOnce_29 : decode cX12_isOnce 29 = .ok (.aload_n 0, 1) := by decide +kernel
theorem dX12_isOnce_30 : decode cX12_isOnce 30 = .ok (.invokevirtual 188, 3) := by decide +kernel
theorem dX12_isOnce_33 : decode cX12_isOnce 33 = .ok (.iconst 1, 1) := by decide +kernel
theorem dX12_isOnce_34 : decode cX12_isOnce 34 = .ok (.ireturn, 1) := by decide +kernel
set_option maxRecDepth 20000 in
theorem ggX12_line_X12_isWord : GoodIn wsX12_line wsX12_isWord := goodIn_r _ [19, 20, 21, 105, 106, 107, 108, 109, 110, 111, 112, 113, 114, 115, 116, 117, 118, 119, 120, 121, 122, 123, 124, 125, 126, 127, 128, 129, 130, 131, 132, 133, 134, 135, 136, 137, 138, 139, 140, 141, 142, 143, 144, 145, 146, 147, 148, 149, 150, 151] (by decide +kernel) (by decide +kernel)
set_option maxRecDepth 20000 in
theorem gX12_line_X12_isWord : GoodIn wsX12_line (wsV RX12 219 RX12 yX12_isWord wsX12_isWord) := goodIn_app (goodIn_of _ (by decide +kernel)) ggX12_line_X12_isWord
set_option maxRecDepth 20000 in
theorem ggX12_line_X12_isOnce : GoodIn wsX12_line wsX12_isOnce := goodIn_r _ [25, 26, 27, 28, 18, 29, 30, 31, 32, 33, 34, 35, 36, 37, 38, 39, 40, 41, 42, 43, 44, 20, 45, 21, 46, 47, 48, 49, 50, 51, 52, 53, 54, 55, 56, 105, 106, 107, 108, 109, 110, 111, 112, 113, 114, 115, 116, 117, 118, 119, 120, 121, 122, 123, 124, 125, 126, 127, 128, 129, 130, 131, 132, 133, 134, 135, 136, 137, 138, 139, 140, 141, 142, 143, 144, 145, 146, 147, 148, 149, 150, 151] (by decide +kernel) (by decide +kernel)
set_option maxRecDepth 20000 in
theorem gX12_line_X12_isOnce : GoodIn wsX12_line (wsV RX12 223 RX12 yX12_isOnce wsX12_isOnce) := goodIn_app (goodIn_of _ (by decide +kernel)) ggX12_line_X12_isOnce
set_option maxRecDepth 20000 in
theorem ggX12_line_X12_puts : GoodIn wsX12_line wsX12_puts := goodIn_r _ [60, 8, 12, 61, 62, 63, 18, 64, 20, 45, 30, 31, 32, 33, 34, 35, 36, 65, 66, 67, 37, 38, 39, 40, 41, 42, 43, 44, 21, 46, 47, 48, 49, 50, 51, 52, 53, 54, 55, 56, 105, 106, 107, 108, 109, 110, 111, 112, 113, 114, 115, 116, 117, 118, 119, 120, 121, 122, 123, 124, 125, 126, 127, 128, 129, 130, 131, 132, 133, 134, 135, 136, 137, 138, 139, 140, 141, 142, 143, 144, 145, 146, 147, 148, 149, 150, 151] (by decide +kernel) (by decide +kernel)
set_option maxRecDepth 20000 in
theorem gX12_line_X12_puts : GoodIn wsX12_line (wsV RX12 226 RX12 yX12_puts wsX12_puts) := goodIn_app (goodIn_of _ (by decide +kernel)) ggX12_line_X12_puts
set_option maxRecDepth 20000 in
theorem ggX12_line_X12_bad : GoodIn wsX12_line wsX12_bad := goodIn_r _ [33, 34, 35, 36, 105, 106, 107, 108, 109, 110, 111, 112, 113, 114, 115, 116, 117, 118, 119, 120, 121, 122, 123, 124, 125, 126, 127, 128, 129, 130, 131, 132, 133, 134, 135, 136, 137, 138, 139, 140, 141, 142, 143, 144, 145, 146, 147, 148, 149, 150, 151] (by decide +kernel) (by decide +kernel)
set_option maxRecDepth 20000 in
theorem gX12_line_X12_bad : GoodIn wsX12_line (wsV RX12 185 RX12 yX12_bad wsX12_bad) := goodIn_app (goodIn_of _ (by decide +kernel)) ggX12_line_X12_bad
set_option maxRecDepth 20000 in
theorem ggX12_line_X12_next : GoodIn wsX12_line wsX12_next := goodIn_r _ [40, 41, 35, 42, 43, 44, 20, 45, 21, 46, 47, 48, 18, 49, 50, 51, 52, 53, 54, 55, 56, 105, 106, 107, 108, 109, 110, 111, 112, 113, 114, 115, 116, 117, 118, 119, 120, 121, 122, 123, 124, 125, 126, 127, 128, 129, 130, 131, 132, 133, 134, 135, 136, 137, 138, 139, 140, 141, 142, 143, 144, 145, 146, 147, 148, 149, 150, 151] (by decide +kernel) (by decide +kernel)
set_option maxRecDepth 20000 in
theorem gX12_line_X12_next : GoodIn wsX12_line (wsV RX12 188 RX12 yX12_next wsX12_next) := goodIn_app (goodIn_of _ (by decide +kernel)) ggX12_line_X12_next
set_option maxRecDepth 20000 in
theorem ggX12_line_X12_fresh : GoodIn wsX12_line wsX12_fresh := goodIn_r _ [71, 8, 72, 21, 73, 74, 75, 18, 76, 20, 77, 30, 31, 32, 33, 34, 35, 36, 78, 79, 80, 81, 37, 38, 39, 40, 41, 42, 43, 44, 45, 46, 47, 48, 49, 50, 51, 52, 53, 54, 55, 56, 105, 106, 107, 108, 109, 110, 111, 112, 113, 114, 115, 116, 117, 118, 119, 120, 121, 122, 123, 124, 125, 126, 127, 128, 129, 130, 131, 132, 133, 134, 135, 136, 137, 138, 139, 140, 141, 142, 143, 144, 145, 146, 147, 148, 149, 150, 151] (by decide +kernel) (by decide +kernel)
set_option maxRecDepth 20000 in
theorem gX12_line_X12_fresh : GoodIn wsX12_line (wsV RX12 229 RX12 yX12_fresh wsX12_fresh) := goodIn_app (goodIn_of _ (by decide +kernel)) ggX12_line_X12_fresh
set_option maxRecDepth 20000 in
theorem ggX12_line_X12_looksAt : GoodIn wsX12_line wsX12_looksAt := goodIn_r _ [85, 12, 73, 74, 75, 18, 76, 20, 21, 77, 30, 31, 32, 33, 34, 35, 36, 78, 79, 80, 81, 72, 105, 106, 107, 108, 109, 110, 111, 112, 113, 114, 115, 116, 117, 118, 119, 120, 121, 122, 123, 124, 125, 126, 127, 128, 129, 130, 131, 132, 133, 134, 135, 136, 137, 138, 139, 140, 141, 142, 143, 144, 145, 146, 147, 148, 149, 150, 151] (by decide +kernel) (by decide +kernel)
set_option maxRecDepth 20000 in
theorem gX12_line_X12_looksAt : GoodIn wsX12_line (wsV RX12 210 RX12 yX12_looksAt wsX12_looksAt) := goodIn_app (goodIn_of _ (by decide +kernel)) ggX12_line_X12_looksAt
set_option maxRecDepth 20000 in
theorem ggX12_line_X12_bitOf : GoodIn wsX12_line wsX12_bitOf := goodIn_r _ [29] (by decide +kernel) (by decide +kernel)
set_option maxRecDepth 20000 in
theorem gX12_line_X12_bitOf : GoodIn wsX12_line (va_wsS RX12 216 yX12_bitOf wsX12_bitOf) := goodIn_app (goodIn_of _ (by decide +kernel)) ggX12_line_X12_bitOf
set_option maxRecDepth 20000 in
theorem ggX12_line_X12_takesName : GoodIn wsX12_line wsX12_takesName := goodIn_r _ [89, 82, 83, 84, 18, 85, 12, 73, 74, 75, 76, 20, 21, 77, 30, 31, 32, 33, 34, 35, 36, 78, 79, 80, 81, 72, 37, 38, 39, 40, 41, 42, 43, 44, 45, 46, 47, 48, 49, 50, 51, 52, 53, 54, 55, 56, 105, 106, 107, 108, 109, 110, 111, 112, 113, 114, 115, 116, 117, 118, 119, 120, 121, 122, 123, 124, 125, 126, 127, 128, 129, 130, 131, 132, 133, 134, 135, 136, 137, 138, 139, 140, 141, 142, 143, 144, 145, 146, 147, 148, 149, 150, 151] (by decide +kernel) (by decide +kernel)
set_option maxRecDepth 20000 in
theorem gX12_line_X12_takesName : GoodIn wsX12_line (wsV RX12 235 RX12 yX12_takesName wsX12_takesName) := goodIn_app (goodIn_of _ (by decide +kernel)) ggX12_line_X12_takesName
set_option maxRecDepth 20000 in
theorem ggX12_line_X12_readFlight : GoodIn wsX12_line wsX12_readFlight := goodIn_r _ [93, 8, 20, 12, 30, 31, 32, 18, 33, 34, 35, 36, 37, 38, 39, 40, 41, 42, 43, 44, 45, 21, 46, 47, 48, 49, 50, 51, 52, 53, 54, 55, 56, 57, 58, 59, 60, 61, 62, 63, 64, 65, 66, 67, 94, 95, 96, 97, 105, 106, 107, 108, 109, 110, 111, 112, 113, 114, 115, 116, 117, 118, 119, 120, 121, 122, 123, 124, 125, 126, 127, 128, 129, 130, 131, 132, 133, 134, 135, 136, 137, 138, 139, 140, 141, 142, 143, 144, 145, 146, 147, 148, 149, 150, 151] (by decide +kernel) (by decide +kernel)
set_option maxRecDepth 20000 in
theorem gX12_line_X12_readFlight : GoodIn wsX12_line (wsV RX12 238 RX12 yX12_readFlight wsX12_readFlight) := goodIn_app (goodIn_of _ (by decide +kernel)) ggX12_line_X12_readFlight
set_option maxRecDepth 20000 in
theorem ggX12_line_X12_ofMan : GoodIn wsX12_line wsX12_ofMan := goodIn_r _ [101, 102, 103, 104, 8, 12, 15, 16, 17, 18, 19, 20, 21, 30, 31, 32, 33, 34, 35, 36, 37, 38, 39, 40, 41, 42, 43, 44, 45, 46, 47, 48, 49, 50, 51, 52, 53, 54, 55, 56, 82, 83, 84, 85, 73, 74, 75, 76, 77, 78, 79, 80, 81, 72, 61, 62, 63, 64, 65, 66, 67, 105, 106, 107, 108, 109, 110, 111, 112, 113, 114, 115, 116, 117, 118, 119, 120, 121, 122, 123, 124, 125, 126, 127, 128, 129, 130, 131, 132, 133, 134, 135, 136, 137, 138, 139, 140, 141, 142, 143, 144, 145, 146, 147, 148, 149, 150, 151] (by decide +kernel) (by decide +kernel)
set_option maxRecDepth 20000 in
theorem gX12_line_X12_ofMan : GoodIn wsX12_line (wsV RX12 241 RX12 yX12_ofMan wsX12_ofMan) := goodIn_app (goodIn_of _ (by decide +kernel)) ggX12_line_X12_ofMan
theorem dX12_line_0 : decode cX12_line 0 = .ok (.aload_n 0, 1) := by decide +kernel
theorem dX12_line_1 : decode cX12_line 1 = .ok (.ldc2_w 87, 3) := by decide +kernel
theorem dX12_line_4 : decode cX12_line 4 = .ok (.invokevirtual 219, 3) := by decide +kernel
theorem dX12_line_7 : decode cX12_line 7 = .ok (.ifCond .eq 28, 3) := by decide +kernel
theorem dX12_line_10 : decode cX12_line 10 = .ok (.aload_n 0, 1) := by decide +kernel
theorem dX12_line_11 : decode cX12_line 11 = .ok (.iconst 0, 1) := by decide +kernel
theorem dX12_line_12 : decode cX12_line 12 = .ok (.invokevirtual 223, 3) := by decide +kernel
theorem dX12_line_15 : decode cX12_line 15 = .ok (.ifCond .eq 18, 3) := by decide +kernel
theorem dX12_line_18 : decode cX12_line 18 = .ok (.aload_n 0, 1) := by decide +kernel
theorem dX12_line_19 : decode cX12_line 19 = .ok (.iconst 3, 1) := by decide +kernel
theorem dX12_line_20 : decode cX12_line 20 = .ok (.iconst 0, 1) := by decide +kernel
theorem dX12_line_21 : decode cX12_line 21 = .ok (.bipush 20, 2) := by decide +kernel
theorem dX12_line_23 : decode cX12_line 23 = .ok (.invokevirtual 226, 3) := by decide +kernel
theorem dX12_line_26 : decode cX12_line 26 = .ok (.ifCond .eq 7, 3) := by decide +kernel
theorem dX12_line_29 : decode cX12_line 29 = .ok (.iconst 1, 1) := by decide +kernel
theorem dX12_line_30 : decode cX12_line 30 = .ok (.goto 4, 3) := by decide +kernel
theorem dX12_line_33 : decode cX12_line 33 = .ok (.iconst 0, 1) := by decide +kernel
theorem dX12_line_34 : decode cX12_line 34 = .ok (.ireturn, 1) := by decide +kernel
theorem dX12_line_35 : decode cX12_line 35 = .ok (.aload_n 0, 1) := by decide +kernel
theorem dX12_line_36 : decode cX12_line 36 = .ok (.ldc2_w 89, 3) := by decide +kernel
theorem dX12_line_39 : decode cX12_line 39 = .ok (.invokevirtual 219, 3) := by decide +kernel
theorem dX12_line_42 : decode cX12_line 42 = .ok (.ifCond .eq 29, 3) := by decide +kernel
theorem dX12_line_45 : decode cX12_line 45 = .ok (.aload_n 0, 1) := by decide +kernel
theorem dX12_line_46 : decode cX12_line 46 = .ok (.iconst 1, 1) := by decide +kernel
theorem dX12_line_47 : decode cX12_line 47 = .ok (.invokevirtual 223, 3) := by decide +kernel
theorem dX12_line_50 : decode cX12_line 50 = .ok (.ifCond .eq 19, 3) := by decide +kernel
theorem dX12_line_53 : decode cX12_line 53 = .ok (.aload_n 0, 1) := by decide +kernel
theorem dX12_line_54 : decode cX12_line 54 = .ok (.iconst 4, 1) := by decide +kernel
theorem dX12_line_55 : decode cX12_line 55 = .ok (.iconst 0, 1) := by decide +kernel
theorem dX12_line_56 : decode cX12_line 56 = .ok (.sipush 999, 3) := by decide +kernel
theorem dX12_line_59 : decode cX12_line 59 = .ok (.invokevirtual 226, 3) := by decide +kernel
theorem dX12_line_62 : decode cX12_line 62 = .ok (.ifCond .eq 7, 3) := by decide +kernel
theorem dX12_line_65 : decode cX12_line 65 = .ok (.iconst 1, 1) := by decide +kernel
theorem dX12_line_66 : decode cX12_line 66 = .ok (.goto 4, 3) := by decide +kernel
theorem dX12_line_69 : decode cX12_line 69 = .ok (.iconst 0, 1) := by decide +kernel
theorem dX12_line_70 : decode cX12_line 70 = .ok (.ireturn, 1) := by decide +kernel
theorem dX12_line_71 : decode cX12_line 71 = .ok (.aload_n 0, 1) := by decide +kernel
theorem dX12_line_72 : decode cX12_line 72 = .ok (.ldc2_w 91, 3) := by decide +kernel
theorem dX12_line_75 : decode cX12_line 75 = .ok (.invokevirtual 219, 3) := by decide +kernel
theorem dX12_line_78 : decode cX12_line 78 = .ok (.ifCond .eq 102, 3) := by decide +kernel
theorem dX12_line_81 : decode cX12_line 81 = .ok (.aload_n 0, 1) := by decide +kernel
theorem dX12_line_82 : decode cX12_line 82 = .ok (.iconst 2, 1) := by decide +kernel
theorem dX12_line_83 : decode cX12_line 83 = .ok (.invokevirtual 223, 3) := by decide +kernel
theorem dX12_line_86 : decode cX12_line 86 = .ok (.ifCond .ne 5, 3) := by decide +kernel
theorem dX12_line_89 : decode cX12_line 89 = .ok (.iconst 0, 1) := by decide +kernel
theorem dX12_line_90 : decode cX12_line 90 = .ok (.ireturn, 1) := by decide +kernel
theorem dX12_line_91 : decode cX12_line 91 = .ok (.aload_n 0, 1) := by decide +kernel
theorem dX12_line_92 : decode cX12_line 92 = .ok (.ldc2_w 93, 3) := by decide +kernel
theorem dX12_line_95 : decode cX12_line 95 = .ok (.invokevirtual 219, 3) := by decide +kernel
theorem dX12_line_98 : decode cX12_line 98 = .ok (.ifCond .eq 7, 3) := by decide +kernel
theorem dX12_line_101 : decode cX12_line 101 = .ok (.iconst 0, 1) := by decide +kernel
theorem dX12_line_102 : decode cX12_line 102 = .ok (.goto 46, 3) := by decide +kernel
theorem dX12_line_105 : decode cX12_line 105 = .ok (.aload_n 0, 1) := by decide +kernel
theorem dX12_line_106 : decode cX12_line 106 = .ok (.ldc2_w 95, 3) := by decide +kernel
theorem dX12_line_109 : decode cX12_line 109 = .ok (.invokevirtual 219, 3) := by decide +kernel
theorem dX12_line_112 : decode cX12_line 112 = .ok (.ifCond .eq 7, 3) := by decide +kernel
theorem dX12_line_115 : decode cX12_line 115 = .ok (.iconst 1, 1) := by decide +kernel
theorem dX12_line_116 : decode cX12_line 116 = .ok (.goto 32, 3) := by decide +kernel
theorem dX12_line_119 : decode cX12_line 119 = .ok (.aload_n 0, 1) := by decide +kernel
theorem dX12_line_120 : decode cX12_line 120 = .ok (.ldc2_w 97, 3) := by decide +kernel
theorem dX12_line_123 : decode cX12_line 123 = .ok (.invokevirtual 219, 3) := by decide +kernel
theorem dX12_line_126 : decode cX12_line 126 = .ok (.ifCond .eq 7, 3) := by decide +kernel
theorem dX12_line_129 : decode cX12_line 129 = .ok (.iconst 2, 1) := by decide +kernel
theorem dX12_line_130 : decode cX12_line 130 = .ok (.goto 18, 3) := by decide +kernel
theorem dX12_line_133 : decode cX12_line 133 = .ok (.aload_n 0, 1) := by decide +kernel
theorem dX12_line_134 : decode cX12_line 134 = .ok (.ldc2_w 99, 3) := by decide +kernel
theorem dX12_line_137 : decode cX12_line 137 = .ok (.invokevirtual 219, 3) := by decide +kernel
theorem dX12_line_140 : decode cX12_line 140 = .ok (.ifCond .eq 7, 3) := by decide +kernel
theorem dX12_line_143 : decode cX12_line 143 = .ok (.iconst 3, 1) := by decide +kernel
theorem dX12_line_144 : decode cX12_line 144 = .ok (.goto 4, 3) := by decide +kernel
theorem dX12_line_147 : decode cX12_line 147 = .ok (.iconst (-1), 1) := by decide +kernel
theorem dX12_line_148 : decode cX12_line 148 = .ok (.istore_n 1, 1) := by decide +kernel
theorem dX12_line_149 : decode cX12_line 149 = .ok (.iload_n 1, 1) := by decide +kernel
theorem dX12_line_150 : decode cX12_line 150 = .ok (.ifCond .ge 9, 3) := by decide +kernel
theorem dX12_line_153 : decode cX12_line 153 = .ok (.aload_n 0, 1) := by decide +kernel
theorem dX12_line_154 : decode cX12_line 154 = .ok (.iconst 1, 1) := by decide +kernel
theorem dX12_line_155 : decode cX12_line 155 = .ok (.invokevirtual 185, 3) := by decide +kernel
theorem dX12_line_158 : decode cX12_line 158 = .ok (.ireturn, 1) := by decide +kernel
theorem dX12_line_159 : decode cX12_line 159 = .ok (.aload_n 0, 1) := by decide +kernel
theorem dX12_line_160 : decode cX12_line 160 = .ok (.getfield 37, 3) := by decide +kernel
theorem dX12_line_163 : decode cX12_line 163 = .ok (.iconst 5, 1) := by decide +kernel
theorem dX12_line_164 : decode cX12_line 164 = .ok (.iload_n 1, 1) := by decide +kernel
theorem dX12_line_165 : decode cX12_line 165 = .ok (.iastore, 1) := by decide +kernel
theorem dX12_line_166 : decode cX12_line 166 = .ok (.aload_n 0, 1) := by decide +kernel
theorem dX12_line_167 : decode cX12_line 167 = .ok (.invokevirtual 188, 3) := by decide +kernel
theorem dX12_line_170 : decode cX12_line 170 = .ok (.aload_n 0, 1) := by decide +kernel
theorem dX12_line_171 : decode cX12_line 171 = .ok (.bipush 6, 2) := by decide +kernel
theorem dX12_line_173 : decode cX12_line 173 = .ok (.iconst 0, 1) := by decide +kernel
theorem dX12_line_174 : decode cX12_line 174 = .ok (.bipush 9, 2) := by decide +kernel
theorem dX12_line_176 : decode cX12_line 176 = .ok (.invokevirtual 226, 3) := by decide +kernel
theorem dX12_line_179 : decode cX12_line 179 = .ok (.ireturn, 1) := by decide +kernel
theorem dX12_line_180 : decode cX12_line 180 = .ok (.aload_n 0, 1) := by decide +kernel
theorem dX12_line_181 : decode cX12_line 181 = .ok (.ldc2_w 101, 3) := by decide +kernel
theorem dX12_line_184 : decode cX12_line 184 = .ok (.invokevirtual 219, 3) := by decide +kernel
theorem dX12_line_187 : decode cX12_line 187 = .ok (.ifCond .eq 79, 3) := by decide +kernel
theorem dX12_line_190 : decode cX12_line 190 = .ok (.aload_n 0, 1) := by decide +kernel
theorem dX12_line_191 : decode cX12_line 191 = .ok (.getfield 37, 3) := by decide +kernel
theorem dX12_line_194 : decode cX12_line 194 = .ok (.iconst 0, 1) := by decide +kernel
theorem dX12_line_195 : decode cX12_line 195 = .ok (.iaload, 1) := by decide +kernel
theorem dX12_line_196 : decode cX12_line 196 = .ok (.istore_n 1, 1) := by decide +kernel
theorem dX12_line_197 : decode cX12_line 197 = .ok (.iload_n 1, 1) := by decide +kernel
theorem dX12_line_198 : decode cX12_line 198 = .ok (.bipush 8, 2) := by decide +kernel
theorem dX12_line_200 : decode cX12_line 200 = .ok (.if_icmp .ne 9, 3) := by decide +kernel
theorem dX12_line_203 : decode cX12_line 203 = .ok (.aload_n 0, 1) := by decide +kernel
theorem dX12_line_204 : decode cX12_line 204 = .ok (.iconst 4, 1) := by decide +kernel
theorem dX12_line_205 : decode cX12_line 205 = .ok (.invokevirtual 185, 3) := by decide +kernel
theorem dX12_line_208 : decode cX12_line 208 = .ok (.ireturn, 1) := by decide +kernel
theorem dX12_line_209 : decode cX12_line 209 = .ok (.aload_n 0, 1) := by decide +kernel
theorem dX12_line_210 : decode cX12_line 210 = .ok (.invokevirtual 188, 3) := by decide +kernel
theorem dX12_line_213 : decode cX12_line 213 = .ok (.aload_n 0, 1) := by decide +kernel
theorem dX12_line_214 : decode cX12_line 214 = .ok (.bipush 16, 2) := by decide +kernel
theorem dX12_line_216 : decode cX12_line 216 = .ok (.iload_n 1, 1) := by decide +kernel
theorem dX12_line_217 : decode cX12_line 217 = .ok (.iadd, 1) := by decide +kernel
theorem dX12_line_218 : decode cX12_line 218 = .ok (.invokevirtual 229, 3) := by decide +kernel
theorem dX12_line_221 : decode cX12_line 221 = .ok (.ifCond .eq 31, 3) := by decide +kernel
theorem dX12_line_224 : decode cX12_line 224 = .ok (.aload_n 0, 1) := by decide +kernel
theorem dX12_line_225 : decode cX12_line 225 = .ok (.bipush 7, 2) := by decide +kernel
theorem dX12_line_227 : decode cX12_line 227 = .ok (.iload_n 1, 1) := by decide +kernel
theorem dX12_line_228 : decode cX12_line 228 = .ok (.iadd, 1) := by decide +kernel
theorem dX12_line_229 : decode cX12_line 229 = .ok (.iconst 0, 1) := by decide +kernel
theorem dX12_line_230 : decode cX12_line 230 = .ok (.bipush 20, 2) := by decide +kernel
theorem dX12_line_232 : decode cX12_line 232 = .ok (.invokevirtual 226, 3) := by decide +kernel
theorem dX12_line_235 : decode cX12_line 235 = .ok (.ifCond .eq 17, 3) := by decide +kernel
theorem dX12_line_238 : decode cX12_line 238 = .ok (.aload_n 0, 1) := by decide +kernel
theorem dX12_line_239 : decode cX12_line 239 = .ok (.bipush 15, 2) := by decide +kernel
theorem dX12_line_241 : decode cX12_line 241 = .ok (.iload_n 1, 1) := by decide +kernel
theorem dX12_line_242 : decode cX12_line 242 = .ok (.iadd, 1) := by decide +kernel
theorem dX12_line_243 : decode cX12_line 243 = .ok (.iconst 0, 1) := by decide +kernel
theorem dX12_line_244 : decode cX12_line 244 = .ok (.bipush 20, 2) := by decide +kernel
theorem dX12_line_246 : decode cX12_line 246 = .ok (.invokevirtual 226, 3) := by decide +kernel
theorem dX12_line_249 : decode cX12_line 249 = .ok (.ifCond .ne 5, 3) := by decide +kernel
theorem dX12_line_252 : decode cX12_line 252 = .ok (.iconst 0, 1) := by decide +kernel
theorem dX12_line_253 : decode cX12_line 253 = .ok (.ireturn, 1) := by decide +kernel
theorem dX12_line_254 : decode cX12_line 254 = .ok (.aload_n 0, 1) := by decide +kernel
theorem dX12_line_255 : decode cX12_line 255 = .ok (.getfield 37, 3) := by decide +kernel
theorem dX12_line_258 : decode cX12_line 258 = .ok (.iconst 0, 1) := by decide +kernel
theorem dX12_line_259 : decode cX12_line 259 = .ok (.dup2, 1) := by decide +kernel
theorem dX12_line_260 : decode cX12_line 260 = .ok (.iaload, 1) := by decide +kernel
theorem dX12_line_261 : decode cX12_line 261 = .ok (.iconst 1, 1) := by decide +kernel
theorem dX12_line_262 : decode cX12_line 262 = .ok (.iadd, 1) := by decide +kernel
theorem dX12_line_263 : decode cX12_line 263 = .ok (.iastore, 1) := by decide +kernel
theorem dX12_line_264 : decode cX12_line 264 = .ok (.iconst 1, 1) := by decide +kernel
theorem dX12_line_265 : decode cX12_line 265 = .ok (.ireturn, 1) := by decide +kernel
theorem dX12_line_266 : decode cX12_line 266 = .ok (.aload_n 0, 1) := by decide +kernel
theorem dX12_line_267 : decode cX12_line 267 = .ok (.ldc2_w 103, 3) := by decide +kernel
theorem dX12_line_270 : decode cX12_line 270 = .ok (.invokevirtual 219, 3) := by decide +kernel
theorem dX12_line_273 : decode cX12_line 273 = .ok (.ifCond .eq 77, 3) := by decide +kernel
theorem dX12_line_276 : decode cX12_line 276 = .ok (.aload_n 0, 1) := by decide +kernel
theorem dX12_line_277 : decode cX12_line 277 = .ok (.invokevirtual 188, 3) := by decide +kernel
theorem dX12_line_280 : decode cX12_line 280 = .ok (.aload_n 0, 1) := by decide +kernel
theorem dX12_line_281 : decode cX12_line 281 = .ok (.bipush 16, 2) := by decide +kernel
theorem dX12_line_283 : decode cX12_line 283 = .ok (.aload_n 0, 1) := by decide +kernel
theorem dX12_line_284 : decode cX12_line 284 = .ok (.getfield 37, 3) := by decide +kernel
theorem dX12_line_287 : decode cX12_line 287 = .ok (.iconst 0, 1) := by decide +kernel
theorem dX12_line_288 : decode cX12_line 288 = .ok (.iaload, 1) := by decide +kernel
theorem dX12_line_289 : decode cX12_line 289 = .ok (.invokevirtual 210, 3) := by decide +kernel
theorem dX12_line_292 : decode cX12_line 292 = .ok (.ifCond .ne 5, 3) := by decide +kernel
theorem dX12_line_295 : decode cX12_line 295 = .ok (.iconst 0, 1) := by decide +kernel
theorem dX12_line_296 : decode cX12_line 296 = .ok (.ireturn, 1) := by decide +kernel
theorem dX12_line_297 : decode cX12_line 297 = .ok (.aload_n 0, 1) := by decide +kernel
theorem dX12_line_298 : decode cX12_line 298 = .ok (.getfield 232, 3) := by decide +kernel
theorem dX12_line_301 : decode cX12_line 301 = .ok (.aload_n 0, 1) := by decide +kernel
theorem dX12_line_302 : decode cX12_line 302 = .ok (.getfield 195, 3) := by decide +kernel
theorem dX12_line_305 : decode cX12_line 305 = .ok (.invokestatic 216, 3) := by decide +kernel
theorem dX12_line_308 : decode cX12_line 308 = .ok (.ifCond .eq 9, 3) := by decide +kernel
theorem dX12_line_311 : decode cX12_line 311 = .ok (.aload_n 0, 1) := by decide +kernel
theorem dX12_line_312 : decode cX12_line 312 = .ok (.iconst 3, 1) := by decide +kernel
theorem dX12_line_313 : decode cX12_line 313 = .ok (.invokevirtual 185, 3) := by decide +kernel
theorem dX12_line_316 : decode cX12_line 316 = .ok (.ireturn, 1) := by decide +kernel
theorem dX12_line_317 : decode cX12_line 317 = .ok (.aload_n 0, 1) := by decide +kernel
theorem dX12_line_318 : decode cX12_line 318 = .ok (.getfield 195, 3) := by decide +kernel
theorem dX12_line_321 : decode cX12_line 321 = .ok (.istore_n 1, 1) := by decide +kernel
theorem dX12_line_322 : decode cX12_line 322 = .ok (.aload_n 0, 1) := by decide +kernel
theorem dX12_line_323 : decode cX12_line 323 = .ok (.dup, 1) := by decide +kernel
theorem dX12_line_324 : decode cX12_line 324 = .ok (.getfield 232, 3) := by decide +kernel
theorem dX12_line_327 : decode cX12_line 327 = .ok (.iconst 1, 1) := by decide +kernel
theorem dX12_line_328 : decode cX12_line 328 = .ok (.iload_n 1, 1) := by decide +kernel
theorem dX12_line_329 : decode cX12_line 329 = .ok (.ishl, 1) := by decide +kernel
theorem dX12_line_330 : decode cX12_line 330 = .ok (.ior, 1) := by decide +kernel
theorem dX12_line_331 : decode cX12_line 331 = .ok (.putfield 232, 3) := by decide +kernel
theorem dX12_line_334 : decode cX12_line 334 = .ok (.aload_n 0, 1) := by decide +kernel
theorem dX12_line_335 : decode cX12_line 335 = .ok (.invokevirtual 188, 3) := by decide +kernel
theorem dX12_line_338 : decode cX12_line 338 = .ok (.aload_n 0, 1) := by decide +kernel
theorem dX12_line_339 : decode cX12_line 339 = .ok (.bipush 23, 2) := by decide +kernel
theorem dX12_line_341 : decode cX12_line 341 = .ok (.iload_n 1, 1) := by decide +kernel
theorem dX12_line_342 : decode cX12_line 342 = .ok (.iadd, 1) := by decide +kernel
theorem dX12_line_343 : decode cX12_line 343 = .ok (.iconst 0, 1) := by decide +kernel
theorem dX12_line_344 : decode cX12_line 344 = .ok (.bipush 9, 2) := by decide +kernel
theorem dX12_line_346 : decode cX12_line 346 = .ok (.invokevirtual 226, 3) := by decide +kernel
theorem dX12_line_349 : decode cX12_line 349 = .ok (.ireturn, 1) := by decide +kernel
theorem dX12_line_350 : decode cX12_line 350 = .ok (.aload_n 0, 1) := by decide +kernel
theorem dX12_line_351 : decode cX12_line 351 = .ok (.ldc2_w 105, 3) := by decide +kernel
theorem dX12_line_354 : decode cX12_line 354 = .ok (.invokevirtual 219, 3) := by decide +kernel
theorem dX12_line_357 : decode cX12_line 357 = .ok (.ifCond .eq 109, 3) := by decide +kernel
theorem dX12_line_360 : decode cX12_line 360 = .ok (.aload_n 0, 1) := by decide +kernel
theorem dX12_line_361 : decode cX12_line 361 = .ok (.getfield 37, 3) := by decide +kernel
theorem dX12_line_364 : decode cX12_line 364 = .ok (.iconst 1, 1) := by decide +kernel
theorem dX12_line_365 : decode cX12_line 365 = .ok (.iaload, 1) := by decide +kernel
theorem dX12_line_366 : decode cX12_line 366 = .ok (.istore_n 1, 1) := by decide +kernel
theorem dX12_line_367 : decode cX12_line 367 = .ok (.iload_n 1, 1) := by decide +kernel
theorem dX12_line_368 : decode cX12_line 368 = .ok (.bipush 8, 2) := by decide +kernel
theorem dX12_line_370 : decode cX12_line 370 = .ok (.if_icmp .ne 9, 3) := by decide +kernel
theorem dX12_line_373 : decode cX12_line 373 = .ok (.aload_n 0, 1) := by decide +kernel
theorem dX12_line_374 : decode cX12_line 374 = .ok (.iconst 4, 1) := by decide +kernel
theorem dX12_line_375 : decode cX12_line 375 = .ok (.invokevirtual 185, 3) := by decide +kernel
theorem dX12_line_378 : decode cX12_line 378 = .ok (.ireturn, 1) := by decide +kernel
theorem dX12_line_379 : decode cX12_line 379 = .ok (.aload_n 0, 1) := by decide +kernel
theorem dX12_line_380 : decode cX12_line 380 = .ok (.invokevirtual 188, 3) := by decide +kernel
theorem dX12_line_383 : decode cX12_line 383 = .ok (.aload_n 0, 1) := by decide +kernel
theorem dX12_line_384 : decode cX12_line 384 = .ok (.bipush 24, 2) := by decide +kernel
theorem dX12_line_386 : decode cX12_line 386 = .ok (.iload_n 1, 1) := by decide +kernel
theorem dX12_line_387 : decode cX12_line 387 = .ok (.iadd, 1) := by decide +kernel
theorem dX12_line_388 : decode cX12_line 388 = .ok (.invokevirtual 229, 3) := by decide +kernel
theorem dX12_line_391 : decode cX12_line 391 = .ok (.ifCond .eq 18, 3) := by decide +kernel
theorem dX12_line_394 : decode cX12_line 394 = .ok (.aload_n 0, 1) := by decide +kernel
theorem dX12_line_395 : decode cX12_line 395 = .ok (.bipush 16, 2) := by decide +kernel
theorem dX12_line_397 : decode cX12_line 397 = .ok (.aload_n 0, 1) := by decide +kernel
theorem dX12_line_398 : decode cX12_line 398 = .ok (.getfield 37, 3) := by decide +kernel
theorem dX12_line_401 : decode cX12_line 401 = .ok (.iconst 0, 1) := by decide +kernel
theorem dX12_line_402 : decode cX12_line 402 = .ok (.iaload, 1) := by decide +kernel
theorem dX12_line_403 : decode cX12_line 403 = .ok (.invokevirtual 235, 3) := by decide +kernel
theorem dX12_line_406 : decode cX12_line 406 = .ok (.ifCond .ne 5, 3) := by decide +kernel
theorem dX12_line_409 : decode cX12_line 409 = .ok (.iconst 0, 1) := by decide +kernel
theorem dX12_line_410 : decode cX12_line 410 = .ok (.ireturn, 1) := by decide +kernel
theorem dX12_line_411 : decode cX12_line 411 = .ok (.aload_n 0, 1) := by decide +kernel
theorem dX12_line_412 : decode cX12_line 412 = .ok (.getfield 37, 3) := by decide +kernel
theorem dX12_line_415 : decode cX12_line 415 = .ok (.bipush 31, 2) := by decide +kernel
theorem dX12_line_417 : decode cX12_line 417 = .ok (.iload_n 1, 1) := by decide +kernel
theorem dX12_line_418 : decode cX12_line 418 = .ok (.iadd, 1) := by decide +kernel
theorem dX12_line_419 : decode cX12_line 419 = .ok (.aload_n 0, 1) := by decide +kernel
theorem dX12_line_420 : decode cX12_line 420 = .ok (.getfield 195, 3) := by decide +kernel
theorem dX12_line_423 : decode cX12_line 423 = .ok (.iastore, 1) := by decide +kernel
theorem dX12_line_424 : decode cX12_line 424 = .ok (.aload_n 0, 1) := by decide +kernel
theorem dX12_line_425 : decode cX12_line 425 = .ok (.bipush 39, 2) := by decide +kernel
theorem dX12_line_427 : decode cX12_line 427 = .ok (.iload_n 1, 1) := by decide +kernel
theorem dX12_line_428 : decode cX12_line 428 = .ok (.iadd, 1) := by decide +kernel
theorem dX12_line_429 : decode cX12_line 429 = .ok (.iconst 0, 1) := by decide +kernel
theorem dX12_line_430 : decode cX12_line 430 = .ok (.bipush 9, 2) := by decide +kernel
theorem dX12_line_432 : decode cX12_line 432 = .ok (.invokevirtual 226, 3) := by decide +kernel
theorem dX12_line_435 : decode cX12_line 435 = .ok (.ifCond .eq 17, 3) := by decide +kernel
theorem dX12_line_438 : decode cX12_line 438 = .ok (.aload_n 0, 1) := by decide +kernel
theorem dX12_line_439 : decode cX12_line 439 = .ok (.bipush 47, 2) := by decide +kernel
theorem dX12_line_441 : decode cX12_line 441 = .ok (.iload_n 1, 1) := by decide +kernel
theorem dX12_line_442 : decode cX12_line 442 = .ok (.iadd, 1) := by decide +kernel
theorem dX12_line_443 : decode cX12_line 443 = .ok (.iconst 0, 1) := by decide +kernel
theorem dX12_line_444 : decode cX12_line 444 = .ok (.bipush 9, 2) := by decide +kernel
theorem dX12_line_446 : decode cX12_line 446 = .ok (.invokevirtual 226, 3) := by decide +kernel
theorem dX12_line_449 : decode cX12_line 449 = .ok (.ifCond .ne 5, 3) := by decide +kernel
theorem dX12_line_452 : decode cX12_line 452 = .ok (.iconst 0, 1) := by decide +kernel
theorem dX12_line_453 : decode cX12_line 453 = .ok (.ireturn, 1) := by decide +kernel
theorem dX12_line_454 : decode cX12_line 454 = .ok (.aload_n 0, 1) := by decide +kernel
theorem dX12_line_455 : decode cX12_line 455 = .ok (.getfield 37, 3) := by decide +kernel
theorem dX12_line_458 : decode cX12_line 458 = .ok (.iconst 1, 1) := by decide +kernel
theorem dX12_line_459 : decode cX12_line 459 = .ok (.dup2, 1) := by decide +kernel
theorem dX12_line_460 : decode cX12_line 460 = .ok (.iaload, 1) := by decide +kernel
theorem dX12_line_461 : decode cX12_line 461 = .ok (.iconst 1, 1) := by decide +kernel
theorem dX12_line_462 : decode cX12_line 462 = .ok (.iadd, 1) := by decide +kernel
theorem dX12_line_463 : decode cX12_line 463 = .ok (.iastore, 1) := by decide +kernel
theorem dX12_line_464 : decode cX12_line 464 = .ok (.iconst 1, 1) := by decide +kernel
theorem dX12_line_465 : decode cX12_line 465 = .ok (.ireturn, 1) := by decide +kernel
theorem dX12_line_466 : decode cX12_line 466 = .ok (.aload_n 0, 1) := by decide +kernel
theorem dX12_line_467 : decode cX12_line 467 = .ok (.ldc2_w 113, 3) := by decide +kernel
theorem dX12_line_470 : decode cX12_line 470 = .ok (.invokevirtual 219, 3) := by decide +kernel
theorem dX12_line_473 : decode cX12_line 473 = .ok (.ifCond .eq 8, 3) := by decide +kernel
theorem dX12_line_476 : decode cX12_line 476 = .ok (.aload_n 0, 1) := by decide +kernel
theorem dX12_line_477 : decode cX12_line 477 = .ok (.invokevirtual 238, 3) := by decide +kernel
theorem dX12_line_480 : decode cX12_line 480 = .ok (.ireturn, 1) := by decide +kernel
theorem dX12_line_481 : decode cX12_line 481 = .ok (.aload_n 0, 1) := by decide +kernel
theorem dX12_line_482 : decode cX12_line 482 = .ok (.invokevirtual 241, 3) := by decide +kernel
theorem dX12_line_485 : decode cX12_line 485 = .ok (.ireturn, 1) := by decide +kernel
set_option maxRecDepth 20000 in
theorem ggX12_ofMan_X12_isWord : GoodIn wsX12_ofMan wsX12_isWord := goodIn_r _ [10, 11, 12, 61, 62, 63, 64, 65, 66, 67, 68, 69, 70, 71, 72, 73, 74, 75, 76, 77, 78, 79, 80, 81, 82, 83, 84, 85, 86, 87, 88, 89, 90, 91, 92, 93, 94, 95, 96, 97, 98, 99, 100, 101, 102, 103, 104, 105, 106, 107] (by decide +kernel) (by decide +kernel)
set_option maxRecDepth 20000 in
theorem gX12_ofMan_X12_isWord : GoodIn wsX12_ofMan (wsV RX12 219 RX12 yX12_isWord wsX12_isWord) := goodIn_app (goodIn_of _ (by decide +kernel)) ggX12_ofMan_X12_isWord
set_option maxRecDepth 20000 in
theorem ggX12_ofMan_X12_bad : GoodIn wsX12_ofMan wsX12_bad := goodIn_r _ [16, 17, 18, 19, 61, 62, 63, 64, 65, 66, 67, 68, 69, 70, 71, 72, 73, 74, 75, 76, 77, 78, 79, 80, 81, 82, 83, 84, 85, 86, 87, 88, 89, 90, 91, 92, 93, 94, 95, 96, 97, 98, 99, 100, 101, 102, 103, 104, 105, 106, 107] (by decide +kernel) (by decide +kernel)
set_option maxRecDepth 20000 in
theorem gX12_ofMan_X12_bad : GoodIn wsX12_ofMan (wsV RX12 185 RX12 yX12_bad wsX12_bad) := goodIn_app (goodIn_of _ (by decide +kernel)) ggX12_ofMan_X12_bad
set_option maxRecDepth 20000 in
theorem ggX12_ofMan_X12_next : GoodIn wsX12_ofMan wsX12_next := goodIn_r _ [23, 24, 18, 25, 26, 27, 11, 28, 12, 29, 30, 31, 9, 32, 33, 34, 35, 36, 37, 38, 39, 61, 62, 63, 64, 65, 66, 67, 68, 69, 70, 71, 72, 73, 74, 75, 76, 77, 78, 79, 80, 81, 82, 83, 84, 85, 86, 87, 88, 89, 90, 91, 92, 93, 94, 95, 96, 97, 98, 99, 100, 101, 102, 103, 104, 105, 106, 107] (by decide +kernel) (by decide +kernel)
set_option maxRecDepth 20000 in
theorem gX12_ofMan_X12_next : GoodIn wsX12_ofMan (wsV RX12 188 RX12 yX12_next wsX12_next) := goodIn_app (goodIn_of _ (by decide +kernel)) ggX12_ofMan_X12_next
set_option maxRecDepth 20000 in
theorem ggX12_ofMan_X12_looksAt : GoodIn wsX12_ofMan wsX12_looksAt := goodIn_r _ [43, 5, 44, 45, 46, 9, 47, 11, 12, 48, 13, 14, 15, 16, 17, 18, 19, 49, 50, 51, 52, 53, 61, 62, 63, 64, 65, 66, 67, 68, 69, 70, 71, 72, 73, 74, 75, 76, 77, 78, 79, 80, 81, 82, 83, 84, 85, 86, 87, 88, 89, 90, 91, 92, 93, 94, 95, 96, 97, 98, 99, 100, 101, 102, 103, 104, 105, 106, 107] (by decide +kernel) (by decide +kernel)
set_option maxRecDepth 20000 in
theorem gX12_ofMan_X12_looksAt : GoodIn wsX12_ofMan (wsV RX12 210 RX12 yX12_looksAt wsX12_looksAt) := goodIn_app (goodIn_of _ (by decide +kernel)) ggX12_ofMan_X12_looksAt
set_option maxRecDepth 20000 in
theorem ggX12_ofMan_X12_takes : GoodIn wsX12_ofMan wsX12_takes := goodIn_r _ [57, 11, 28, 5, 13, 14, 15, 9, 16, 17, 18, 19, 58, 59, 60, 20, 21, 22, 23, 24, 25, 26, 27, 12, 29, 30, 31, 32, 33, 34, 35, 36, 37, 38, 39, 61, 62, 63, 64, 65, 66, 67, 68, 69, 70, 71, 72, 73, 74, 75, 76, 77, 78, 79, 80, 81, 82, 83, 84, 85, 86, 87, 88, 89, 90, 91, 92, 93, 94, 95, 96, 97, 98, 99, 100, 101, 102, 103, 104, 105, 106, 107] (by decide +kernel) (by decide +kernel)
set_option maxRecDepth 20000 in
theorem gX12_ofMan_X12_takes : GoodIn wsX12_ofMan (wsV RX12 198 RX12 yX12_takes wsX12_takes) := goodIn_app (goodIn_of _ (by decide +kernel)) ggX12_ofMan_X12_takes
theorem dX12_ofMan_0 : decode cX12_ofMan 0 = .ok (.aload_n 0, 1) := by decide +kernel
theorem dX12_ofMan_1 : decode cX12_ofMan 1 = .ok (.ldc2_w 107, 3) := by decide +kernel
theorem dX12_ofMan_4 : decode cX12_ofMan 4 = .ok (.invokevirtual 219, 3) := by decide +kernel
theorem dX12_ofMan_7 : decode cX12_ofMan 7 = .ok (.ifCond .eq 7, 3) := by decide +kernel
theorem dX12_ofMan_10 : decode cX12_ofMan 10 = .ok (.iconst 0, 1) := by decide +kernel
theorem dX12_ofMan_11 : decode cX12_ofMan 11 = .ok (.goto 32, 3) := by decide +kernel
theorem dX12_ofMan_14 : decode cX12_ofMan 14 = .ok (.aload_n 0, 1) := by decide +kernel
theorem dX12_ofMan_15 : decode cX12_ofMan 15 = .ok (.ldc2_w 109, 3) := by decide +kernel
theorem dX12_ofMan_18 : decode cX12_ofMan 18 = .ok (.invokevirtual 219, 3) := by decide +kernel
theorem dX12_ofMan_21 : decode cX12_ofMan 21 = .ok (.ifCond .eq 7, 3) := by decide +kernel
theorem dX12_ofMan_24 : decode cX12_ofMan 24 = .ok (.iconst 1, 1) := by decide +kernel
theorem dX12_ofMan_25 : decode cX12_ofMan 25 = .ok (.goto 18, 3) := by decide +kernel
theorem dX12_ofMan_28 : decode cX12_ofMan 28 = .ok (.aload_n 0, 1) := by decide +kernel
theorem dX12_ofMan_29 : decode cX12_ofMan 29 = .ok (.ldc2_w 111, 3) := by decide +kernel
theorem dX12_ofMan_32 : decode cX12_ofMan 32 = .ok (.invokevirtual 219, 3) := by decide +kernel
theorem dX12_ofMan_35 : decode cX12_ofMan 35 = .ok (.ifCond .eq 7, 3) := by decide +kernel
theorem dX12_ofMan_38 : decode cX12_ofMan 38 = .ok (.iconst 2, 1) := by decide +kernel
theorem dX12_ofMan_39 : decode cX12_ofMan 39 = .ok (.goto 4, 3) := by decide +kernel
theorem dX12_ofMan_42 : decode cX12_ofMan 42 = .ok (.iconst (-1), 1) := by decide +kernel
theorem dX12_ofMan_43 : decode cX12_ofMan 43 = .ok (.istore_n 1, 1) := by decide +kernel
theorem dX12_ofMan_44 : decode cX12_ofMan 44 = .ok (.iload_n 1, 1) := by decide +kernel
theorem dX12_ofMan_45 : decode cX12_ofMan 45 = .ok (.ifCond .ge 9, 3) := by decide +kernel
theorem dX12_ofMan_48 : decode cX12_ofMan 48 = .ok (.aload_n 0, 1) := by decide +kernel
theorem dX12_ofMan_49 : decode cX12_ofMan 49 = .ok (.iconst 1, 1) := by decide +kernel
theorem dX12_ofMan_50 : decode cX12_ofMan 50 = .ok (.invokevirtual 185, 3) := by decide +kernel
theorem dX12_ofMan_53 : decode cX12_ofMan 53 = .ok (.ireturn, 1) := by decide +kernel
theorem dX12_ofMan_54 : decode cX12_ofMan 54 = .ok (.aload_n 0, 1) := by decide +kernel
theorem dX12_ofMan_55 : decode cX12_ofMan 55 = .ok (.invokevirtual 188, 3) := by decide +kernel
theorem dX12_ofMan_58 : decode cX12_ofMan 58 = .ok (.aload_n 0, 1) := by decide +kernel
theorem dX12_ofMan_59 : decode cX12_ofMan 59 = .ok (.bipush 24, 2) := by decide +kernel
theorem dX12_ofMan_61 : decode cX12_ofMan 61 = .ok (.aload_n 0, 1) := by decide +kernel
theorem dX12_ofMan_62 : decode cX12_ofMan 62 = .ok (.getfield 37, 3) := by decide +kernel
theorem dX12_ofMan_65 : decode cX12_ofMan 65 = .ok (.iconst 1, 1) := by decide +kernel
theorem dX12_ofMan_66 : decode cX12_ofMan 66 = .ok (.iaload, 1) := by decide +kernel
theorem dX12_ofMan_67 : decode cX12_ofMan 67 = .ok (.invokevirtual 210, 3) := by decide +kernel
theorem dX12_ofMan_70 : decode cX12_ofMan 70 = .ok (.ifCond .ne 5, 3) := by decide +kernel
theorem dX12_ofMan_73 : decode cX12_ofMan 73 = .ok (.iconst 0, 1) := by decide +kernel
theorem dX12_ofMan_74 : decode cX12_ofMan 74 = .ok (.ireturn, 1) := by decide +kernel
theorem dX12_ofMan_75 : decode cX12_ofMan 75 = .ok (.aload_n 0, 1) := by decide +kernel
theorem dX12_ofMan_76 : decode cX12_ofMan 76 = .ok (.getfield 195, 3) := by decide +kernel
theorem dX12_ofMan_79 : decode cX12_ofMan 79 = .ok (.istore_n 2, 1) := by decide +kernel
theorem dX12_ofMan_80 : decode cX12_ofMan 80 = .ok (.aload_n 0, 1) := by decide +kernel
theorem dX12_ofMan_81 : decode cX12_ofMan 81 = .ok (.getfield 37, 3) := by decide +kernel
theorem dX12_ofMan_84 : decode cX12_ofMan 84 = .ok (.iload_n 1, 1) := by decide +kernel
theorem dX12_ofMan_85 : decode cX12_ofMan 85 = .ok (.ifCond .ne 8, 3) := by decide +kernel
theorem dX12_ofMan_88 : decode cX12_ofMan 88 = .ok (.bipush 55, 2) := by decide +kernel
theorem dX12_ofMan_90 : decode cX12_ofMan 90 = .ok (.goto 15, 3) := by decide +kernel
theorem dX12_ofMan_93 : decode cX12_ofMan 93 = .ok (.iload_n 1, 1) := by decide +kernel
theorem dX12_ofMan_94 : decode cX12_ofMan 94 = .ok (.iconst 1, 1) := by decide +kernel
theorem dX12_ofMan_95 : decode cX12_ofMan 95 = .ok (.if_icmp .ne 8, 3) := by decide +kernel
theorem dX12_ofMan_98 : decode cX12_ofMan 98 = .ok (.bipush 63, 2) := by decide +kernel
theorem dX12_ofMan_100 : decode cX12_ofMan 100 = .ok (.goto 5, 3) := by decide +kernel
theorem dX12_ofMan_103 : decode cX12_ofMan 103 = .ok (.bipush 71, 2) := by decide +kernel
theorem dX12_ofMan_105 : decode cX12_ofMan 105 = .ok (.iload_n 2, 1) := by decide +kernel
theorem dX12_ofMan_106 : decode cX12_ofMan 106 = .ok (.iadd, 1) := by decide +kernel
theorem dX12_ofMan_107 : decode cX12_ofMan 107 = .ok (.iaload, 1) := by decide +kernel
theorem dX12_ofMan_108 : decode cX12_ofMan 108 = .ok (.ifCond .le 9, 3) := by decide +kernel
theorem dX12_ofMan_111 : decode cX12_ofMan 111 = .ok (.aload_n 0, 1) := by decide +kernel
theorem dX12_ofMan_112 : decode cX12_ofMan 112 = .ok (.iconst 3, 1) := by decide +kernel
theorem dX12_ofMan_113 : decode cX12_ofMan 113 = .ok (.invokevirtual 185, 3) := by decide +kernel
theorem dX12_ofMan_116 : decode cX12_ofMan 116 = .ok (.ireturn, 1) := by decide +kernel
theorem dX12_ofMan_117 : decode cX12_ofMan 117 = .ok (.aload_n 0, 1) := by decide +kernel
theorem dX12_ofMan_118 : decode cX12_ofMan 118 = .ok (.invokevirtual 188, 3) := by decide +kernel
theorem dX12_ofMan_121 : decode cX12_ofMan 121 = .ok (.iload_n 1, 1) := by decide +kernel
theorem dX12_ofMan_122 : decode cX12_ofMan 122 = .ok (.ifCond .ne 15, 3) := by decide +kernel
theorem dX12_ofMan_125 : decode cX12_ofMan 125 = .ok (.aload_n 0, 1) := by decide +kernel
theorem dX12_ofMan_126 : decode cX12_ofMan 126 = .ok (.getfield 37, 3) := by decide +kernel
theorem dX12_ofMan_129 : decode cX12_ofMan 129 = .ok (.bipush 55, 2) := by decide +kernel
theorem dX12_ofMan_131 : decode cX12_ofMan 131 = .ok (.iload_n 2, 1) := by decide +kernel
theorem dX12_ofMan_132 : decode cX12_ofMan 132 = .ok (.iadd, 1) := by decide +kernel
theorem dX12_ofMan_133 : decode cX12_ofMan 133 = .ok (.iconst 1, 1) := by decide +kernel
theorem dX12_ofMan_134 : decode cX12_ofMan 134 = .ok (.iastore, 1) := by decide +kernel
theorem dX12_ofMan_135 : decode cX12_ofMan 135 = .ok (.iconst 1, 1) := by decide +kernel
theorem dX12_ofMan_136 : decode cX12_ofMan 136 = .ok (.ireturn, 1) := by decide +kernel
theorem dX12_ofMan_137 : decode cX12_ofMan 137 = .ok (.iload_n 1, 1) := by decide +kernel
theorem dX12_ofMan_138 : decode cX12_ofMan 138 = .ok (.iconst 2, 1) := by decide +kernel
theorem dX12_ofMan_139 : decode cX12_ofMan 139 = .ok (.if_icmp .ne 33, 3) := by decide +kernel
theorem dX12_ofMan_142 : decode cX12_ofMan 142 = .ok (.aload_n 0, 1) := by decide +kernel
theorem dX12_ofMan_143 : decode cX12_ofMan 143 = .ok (.iconst 0, 1) := by decide +kernel
theorem dX12_ofMan_144 : decode cX12_ofMan 144 = .ok (.sipush 999, 3) := by decide +kernel
theorem dX12_ofMan_147 : decode cX12_ofMan 147 = .ok (.invokevirtual 198, 3) := by decide +kernel
theorem dX12_ofMan_150 : decode cX12_ofMan 150 = .ok (.ifCond .ne 5, 3) := by decide +kernel
theorem dX12_ofMan_153 : decode cX12_ofMan 153 = .ok (.iconst 0, 1) := by decide +kernel
theorem dX12_ofMan_154 : decode cX12_ofMan 154 = .ok (.ireturn, 1) := by decide +kernel
theorem dX12_ofMan_155 : decode cX12_ofMan 155 = .ok (.aload_n 0, 1) := by decide +kernel
theorem dX12_ofMan_156 : decode cX12_ofMan 156 = .ok (.getfield 37, 3) := by decide +kernel
theorem dX12_ofMan_159 : decode cX12_ofMan 159 = .ok (.bipush 71, 2) := by decide +kernel
theorem dX12_ofMan_161 : decode cX12_ofMan 161 = .ok (.iload_n 2, 1) := by decide +kernel
theorem dX12_ofMan_162 : decode cX12_ofMan 162 = .ok (.iadd, 1) := by decide +kernel
theorem dX12_ofMan_163 : decode cX12_ofMan 163 = .ok (.aload_n 0, 1) := by decide +kernel
theorem dX12_ofMan_164 : decode cX12_ofMan 164 = .ok (.getfield 195, 3) := by decide +kernel
theorem dX12_ofMan_167 : decode cX12_ofMan 167 = .ok (.iconst 1, 1) := by decide +kernel
theorem dX12_ofMan_168 : decode cX12_ofMan 168 = .ok (.iadd, 1) := by decide +kernel
theorem dX12_ofMan_169 : decode cX12_ofMan 169 = .ok (.iastore, 1) := by decide +kernel
theorem dX12_ofMan_170 : decode cX12_ofMan 170 = .ok (.iconst 1, 1) := by decide +kernel
theorem dX12_ofMan_171 : decode cX12_ofMan 171 = .ok (.ireturn, 1) := by decide +kernel
theorem dX12_ofMan_172 : decode cX12_ofMan 172 = .ok (.aload_n 0, 1) := by decide +kernel
theorem dX12_ofMan_173 : decode cX12_ofMan 173 = .ok (.bipush 24, 2) := by decide +kernel
theorem dX12_ofMan_175 : decode cX12_ofMan 175 = .ok (.aload_n 0, 1) := by decide +kernel
theorem dX12_ofMan_176 : decode cX12_ofMan 176 = .ok (.getfield 37, 3) := by decide +kernel
theorem dX12_ofMan_179 : decode cX12_ofMan 179 = .ok (.iconst 1, 1) := by decide +kernel
theorem dX12_ofMan_180 : decode cX12_ofMan 180 = .ok (.iaload, 1) := by decide +kernel
theorem dX12_ofMan_181 : decode cX12_ofMan 181 = .ok (.invokevirtual 210, 3) := by decide +kernel
theorem dX12_ofMan_184 : decode cX12_ofMan 184 = .ok (.ifCond .ne 5, 3) := by decide +kernel
theorem dX12_ofMan_187 : decode cX12_ofMan 187 = .ok (.iconst 0, 1) := by decide +kernel
theorem dX12_ofMan_188 : decode cX12_ofMan 188 = .ok (.ireturn, 1) := by decide +kernel
theorem dX12_ofMan_189 : decode cX12_ofMan 189 = .ok (.aload_n 0, 1) := by decide +kernel
theorem dX12_ofMan_190 : decode cX12_ofMan 190 = .ok (.getfield 195, 3) := by decide +kernel
theorem dX12_ofMan_193 : decode cX12_ofMan 193 = .ok (.iload_n 2, 1) := by decide +kernel
theorem dX12_ofMan_194 : decode cX12_ofMan 194 = .ok (.if_icmp .ne 9, 3) := by decide +kernel
theorem dX12_ofMan_197 : decode cX12_ofMan 197 = .ok (.aload_n 0, 1) := by decide +kernel
theorem dX12_ofMan_198 : decode cX12_ofMan 198 = .ok (.iconst 3, 1) := by decide +kernel
theorem dX12_ofMan_199 : decode cX12_ofMan 199 = .ok (.invokevirtual 185, 3) := by decide +kernel
theorem dX12_ofMan_202 : decode cX12_ofMan 202 = .ok (.ireturn, 1) := by decide +kernel
theorem dX12_ofMan_203 : decode cX12_ofMan 203 = .ok (.aload_n 0, 1) := by decide +kernel
theorem dX12_ofMan_204 : decode cX12_ofMan 204 = .ok (.getfield 37, 3) := by decide +kernel
theorem dX12_ofMan_207 : decode cX12_ofMan 207 = .ok (.bipush 63, 2) := by decide +kernel
theorem dX12_ofMan_209 : decode cX12_ofMan 209 = .ok (.iload_n 2, 1) := by decide +kernel
theorem dX12_ofMan_210 : decode cX12_ofMan 210 = .ok (.iadd, 1) := by decide +kernel
theorem dX12_ofMan_211 : decode cX12_ofMan 211 = .ok (.aload_n 0, 1) := by decide +kernel
theorem dX12_ofMan_212 : decode cX12_ofMan 212 = .ok (.getfield 195, 3) := by decide +kernel
theorem dX12_ofMan_215 : decode cX12_ofMan 215 = .ok (.iconst 1, 1) := by decide +kernel
theorem dX12_ofMan_216 : decode cX12_ofMan 216 = .ok (.iadd, 1) := by decide +kernel
theorem dX12_ofMan_217 : decode cX12_ofMan 217 = .ok (.iastore, 1) := by decide +kernel
theorem dX12_ofMan_218 : decode cX12_ofMan 218 = .ok (.aload_n 0, 1) := by decide +kernel
theorem dX12_ofMan_219 : decode cX12_ofMan 219 = .ok (.invokevirtual 188, 3) := by decide +kernel
theorem dX12_ofMan_222 : decode cX12_ofMan 222 = .ok (.iconst 1, 1) := by decide +kernel
theorem dX12_ofMan_223 : decode cX12_ofMan 223 = .ok (.ireturn, 1) := by decide +kernel
set_option maxRecDepth 20000 in
theorem ggX12_readFlight_X12_bad : GoodIn wsX12_readFlight wsX12_bad := goodIn_r _ [8, 9, 10, 11, 48, 49, 50, 51, 52, 53, 54, 55, 56, 57, 58, 59, 60, 61, 62, 63, 64, 65, 66, 67, 68, 69, 70, 71, 72, 73, 74, 75, 76, 77, 78, 79, 80, 81, 82, 83, 84, 85, 86, 87, 88, 89, 90, 91, 92, 93, 94] (by decide +kernel) (by decide +kernel)
set_option maxRecDepth 20000 in
theorem gX12_readFlight_X12_bad : GoodIn wsX12_readFlight (wsV RX12 185 RX12 yX12_bad wsX12_bad) := goodIn_app (goodIn_of _ (by decide +kernel)) ggX12_readFlight_X12_bad
set_option maxRecDepth 20000 in
theorem ggX12_readFlight_X12_next : GoodIn wsX12_readFlight wsX12_next := goodIn_r _ [15, 16, 10, 17, 18, 19, 2, 20, 21, 22, 23, 24, 7, 25, 26, 27, 28, 29, 30, 31, 32, 48, 49, 50, 51, 52, 53, 54, 55, 56, 57, 58, 59, 60, 61, 62, 63, 64, 65, 66, 67, 68, 69, 70, 71, 72, 73, 74, 75, 76, 77, 78, 79, 80, 81, 82, 83, 84, 85, 86, 87, 88, 89, 90, 91, 92, 93, 94] (by decide +kernel) (by decide +kernel)
set_option maxRecDepth 20000 in
theorem gX12_readFlight_X12_next : GoodIn wsX12_readFlight (wsV RX12 188 RX12 yX12_next wsX12_next) := goodIn_app (goodIn_of _ (by decide +kernel)) ggX12_readFlight_X12_next
set_option maxRecDepth 20000 in
theorem ggX12_readFlight_X12_puts : GoodIn wsX12_readFlight wsX12_puts := goodIn_r _ [36, 1, 3, 37, 38, 39, 7, 40, 2, 20, 4, 5, 6, 8, 9, 10, 11, 41, 42, 43, 12, 13, 14, 15, 16, 17, 18, 19, 21, 22, 23, 24, 25, 26, 27, 28, 29, 30, 31, 32, 48, 49, 50, 51, 52, 53, 54, 55, 56, 57, 58, 59, 60, 61, 62, 63, 64, 65, 66, 67, 68, 69, 70, 71, 72, 73, 74, 75, 76, 77, 78, 79, 80, 81, 82, 83, 84, 85, 86, 87, 88, 89, 90, 91, 92, 93, 94] (by decide +kernel) (by decide +kernel)
set_option maxRecDepth 20000 in
theorem gX12_readFlight_X12_puts : GoodIn wsX12_readFlight (wsV RX12 226 RX12 yX12_puts wsX12_puts) := goodIn_app (goodIn_of _ (by decide +kernel)) ggX12_readFlight_X12_puts
set_option maxRecDepth 20000 in
theorem ggX12_readFlight_X12_isSign : GoodIn wsX12_readFlight wsX12_isSign := goodIn_r _ [47, 2, 20, 48, 49, 50, 51, 52, 53, 54, 55, 56, 57, 58, 59, 60, 61, 62, 63, 64, 65, 66, 67, 68, 69, 70, 71, 72, 73, 74, 75, 76, 77, 78, 79, 80, 81, 82, 83, 84, 85, 86, 87, 88, 89, 90, 91, 92, 93, 94] (by decide +kernel) (by decide +kernel)
set_option maxRecDepth 20000 in
theorem gX12_readFlight_X12_isSign : GoodIn wsX12_readFlight (wsV RX12 182 RX12 yX12_isSign wsX12_isSign) := goodIn_app (goodIn_of _ (by decide +kernel)) ggX12_readFlight_X12_isSign
theorem dX12_readFlight_0 : decode cX12_readFlight 0 = .ok (.aload_n 0, 1) := by decide +kernel
theorem dX12_readFlight_1 : decode cX12_readFlight 1 = .ok (.getfield 37, 3) := by decide +kernel
theorem dX12_readFlight_4 : decode cX12_readFlight 4 = .ok (.iconst 2, 1) := by decide +kernel
theorem dX12_readFlight_5 : decode cX12_readFlight 5 = .ok (.iaload, 1) := by decide +kernel
theorem dX12_readFlight_6 : decode cX12_readFlight 6 = .ok (.istore_n 1, 1) := by decide +kernel
theorem dX12_readFlight_7 : decode cX12_readFlight 7 = .ok (.iload_n 1, 1) := by decide +kernel
theorem dX12_readFlight_8 : decode cX12_readFlight 8 = .ok (.iconst 4, 1) := by decide +kernel
theorem dX12_readFlight_9 : decode cX12_readFlight 9 = .ok (.if_icmp .ne 9, 3) := by decide +kernel
theorem dX12_readFlight_12 : decode cX12_readFlight 12 = .ok (.aload_n 0, 1) := by decide +kernel
theorem dX12_readFlight_13 : decode cX12_readFlight 13 = .ok (.iconst 4, 1) := by decide +kernel
theorem dX12_readFlight_14 : decode cX12_readFlight 14 = .ok (.invokevirtual 185, 3) := by decide +kernel
theorem dX12_readFlight_17 : decode cX12_readFlight 17 = .ok (.ireturn, 1) := by decide +kernel
theorem dX12_readFlight_18 : decode cX12_readFlight 18 = .ok (.aload_n 0, 1) := by decide +kernel
theorem dX12_readFlight_19 : decode cX12_readFlight 19 = .ok (.invokevirtual 188, 3) := by decide +kernel
theorem dX12_readFlight_22 : decode cX12_readFlight 22 = .ok (.aload_n 0, 1) := by decide +kernel
theorem dX12_readFlight_23 : decode cX12_readFlight 23 = .ok (.bipush 79, 2) := by decide +kernel
theorem dX12_readFlight_25 : decode cX12_readFlight 25 = .ok (.iload_n 1, 1) := by decide +kernel
theorem dX12_readFlight_26 : decode cX12_readFlight 26 = .ok (.iadd, 1) := by decide +kernel
theorem dX12_readFlight_27 : decode cX12_readFlight 27 = .ok (.iconst 1, 1) := by decide +kernel
theorem dX12_readFlight_28 : decode cX12_readFlight 28 = .ok (.bipush 9, 2) := by decide +kernel
theorem dX12_readFlight_30 : decode cX12_readFlight 30 = .ok (.invokevirtual 226, 3) := by decide +kernel
theorem dX12_readFlight_33 : decode cX12_readFlight 33 = .ok (.ifCond .eq 17, 3) := by decide +kernel
theorem dX12_readFlight_36 : decode cX12_readFlight 36 = .ok (.aload_n 0, 1) := by decide +kernel
theorem dX12_readFlight_37 : decode cX12_readFlight 37 = .ok (.bipush 83, 2) := by decide +kernel
theorem dX12_readFlight_39 : decode cX12_readFlight 39 = .ok (.iload_n 1, 1) := by decide +kernel
theorem dX12_readFlight_40 : decode cX12_readFlight 40 = .ok (.iadd, 1) := by decide +kernel
theorem dX12_readFlight_41 : decode cX12_readFlight 41 = .ok (.iconst 0, 1) := by decide +kernel
theorem dX12_readFlight_42 : decode cX12_readFlight 42 = .ok (.bipush 20, 2) := by decide +kernel
theorem dX12_readFlight_44 : decode cX12_readFlight 44 = .ok (.invokevirtual 226, 3) := by decide +kernel
theorem dX12_readFlight_47 : decode cX12_readFlight 47 = .ok (.ifCond .ne 5, 3) := by decide +kernel
theorem dX12_readFlight_50 : decode cX12_readFlight 50 = .ok (.iconst 0, 1) := by decide +kernel
theorem dX12_readFlight_51 : decode cX12_readFlight 51 = .ok (.ireturn, 1) := by decide +kernel
theorem dX12_readFlight_52 : decode cX12_readFlight 52 = .ok (.iconst 0, 1) := by decide +kernel
theorem dX12_readFlight_53 : decode cX12_readFlight 53 = .ok (.istore_n 2, 1) := by decide +kernel
theorem dX12_readFlight_54 : decode cX12_readFlight 54 = .ok (.iconst (-1), 1) := by decide +kernel
theorem dX12_readFlight_55 : decode cX12_readFlight 55 = .ok (.istore_n 3, 1) := by decide +kernel
theorem dX12_readFlight_56 : decode cX12_readFlight 56 = .ok (.aload_n 0, 1) := by decide +kernel
theorem dX12_readFlight_57 : decode cX12_readFlight 57 = .ok (.bipush 59, 2) := by decide +kernel
theorem dX12_readFlight_59 : decode cX12_readFlight 59 = .ok (.invokevirtual 182, 3) := by decide +kernel
theorem dX12_readFlight_62 : decode cX12_readFlight 62 = .ok (.ifCond .ne 101, 3) := by decide +kernel
theorem dX12_readFlight_65 : decode cX12_readFlight 65 = .ok (.aload_n 0, 1) := by decide +kernel
theorem dX12_readFlight_66 : decode cX12_readFlight 66 = .ok (.getfield 159, 3) := by decide +kernel
theorem dX12_readFlight_69 : decode cX12_readFlight 69 = .ok (.iconst 2, 1) := by decide +kernel
theorem dX12_readFlight_70 : decode cX12_readFlight 70 = .ok (.if_icmp .eq 9, 3) := by decide +kernel
theorem dX12_readFlight_73 : decode cX12_readFlight 73 = .ok (.aload_n 0, 1) := by decide +kernel
theorem dX12_readFlight_74 : decode cX12_readFlight 74 = .ok (.iconst 1, 1) := by decide +kernel
theorem dX12_readFlight_75 : decode cX12_readFlight 75 = .ok (.invokevirtual 185, 3) := by decide +kernel
theorem dX12_readFlight_78 : decode cX12_readFlight 78 = .ok (.ireturn, 1) := by decide +kernel
theorem dX12_readFlight_79 : decode cX12_readFlight 79 = .ok (.iload_n 2, 1) := by decide +kernel
theorem dX12_readFlight_80 : decode cX12_readFlight 80 = .ok (.bipush 10, 2) := by decide +kernel
theorem dX12_readFlight_82 : decode cX12_readFlight 82 = .ok (.if_icmp .ne 9, 3) := by decide +kernel
theorem dX12_readFlight_85 : decode cX12_readFlight 85 = .ok (.aload_n 0, 1) := by decide +kernel
theorem dX12_readFlight_86 : decode cX12_readFlight 86 = .ok (.iconst 4, 1) := by decide +kernel
theorem dX12_readFlight_87 : decode cX12_readFlight 87 = .ok (.invokevirtual 185, 3) := by decide +kernel
theorem dX12_readFlight_90 : decode cX12_readFlight 90 = .ok (.ireturn, 1) := by decide +kernel
theorem dX12_readFlight_91 : decode cX12_readFlight 91 = .ok (.bipush 10, 2) := by decide +kernel
theorem dX12_readFlight_93 : decode cX12_readFlight 93 = .ok (.iload_n 1, 1) := by decide +kernel
theorem dX12_readFlight_94 : decode cX12_readFlight 94 = .ok (.imul, 1) := by decide +kernel
theorem dX12_readFlight_95 : decode cX12_readFlight 95 = .ok (.iload_n 2, 1) := by decide +kernel
theorem dX12_readFlight_96 : decode cX12_readFlight 96 = .ok (.iadd, 1) := by decide +kernel
theorem dX12_readFlight_97 : decode cX12_readFlight 97 = .ok (.istore 4, 2) := by decide +kernel
theorem dX12_readFlight_99 : decode cX12_readFlight 99 = .ok (.aload_n 0, 1) := by decide +kernel
theorem dX12_readFlight_100 : decode cX12_readFlight 100 = .ok (.bipush 91, 2) := by decide +kernel
theorem dX12_readFlight_102 : decode cX12_readFlight 102 = .ok (.iload 4, 2) := by decide +kernel
theorem dX12_readFlight_104 : decode cX12_readFlight 104 = .ok (.iadd, 1) := by decide +kernel
theorem dX12_readFlight_105 : decode cX12_readFlight 105 = .ok (.iload_n 3, 1) := by decide +kernel
theorem dX12_readFlight_106 : decode cX12_readFlight 106 = .ok (.iconst 1, 1) := by decide +kernel
theorem dX12_readFlight_107 : decode cX12_readFlight 107 = .ok (.iadd, 1) := by decide +kernel
theorem dX12_readFlight_108 : decode cX12_readFlight 108 = .ok (.bipush 99, 2) := by decide +kernel
theorem dX12_readFlight_110 : decode cX12_readFlight 110 = .ok (.invokevirtual 226, 3) := by decide +kernel
theorem dX12_readFlight_113 : decode cX12_readFlight 113 = .ok (.ifCond .ne 5, 3) := by decide +kernel
theorem dX12_readFlight_116 : decode cX12_readFlight 116 = .ok (.iconst 0, 1) := by decide +kernel
theorem dX12_readFlight_117 : decode cX12_readFlight 117 = .ok (.ireturn, 1) := by decide +kernel
theorem dX12_readFlight_118 : decode cX12_readFlight 118 = .ok (.aload_n 0, 1) := by decide +kernel
theorem dX12_readFlight_119 : decode cX12_readFlight 119 = .ok (.getfield 195, 3) := by decide +kernel
theorem dX12_readFlight_122 : decode cX12_readFlight 122 = .ok (.istore_n 3, 1) := by decide +kernel
theorem dX12_readFlight_123 : decode cX12_readFlight 123 = .ok (.aload_n 0, 1) := by decide +kernel
theorem dX12_readFlight_124 : decode cX12_readFlight 124 = .ok (.sipush 131, 3) := by decide +kernel
theorem dX12_readFlight_127 : decode cX12_readFlight 127 = .ok (.iload 4, 2) := by decide +kernel
theorem dX12_readFlight_129 : decode cX12_readFlight 129 = .ok (.iadd, 1) := by decide +kernel
theorem dX12_readFlight_130 : decode cX12_readFlight 130 = .ok (.iconst 0, 1) := by decide +kernel
theorem dX12_readFlight_131 : decode cX12_readFlight 131 = .ok (.bipush 20, 2) := by decide +kernel
theorem dX12_readFlight_133 : decode cX12_readFlight 133 = .ok (.invokevirtual 226, 3) := by decide +kernel
theorem dX12_readFlight_136 : decode cX12_readFlight 136 = .ok (.ifCond .eq 19, 3) := by decide +kernel
theorem dX12_readFlight_139 : decode cX12_readFlight 139 = .ok (.aload_n 0, 1) := by decide +kernel
theorem dX12_readFlight_140 : decode cX12_readFlight 140 = .ok (.sipush 171, 3) := by decide +kernel
theorem dX12_readFlight_143 : decode cX12_readFlight 143 = .ok (.iload 4, 2) := by decide +kernel
theorem dX12_readFlight_145 : decode cX12_readFlight 145 = .ok (.iadd, 1) := by decide +kernel
theorem dX12_readFlight_146 : decode cX12_readFlight 146 = .ok (.iconst 0, 1) := by decide +kernel
theorem dX12_readFlight_147 : decode cX12_readFlight 147 = .ok (.bipush 20, 2) := by decide +kernel
theorem dX12_readFlight_149 : decode cX12_readFlight 149 = .ok (.invokevirtual 226, 3) := by decide +kernel
theorem dX12_readFlight_152 : decode cX12_readFlight 152 = .ok (.ifCond .ne 5, 3) := by decide +kernel
theorem dX12_readFlight_155 : decode cX12_readFlight 155 = .ok (.iconst 0, 1) := by decide +kernel
theorem dX12_readFlight_156 : decode cX12_readFlight 156 = .ok (.ireturn, 1) := by decide +kernel
theorem dX12_readFlight_157 : decode cX12_readFlight 157 = .ok (.iinc 2 1, 3) := by decide +kernel
theorem dX12_readFlight_160 : decode cX12_readFlight 160 = .ok (.goto (-104), 3) := by decide +kernel
theorem dX12_readFlight_163 : decode cX12_readFlight 163 = .ok (.aload_n 0, 1) := by decide +kernel
theorem dX12_readFlight_164 : decode cX12_readFlight 164 = .ok (.getfield 37, 3) := by decide +kernel
theorem dX12_readFlight_167 : decode cX12_readFlight 167 = .ok (.bipush 87, 2) := by decide +kernel
theorem dX12_readFlight_169 : decode cX12_readFlight 169 = .ok (.iload_n 1, 1) := by decide +kernel
theorem dX12_readFlight_170 : decode cX12_readFlight 170 = .ok (.iadd, 1) := by decide +kernel
theorem dX12_readFlight_171 : decode cX12_readFlight 171 = .ok (.iload_n 2, 1) := by decide +kernel
theorem dX12_readFlight_172 : decode cX12_readFlight 172 = .ok (.iastore, 1) := by decide +kernel
theorem dX12_readFlight_173 : decode cX12_readFlight 173 = .ok (.aload_n 0, 1) := by decide +kernel
theorem dX12_readFlight_174 : decode cX12_readFlight 174 = .ok (.getfield 37, 3) := by decide +kernel
theorem dX12_readFlight_177 : decode cX12_readFlight 177 = .ok (.iconst 2, 1) := by decide +kernel
theorem dX12_readFlight_178 : decode cX12_readFlight 178 = .ok (.dup2, 1) := by decide +kernel
theorem dX12_readFlight_179 : decode cX12_readFlight 179 = .ok (.iaload, 1) := by decide +kernel
theorem dX12_readFlight_180 : decode cX12_readFlight 180 = .ok (.iconst 1, 1) := by decide +kernel
theorem dX12_readFlight_181 : decode cX12_readFlight 181 = .ok (.iadd, 1) := by decide +kernel
theorem dX12_readFlight_182 : decode cX12_readFlight 182 = .ok (.iastore, 1) := by decide +kernel
theorem dX12_readFlight_183 : decode cX12_readFlight 183 = .ok (.iconst 1, 1) := by decide +kernel
theorem dX12_readFlight_184 : decode cX12_readFlight 184 = .ok (.ireturn, 1) := by decide +kernel
set_option maxRecDepth 20000 in
theorem ggX12_valley_X12_taken : GoodIn wsX12_valley wsX12_taken := goodIn_r _ [16, 17, 18, 19, 20, 122, 123, 124, 125, 126, 127, 128, 129, 130, 131, 132, 133, 134, 135, 136, 137, 138, 139, 140, 141, 142, 143, 144, 145, 146, 147, 148, 149, 150, 151, 152, 153, 154, 155, 156, 157, 158, 159, 160, 161, 162, 163, 164, 165, 166, 167, 168] (by decide +kernel) (by decide +kernel)
set_option maxRecDepth 20000 in
theorem gX12_valley_X12_taken : GoodIn wsX12_valley (wsV RX12 244 RX12 yX12_taken wsX12_taken) := goodIn_app (goodIn_of _ (by decide +kernel)) ggX12_valley_X12_taken
set_option maxRecDepth 20000 in
theorem ggX12_valley_X12_next : GoodIn wsX12_valley wsX12_next := goodIn_r _ [24, 19, 25, 26, 18, 20, 7, 27, 28, 29, 30, 31, 15, 32, 33, 34, 35, 36, 37, 38, 39, 122, 123, 124, 125, 126, 127, 128, 129, 130, 131, 132, 133, 134, 135, 136, 137, 138, 139, 140, 141, 142, 143, 144, 145, 146, 147, 148, 149, 150, 151, 152, 153, 154, 155, 156, 157, 158, 159, 160, 161, 162, 163, 164, 165, 166, 167, 168] (by decide +kernel) (by decide +kernel)
set_option maxRecDepth 20000 in
theorem gX12_valley_X12_next : GoodIn wsX12_valley (wsV RX12 188 RX12 yX12_next wsX12_next) := goodIn_app (goodIn_of _ (by decide +kernel)) ggX12_valley_X12_next
set_option maxRecDepth 20000 in
theorem ggX12_valley_X12_line : GoodIn wsX12_valley wsX12_line := goodIn_r _ [43, 44, 45, 46, 47, 48, 49, 50, 6, 51, 52, 5, 53, 54, 55, 56, 57, 58, 15, 59, 7, 28, 60, 61, 62, 63, 4, 64, 65, 66, 67, 68, 69, 70, 2, 25, 8, 21, 22, 23, 24, 19, 26, 18, 20, 27, 29, 30, 31, 32, 33, 34, 35, 36, 37, 38, 39, 71, 72, 73, 74, 75, 76, 77, 78, 79, 80, 81, 82, 83, 84, 85, 10, 86, 87, 88, 89, 90, 91, 92, 93, 94, 95, 96, 97, 98, 99, 100, 101, 102, 103, 104, 105, 106, 107, 108, 109, 110, 111, 112, 113, 114, 115, 116, 117, 122, 123, 124, 125, 126, 127, 128, 129, 130, 131, 132, 133, 134, 135, 136, 137, 138, 139, 140, 141, 142, 143, 144, 145, 146, 147, 148, 149, 150, 151, 152, 153, 154, 155, 156, 157, 158, 159, 160, 161, 162, 163, 164, 165, 166, 167, 168] (by decide +kernel) (by decide +kernel)
set_option maxRecDepth 20000 in
theorem gX12_valley_X12_line : GoodIn wsX12_valley (wsV RX12 250 RX12 yX12_line wsX12_line) := goodIn_app (goodIn_of _ (by decide +kernel)) ggX12_valley_X12_line
set_option maxRecDepth 20000 in
theorem ggX12_valley_X12_sign : GoodIn wsX12_valley wsX12_sign := goodIn_r _ [121, 107, 108, 109, 15, 110, 7, 27, 67, 68, 69, 70, 2, 25, 8, 21, 22, 23, 24, 19, 26, 18, 20, 28, 29, 30, 31, 32, 33, 34, 35, 36, 37, 38, 39, 122, 123, 124, 125, 126, 127, 128, 129, 130, 131, 132, 133, 134, 135, 136, 137, 138, 139, 140, 141, 142, 143, 144, 145, 146, 147, 148, 149, 150, 151, 152, 153, 154, 155, 156, 157, 158, 159, 160, 161, 162, 163, 164, 165, 166, 167, 168] (by decide +kernel) (by decide +kernel)
set_option maxRecDepth 20000 in
theorem gX12_valley_X12_sign : GoodIn wsX12_valley (wsV RX12 253 RX12 yX12_sign wsX12_sign) := goodIn_app (goodIn_of _ (by decide +kernel)) ggX12_valley_X12_sign
theorem dX12_valley_0 : decode cX12_valley 0 = .ok (.aload_n 0, 1) := by decide +kernel
theorem dX12_valley_1 : decode cX12_valley 1 = .ok (.iconst 0, 1) := by decide +kernel
theorem dX12_valley_2 : decode cX12_valley 2 = .ok (.putfield 1, 3) := by decide +kernel
theorem dX12_valley_5 : decode cX12_valley 5 = .ok (.aload_n 0, 1) := by decide +kernel
theorem dX12_valley_6 : decode cX12_valley 6 = .ok (.sipush 900, 3) := by decide +kernel
theorem dX12_valley_9 : decode cX12_valley 9 = .ok (.invokevirtual 244, 3) := by decide +kernel
theorem dX12_valley_12 : decode cX12_valley 12 = .ok (.aload_n 0, 1) := by decide +kernel
theorem dX12_valley_13 : decode cX12_valley 13 = .ok (.iconst 0, 1) := by decide +kernel
theorem dX12_valley_14 : decode cX12_valley 14 = .ok (.putfield 176, 3) := by decide +kernel
theorem dX12_valley_17 : decode cX12_valley 17 = .ok (.aload_n 0, 1) := by decide +kernel
theorem dX12_valley_18 : decode cX12_valley 18 = .ok (.iconst 0, 1) := by decide +kernel
theorem dX12_valley_19 : decode cX12_valley 19 = .ok (.putfield 247, 3) := by decide +kernel
theorem dX12_valley_22 : decode cX12_valley 22 = .ok (.aload_n 0, 1) := by decide +kernel
theorem dX12_valley_23 : decode cX12_valley 23 = .ok (.iconst 0, 1) := by decide +kernel
theorem dX12_valley_24 : decode cX12_valley 24 = .ok (.putfield 213, 3) := by decide +kernel
theorem dX12_valley_27 : decode cX12_valley 27 = .ok (.aload_n 0, 1) := by decide +kernel
theorem dX12_valley_28 : decode cX12_valley 28 = .ok (.iconst 0, 1) := by decide +kernel
theorem dX12_valley_29 : decode cX12_valley 29 = .ok (.putfield 232, 3) := by decide +kernel
theorem dX12_valley_32 : decode cX12_valley 32 = .ok (.iconst 0, 1) := by decide +kernel
theorem dX12_valley_33 : decode cX12_valley 33 = .ok (.istore_n 1, 1) := by decide +kernel
theorem dX12_valley_34 : decode cX12_valley 34 = .ok (.iload_n 1, 1) := by decide +kernel
theorem dX12_valley_35 : decode cX12_valley 35 = .ok (.sipush 211, 3) := by decide +kernel
theorem dX12_valley_38 : decode cX12_valley 38 = .ok (.if_icmp .ge 16, 3) := by decide +kernel
theorem dX12_valley_41 : decode cX12_valley 41 = .ok (.aload_n 0, 1) := by decide +kernel
theorem dX12_valley_42 : decode cX12_valley 42 = .ok (.getfield 37, 3) := by decide +kernel
theorem dX12_valley_45 : decode cX12_valley 45 = .ok (.iload_n 1, 1) := by decide +kernel
theorem dX12_valley_46 : decode cX12_valley 46 = .ok (.iconst 0, 1) := by decide +kernel
theorem dX12_valley_47 : decode cX12_valley 47 = .ok (.iastore, 1) := by decide +kernel
theorem dX12_valley_48 : decode cX12_valley 48 = .ok (.iinc 1 1, 3) := by decide +kernel
theorem dX12_valley_51 : decode cX12_valley 51 = .ok (.goto (-17), 3) := by decide +kernel
theorem dX12_valley_54 : decode cX12_valley 54 = .ok (.aload_n 0, 1) := by decide +kernel
theorem dX12_valley_55 : decode cX12_valley 55 = .ok (.getfield 37, 3) := by decide +kernel
theorem dX12_valley_58 : decode cX12_valley 58 = .ok (.iconst 3, 1) := by decide +kernel
theorem dX12_valley_59 : decode cX12_valley 59 = .ok (.bipush 99, 2) := by decide +kernel
theorem dX12_valley_61 : decode cX12_valley 61 = .ok (.iastore, 1) := by decide +kernel
theorem dX12_valley_62 : decode cX12_valley 62 = .ok (.aload_n 0, 1) := by decide +kernel
theorem dX12_valley_63 : decode cX12_valley 63 = .ok (.getfield 37, 3) := by decide +kernel
theorem dX12_valley_66 : decode cX12_valley 66 = .ok (.iconst 4, 1) := by decide +kernel
theorem dX12_valley_67 : decode cX12_valley 67 = .ok (.bipush 99, 2) := by decide +kernel
theorem dX12_valley_69 : decode cX12_valley 69 = .ok (.iastore, 1) := by decide +kernel
theorem dX12_valley_70 : decode cX12_valley 70 = .ok (.aload_n 0, 1) := by decide +kernel
theorem dX12_valley_71 : decode cX12_valley 71 = .ok (.invokevirtual 188, 3) := by decide +kernel
theorem dX12_valley_74 : decode cX12_valley 74 = .ok (.aload_n 0, 1) := by decide +kernel
theorem dX12_valley_75 : decode cX12_valley 75 = .ok (.getfield 159, 3) := by decide +kernel
theorem dX12_valley_78 : decode cX12_valley 78 = .ok (.ifCond .eq 39, 3) := by decide +kernel
theorem dX12_valley_81 : decode cX12_valley 81 = .ok (.aload_n 0, 1) := by decide +kernel
theorem dX12_valley_82 : decode cX12_valley 82 = .ok (.invokevirtual 250, 3) := by decide +kernel
theorem dX12_valley_85 : decode cX12_valley 85 = .ok (.ifCond .eq 12, 3) := by decide +kernel
theorem dX12_valley_88 : decode cX12_valley 88 = .ok (.aload_n 0, 1) := by decide +kernel
theorem dX12_valley_89 : decode cX12_valley 89 = .ok (.bipush 59, 2) := by decide +kernel
theorem dX12_valley_91 : decode cX12_valley 91 = .ok (.invokevirtual 253, 3) := by decide +kernel
theorem dX12_valley_94 : decode cX12_valley 94 = .ok (.ifCond .ne 10, 3) := by decide +kernel
theorem dX12_valley_97 : decode cX12_valley 97 = .ok (.iconst (-1), 1) := by decide +kernel
theorem dX12_valley_98 : decode cX12_valley 98 = .ok (.aload_n 0, 1) := by decide +kernel
theorem dX12_valley_99 : decode cX12_valley 99 = .ok (.getfield 179, 3) := by decide +kernel
theorem dX12_valley_102 : decode cX12_valley 102 = .ok (.isub, 1) := by decide +kernel
theorem dX12_valley_103 : decode cX12_valley 103 = .ok (.ireturn, 1) := by decide +kernel
theorem dX12_valley_104 : decode cX12_valley 104 = .ok (.aload_n 0, 1) := by decide +kernel
theorem dX12_valley_105 : decode cX12_valley 105 = .ok (.dup, 1) := by decide +kernel
theorem dX12_valley_106 : decode cX12_valley 106 = .ok (.getfield 247, 3) := by decide +kernel
theorem dX12_valley_109 : decode cX12_valley 109 = .ok (.iconst 1, 1) := by decide +kernel
theorem dX12_valley_110 : decode cX12_valley 110 = .ok (.iadd, 1) := by decide +kernel
theorem dX12_valley_111 : decode cX12_valley 111 = .ok (.putfield 247, 3) := by decide +kernel
theorem dX12_valley_114 : decode cX12_valley 114 = .ok (.goto (-40), 3) := by decide +kernel
theorem dX12_valley_117 : decode cX12_valley 117 = .ok (.iconst 0, 1) := by decide +kernel
theorem dX12_valley_118 : decode cX12_valley 118 = .ok (.istore_n 1, 1) := by decide +kernel
theorem dX12_valley_119 : decode cX12_valley 119 = .ok (.iload_n 1, 1) := by decide +kernel
theorem dX12_valley_120 : decode cX12_valley 120 = .ok (.sipush 427, 3) := by decide +kernel
theorem dX12_valley_123 : decode cX12_valley 123 = .ok (.if_icmp .ge 32, 3) := by decide +kernel
theorem dX12_valley_126 : decode cX12_valley 126 = .ok (.aload_n 0, 1) := by decide +kernel
theorem dX12_valley_127 : decode cX12_valley 127 = .ok (.getfield 33, 3) := by decide +kernel
theorem dX12_valley_130 : decode cX12_valley 130 = .ok (.iload_n 1, 1) := by decide +kernel
theorem dX12_valley_131 : decode cX12_valley 131 = .ok (.iload_n 1, 1) := by decide +kernel
theorem dX12_valley_132 : decode cX12_valley 132 = .ok (.sipush 211, 3) := by decide +kernel
theorem dX12_valley_135 : decode cX12_valley 135 = .ok (.if_icmp .ge 12, 3) := by decide +kernel
theorem dX12_valley_138 : decode cX12_valley 138 = .ok (.aload_n 0, 1) := by decide +kernel
theorem dX12_valley_139 : decode cX12_valley 139 = .ok (.getfield 37, 3) := by decide +kernel
theorem dX12_valley_142 : decode cX12_valley 142 = .ok (.iload_n 1, 1) := by decide +kernel
theorem dX12_valley_143 : decode cX12_valley 143 = .ok (.iaload, 1) := by decide +kernel
theorem dX12_valley_144 : decode cX12_valley 144 = .ok (.goto 4, 3) := by decide +kernel
theorem dX12_valley_147 : decode cX12_valley 147 = .ok (.iconst 0, 1) := by decide +kernel
theorem dX12_valley_148 : decode cX12_valley 148 = .ok (.iastore, 1) := by decide +kernel
theorem dX12_valley_149 : decode cX12_valley 149 = .ok (.iinc 1 1, 3) := by decide +kernel
theorem dX12_valley_152 : decode cX12_valley 152 = .ok (.goto (-33), 3) := by decide +kernel
theorem dX12_valley_155 : decode cX12_valley 155 = .ok (.iconst 0, 1) := by decide +kernel
theorem dX12_valley_156 : decode cX12_valley 156 = .ok (.istore_n 1, 1) := by decide +kernel
theorem dX12_valley_157 : decode cX12_valley 157 = .ok (.iload_n 1, 1) := by decide +kernel
theorem dX12_valley_158 : decode cX12_valley 158 = .ok (.bipush 16, 2) := by decide +kernel
theorem dX12_valley_160 : decode cX12_valley 160 = .ok (.if_icmp .ge 24, 3) := by decide +kernel
theorem dX12_valley_163 : decode cX12_valley 163 = .ok (.aload_n 0, 1) := by decide +kernel
theorem dX12_valley_164 : decode cX12_valley 164 = .ok (.getfield 43, 3) := by decide +kernel
theorem dX12_valley_167 : decode cX12_valley 167 = .ok (.iload_n 1, 1) := by decide +kernel
theorem dX12_valley_168 : decode cX12_valley 168 = .ok (.aload_n 0, 1) := by decide +kernel
theorem dX12_valley_169 : decode cX12_valley 169 = .ok (.getfield 43, 3) := by decide +kernel
theorem dX12_valley_172 : decode cX12_valley 172 = .ok (.bipush 16, 2) := by decide +kernel
theorem dX12_valley_174 : decode cX12_valley 174 = .ok (.iload_n 1, 1) := by decide +kernel
theorem dX12_valley_175 : decode cX12_valley 175 = .ok (.iadd, 1) := by decide +kernel
theorem dX12_valley_176 : decode cX12_valley 176 = .ok (.laload, 1) := by decide +kernel
theorem dX12_valley_177 : decode cX12_valley 177 = .ok (.lastore, 1) := by decide +kernel
theorem dX12_valley_178 : decode cX12_valley 178 = .ok (.iinc 1 1, 3) := by decide +kernel
theorem dX12_valley_181 : decode cX12_valley 181 = .ok (.goto (-24), 3) := by decide +kernel
theorem dX12_valley_184 : decode cX12_valley 184 = .ok (.iconst 0, 1) := by decide +kernel
theorem dX12_valley_185 : decode cX12_valley 185 = .ok (.istore_n 1, 1) := by decide +kernel
theorem dX12_valley_186 : decode cX12_valley 186 = .ok (.iload_n 1, 1) := by decide +kernel
theorem dX12_valley_187 : decode cX12_valley 187 = .ok (.bipush 8, 2) := by decide +kernel
theorem dX12_valley_189 : decode cX12_valley 189 = .ok (.if_icmp .ge 47, 3) := by decide +kernel
theorem dX12_valley_192 : decode cX12_valley 192 = .ok (.aload_n 0, 1) := by decide +kernel
theorem dX12_valley_193 : decode cX12_valley 193 = .ok (.getfield 33, 3) := by decide +kernel
theorem dX12_valley_196 : decode cX12_valley 196 = .ok (.sipush 214, 3) := by decide +kernel
theorem dX12_valley_199 : decode cX12_valley 199 = .ok (.iload_n 1, 1) := by decide +kernel
theorem dX12_valley_200 : decode cX12_valley 200 = .ok (.iadd, 1) := by decide +kernel
theorem dX12_valley_201 : decode cX12_valley 201 = .ok (.aload_n 0, 1) := by decide +kernel
theorem dX12_valley_202 : decode cX12_valley 202 = .ok (.getfield 33, 3) := by decide +kernel
theorem dX12_valley_205 : decode cX12_valley 205 = .ok (.bipush 31, 2) := by decide +kernel
theorem dX12_valley_207 : decode cX12_valley 207 = .ok (.iload_n 1, 1) := by decide +kernel
theorem dX12_valley_208 : decode cX12_valley 208 = .ok (.iadd, 1) := by decide +kernel
theorem dX12_valley_209 : decode cX12_valley 209 = .ok (.iaload, 1) := by decide +kernel
theorem dX12_valley_210 : decode cX12_valley 210 = .ok (.iastore, 1) := by decide +kernel
theorem dX12_valley_211 : decode cX12_valley 211 = .ok (.aload_n 0, 1) := by decide +kernel
theorem dX12_valley_212 : decode cX12_valley 212 = .ok (.getfield 33, 3) := by decide +kernel
theorem dX12_valley_215 : decode cX12_valley 215 = .ok (.sipush 222, 3) := by decide +kernel
theorem dX12_valley_218 : decode cX12_valley 218 = .ok (.iload_n 1, 1) := by decide +kernel
theorem dX12_valley_219 : decode cX12_valley 219 = .ok (.iadd, 1) := by decide +kernel
theorem dX12_valley_220 : decode cX12_valley 220 = .ok (.aload_n 0, 1) := by decide +kernel
theorem dX12_valley_221 : decode cX12_valley 221 = .ok (.getfield 33, 3) := by decide +kernel
theorem dX12_valley_224 : decode cX12_valley 224 = .ok (.bipush 47, 2) := by decide +kernel
theorem dX12_valley_226 : decode cX12_valley 226 = .ok (.iload_n 1, 1) := by decide +kernel
theorem dX12_valley_227 : decode cX12_valley 227 = .ok (.iadd, 1) := by decide +kernel
theorem dX12_valley_228 : decode cX12_valley 228 = .ok (.iaload, 1) := by decide +kernel
theorem dX12_valley_229 : decode cX12_valley 229 = .ok (.iastore, 1) := by decide +kernel
theorem dX12_valley_230 : decode cX12_valley 230 = .ok (.iinc 1 1, 3) := by decide +kernel
theorem dX12_valley_233 : decode cX12_valley 233 = .ok (.goto (-47), 3) := by decide +kernel
theorem dX12_valley_236 : decode cX12_valley 236 = .ok (.aload_n 0, 1) := by decide +kernel
theorem dX12_valley_237 : decode cX12_valley 237 = .ok (.iconst 0, 1) := by decide +kernel
theorem dX12_valley_238 : decode cX12_valley 238 = .ok (.putfield 256, 3) := by decide +kernel
theorem dX12_valley_241 : decode cX12_valley 241 = .ok (.aload_n 0, 1) := by decide +kernel
theorem dX12_valley_242 : decode cX12_valley 242 = .ok (.getfield 247, 3) := by decide +kernel
theorem dX12_valley_245 : decode cX12_valley 245 = .ok (.ireturn, 1) := by decide +kernel
theorem dX12_fault_0 : decode cX12_fault 0 = .ok (.aload_n 0, 1) := by decide +kernel
theorem dX12_fault_1 : decode cX12_fault 1 = .ok (.iconst 0, 1) := by decide +kernel
theorem dX12_fault_2 : decode cX12_fault 2 = .ok (.putfield 1, 3) := by decide +kernel
theorem dX12_fault_5 : decode cX12_fault 5 = .ok (.aload_n 0, 1) := by decide +kernel
theorem dX12_fault_6 : decode cX12_fault 6 = .ok (.getfield 176, 3) := by decide +kernel
theorem dX12_fault_9 : decode cX12_fault 9 = .ok (.ireturn, 1) := by decide +kernel
set_option maxRecDepth 20000 in
theorem ggX12_isHill_X12_isIn : GoodIn wsX12_isHill wsX12_isIn := goodIn_r _ [5] (by decide +kernel) (by decide +kernel)
set_option maxRecDepth 20000 in
theorem gX12_isHill_X12_isIn : GoodIn wsX12_isHill (va_wsS RX12 191 yX12_isIn wsX12_isIn) := goodIn_app (goodIn_of _ (by decide +kernel)) ggX12_isHill_X12_isIn
theorem dX12_isHill_0 : decode cX12_isHill 0 = .ok (.iload_n 1, 1) := by decide +kernel
theorem dX12_isHill_1 : decode cX12_isHill 1 = .ok (.iconst 0, 1) := by decide +kernel
theorem dX12_isHill_2 : decode cX12_isHill 2 = .ok (.aload_n 0, 1) := by decide +kernel
theorem dX12_isHill_3 : decode cX12_isHill 3 = .ok (.getfield 33, 3) := by decide +kernel
theorem dX12_isHill_6 : decode cX12_isHill 6 = .ok (.iconst 0, 1) := by decide +kernel
theorem dX12_isHill_7 : decode cX12_isHill 7 = .ok (.iaload, 1) := by decide +kernel
theorem dX12_isHill_8 : decode cX12_isHill 8 = .ok (.iconst 1, 1) := by decide +kernel
theorem dX12_isHill_9 : decode cX12_isHill 9 = .ok (.isub, 1) := by decide +kernel
theorem dX12_isHill_10 : decode cX12_isHill 10 = .ok (.invokestatic 191, 3) := by decide +kernel
theorem dX12_isHill_13 : decode cX12_isHill 13 = .ok (.ireturn, 1) := by decide +kernel
set_option maxRecDepth 20000 in
theorem ggX12_isMan_X12_isIn : GoodIn wsX12_isMan wsX12_isIn := goodIn_r _ [5] (by decide +kernel) (by decide +kernel)
set_option maxRecDepth 20000 in
theorem gX12_isMan_X12_isIn : GoodIn wsX12_isMan (va_wsS RX12 191 yX12_isIn wsX12_isIn) := goodIn_app (goodIn_of _ (by decide +kernel)) ggX12_isMan_X12_isIn
theorem dX12_isMan_0 : decode cX12_isMan 0 = .ok (.iload_n 1, 1) := by decide +kernel
theorem dX12_isMan_1 : decode cX12_isMan 1 = .ok (.iconst 0, 1) := by decide +kernel
theorem dX12_isMan_2 : decode cX12_isMan 2 = .ok (.aload_n 0, 1) := by decide +kernel
theorem dX12_isMan_3 : decode cX12_isMan 3 = .ok (.getfield 33, 3) := by decide +kernel
theorem dX12_isMan_6 : decode cX12_isMan 6 = .ok (.iconst 1, 1) := by decide +kernel
theorem dX12_isMan_7 : decode cX12_isMan 7 = .ok (.iaload, 1) := by decide +kernel
theorem dX12_isMan_8 : decode cX12_isMan 8 = .ok (.iconst 1, 1) := by decide +kernel
theorem dX12_isMan_9 : decode cX12_isMan 9 = .ok (.isub, 1) := by decide +kernel
theorem dX12_isMan_10 : decode cX12_isMan 10 = .ok (.invokestatic 191, 3) := by decide +kernel
theorem dX12_isMan_13 : decode cX12_isMan 13 = .ok (.ireturn, 1) := by decide +kernel
set_option maxRecDepth 20000 in
theorem ggX12_isFlight_X12_isIn : GoodIn wsX12_isFlight wsX12_isIn := goodIn_r _ [5] (by decide +kernel) (by decide +kernel)
set_option maxRecDepth 20000 in
theorem gX12_isFlight_X12_isIn : GoodIn wsX12_isFlight (va_wsS RX12 191 yX12_isIn wsX12_isIn) := goodIn_app (goodIn_of _ (by decide +kernel)) ggX12_isFlight_X12_isIn
theorem dX12_isFlight_0 : decode cX12_isFlight 0 = .ok (.iload_n 1, 1) := by decide +kernel
theorem dX12_isFlight_1 : decode cX12_isFlight 1 = .ok (.iconst 0, 1) := by decide +kernel
theorem dX12_isFlight_2 : decode cX12_isFlight 2 = .ok (.aload_n 0, 1) := by decide +kernel
theorem dX12_isFlight_3 : decode cX12_isFlight 3 = .ok (.getfield 33, 3) := by decide +kernel
theorem dX12_isFlight_6 : decode cX12_isFlight 6 = .ok (.iconst 2, 1) := by decide +kernel
theorem dX12_isFlight_7 : decode cX12_isFlight 7 = .ok (.iaload, 1) := by decide +kernel
theorem dX12_isFlight_8 : decode cX12_isFlight 8 = .ok (.iconst 1, 1) := by decide +kernel
theorem dX12_isFlight_9 : decode cX12_isFlight 9 = .ok (.isub, 1) := by decide +kernel
theorem dX12_isFlight_10 : decode cX12_isFlight 10 = .ok (.invokestatic 191, 3) := by decide +kernel
theorem dX12_isFlight_13 : decode cX12_isFlight 13 = .ok (.ireturn, 1) := by decide +kernel
set_option maxRecDepth 20000 in
theorem ggX12_isCall_X12_isFlight : GoodIn wsX12_isCall wsX12_isFlight := goodIn_r _ [6, 1, 7, 8, 5, 9, 10, 11, 12, 13, 14, 15, 16, 17, 18, 19, 20, 21, 22, 23, 24, 25, 26, 27, 28, 29, 30, 31, 32, 33, 34, 35, 36, 37, 38, 39, 40, 41, 42, 43, 44, 45, 46, 47, 48, 49, 50, 51, 52, 53, 54, 55, 56] (by decide +kernel) (by decide +kernel)
set_option maxRecDepth 20000 in
theorem gX12_isCall_X12_isFlight : GoodIn wsX12_isCall (wsV RX12 259 RX12 yX12_isFlight wsX12_isFlight) := goodIn_app (goodIn_of _ (by decide +kernel)) ggX12_isCall_X12_isFlight
set_option maxRecDepth 20000 in
theorem ggX12_isCall_X12_isIn : GoodIn wsX12_isCall wsX12_isIn := goodIn_r _ [9] (by decide +kernel) (by decide +kernel)
set_option maxRecDepth 20000 in
theorem gX12_isCall_X12_isIn : GoodIn wsX12_isCall (va_wsS RX12 191 yX12_isIn wsX12_isIn) := goodIn_app (goodIn_of _ (by decide +kernel)) ggX12_isCall_X12_isIn
theorem dX12_isCall_0 : decode cX12_isCall 0 = .ok (.aload_n 0, 1) := by decide +kernel
theorem dX12_isCall_1 : decode cX12_isCall 1 = .ok (.iload_n 1, 1) := by decide +kernel
theorem dX12_isCall_2 : decode cX12_isCall 2 = .ok (.invokevirtual 259, 3) := by decide +kernel
theorem dX12_isCall_5 : decode cX12_isCall 5 = .ok (.ifCond .eq 26, 3) := by decide +kernel
theorem dX12_isCall_8 : decode cX12_isCall 8 = .ok (.iload_n 2, 1) := by decide +kernel
theorem dX12_isCall_9 : decode cX12_isCall 9 = .ok (.iconst 0, 1) := by decide +kernel
theorem dX12_isCall_10 : decode cX12_isCall 10 = .ok (.aload_n 0, 1) := by decide +kernel
theorem dX12_isCall_11 : decode cX12_isCall 11 = .ok (.getfield 33, 3) := by decide +kernel
theorem dX12_isCall_14 : decode cX12_isCall 14 = .ok (.bipush 87, 2) := by decide +kernel
theorem dX12_isCall_16 : decode cX12_isCall 16 = .ok (.iload_n 1, 1) := by decide +kernel
theorem dX12_isCall_17 : decode cX12_isCall 17 = .ok (.iadd, 1) := by decide +kernel
theorem dX12_isCall_18 : decode cX12_isCall 18 = .ok (.iaload, 1) := by decide +kernel
theorem dX12_isCall_19 : decode cX12_isCall 19 = .ok (.iconst 1, 1) := by decide +kernel
theorem dX12_isCall_20 : decode cX12_isCall 20 = .ok (.isub, 1) := by decide +kernel
theorem dX12_isCall_21 : decode cX12_isCall 21 = .ok (.invokestatic 191, 3) := by decide +kernel
theorem dX12_isCall_24 : decode cX12_isCall 24 = .ok (.ifCond .eq 7, 3) := by decide +kernel
theorem dX12_isCall_27 : decode cX12_isCall 27 = .ok (.iconst 1, 1) := by decide +kernel
theorem dX12_isCall_28 : decode cX12_isCall 28 = .ok (.goto 4, 3) := by decide +kernel
theorem dX12_isCall_31 : decode cX12_isCall 31 = .ok (.iconst 0, 1) := by decide +kernel
theorem dX12_isCall_32 : decode cX12_isCall 32 = .ok (.ireturn, 1) := by decide +kernel
theorem dX12_valleyOf_0 : decode cX12_valleyOf 0 = .ok (.iload_n 1, 1) := by decide +kernel
theorem dX12_valleyOf_1 : decode cX12_valleyOf 1 = .ok (.aload_n 0, 1) := by decide +kernel
theorem dX12_valleyOf_2 : decode cX12_valleyOf 2 = .ok (.getfield 33, 3) := by decide +kernel
theorem dX12_valleyOf_5 : decode cX12_valleyOf 5 = .ok (.iconst 3, 1) := by decide +kernel
theorem dX12_valleyOf_6 : decode cX12_valleyOf 6 = .ok (.iaload, 1) := by decide +kernel
theorem dX12_valleyOf_7 : decode cX12_valleyOf 7 = .ok (.if_icmp .le 7, 3) := by decide +kernel
theorem dX12_valleyOf_10 : decode cX12_valleyOf 10 = .ok (.iconst 1, 1) := by decide +kernel
theorem dX12_valleyOf_11 : decode cX12_valleyOf 11 = .ok (.goto 4, 3) := by decide +kernel
theorem dX12_valleyOf_14 : decode cX12_valleyOf 14 = .ok (.iconst 0, 1) := by decide +kernel
theorem dX12_valleyOf_15 : decode cX12_valleyOf 15 = .ok (.ireturn, 1) := by decide +kernel
set_option maxRecDepth 20000 in
theorem ggX12_hill_X12_isHill : GoodIn wsX12_hill wsX12_isHill := goodIn_r _ [7, 2, 8, 9, 6, 10, 15, 16, 17, 18, 19, 20, 21, 22, 23, 24, 25, 26, 27, 28, 29, 30, 31, 32, 33, 34, 35, 36, 37, 38, 39, 40, 41, 42, 43, 44, 45, 46, 47, 48, 49, 50, 51, 52, 53, 54, 55, 56, 57, 58, 59, 60, 61] (by decide +kernel) (by decide +kernel)
set_option maxRecDepth 20000 in
theorem gX12_hill_X12_isHill : GoodIn wsX12_hill (wsV RX12 262 RX12 yX12_isHill wsX12_isHill) := goodIn_app (goodIn_of _ (by decide +kernel)) ggX12_hill_X12_isHill
set_option maxRecDepth 20000 in
theorem ggX12_hill_X12_valleyOf : GoodIn wsX12_hill wsX12_valleyOf := goodIn_r _ [14, 2, 15, 16, 17, 18, 19, 20, 21, 22, 23, 24, 25, 26, 27, 28, 29, 30, 31, 32, 33, 34, 35, 36, 37, 38, 39, 40, 41, 42, 43, 44, 45, 46, 47, 48, 49, 50, 51, 52, 53, 54, 55, 56, 57, 58, 59, 60, 61] (by decide +kernel) (by decide +kernel)
set_option maxRecDepth 20000 in
theorem gX12_hill_X12_valleyOf : GoodIn wsX12_hill (wsV RX12 265 RX12 yX12_valleyOf wsX12_valleyOf) := goodIn_app (goodIn_of _ (by decide +kernel)) ggX12_hill_X12_valleyOf
theorem dX12_hill_0 : decode cX12_hill 0 = .ok (.aload_n 0, 1) := by decide +kernel
theorem dX12_hill_1 : decode cX12_hill 1 = .ok (.iconst 0, 1) := by decide +kernel
theorem dX12_hill_2 : decode cX12_hill 2 = .ok (.putfield 1, 3) := by decide +kernel
theorem dX12_hill_5 : decode cX12_hill 5 = .ok (.aload_n 0, 1) := by decide +kernel
theorem dX12_hill_6 : decode cX12_hill 6 = .ok (.iload_n 1, 1) := by decide +kernel
theorem dX12_hill_7 : decode cX12_hill 7 = .ok (.invokevirtual 262, 3) := by decide +kernel
theorem dX12_hill_10 : decode cX12_hill 10 = .ok (.ifCond .ne 5, 3) := by decide +kernel
theorem dX12_hill_13 : decode cX12_hill 13 = .ok (.iconst (-1), 1) := by decide +kernel
theorem dX12_hill_14 : decode cX12_hill 14 = .ok (.ireturn, 1) := by decide +kernel
theorem dX12_hill_15 : decode cX12_hill 15 = .ok (.iconst 0, 1) := by decide +kernel
theorem dX12_hill_16 : decode cX12_hill 16 = .ok (.istore_n 3, 1) := by decide +kernel
theorem dX12_hill_17 : decode cX12_hill 17 = .ok (.iconst 0, 1) := by decide +kernel
theorem dX12_hill_18 : decode cX12_hill 18 = .ok (.istore 4, 2) := by decide +kernel
theorem dX12_hill_20 : decode cX12_hill 20 = .ok (.iload 4, 2) := by decide +kernel
theorem dX12_hill_22 : decode cX12_hill 22 = .ok (.aload_n 0, 1) := by decide +kernel
theorem dX12_hill_23 : decode cX12_hill 23 = .ok (.getfield 33, 3) := by decide +kernel
theorem dX12_hill_26 : decode cX12_hill 26 = .ok (.iconst 1, 1) := by decide +kernel
theorem dX12_hill_27 : decode cX12_hill 27 = .ok (.iaload, 1) := by decide +kernel
theorem dX12_hill_28 : decode cX12_hill 28 = .ok (.if_icmp .ge 35, 3) := by decide +kernel
theorem dX12_hill_31 : decode cX12_hill 31 = .ok (.iload_n 3, 1) := by decide +kernel
theorem dX12_hill_32 : decode cX12_hill 32 = .ok (.aload_n 0, 1) := by decide +kernel
theorem dX12_hill_33 : decode cX12_hill 33 = .ok (.getfield 33, 3) := by decide +kernel
theorem dX12_hill_36 : decode cX12_hill 36 = .ok (.sipush 214, 3) := by decide +kernel
theorem dX12_hill_39 : decode cX12_hill 39 = .ok (.iload 4, 2) := by decide +kernel
theorem dX12_hill_41 : decode cX12_hill 41 = .ok (.iadd, 1) := by decide +kernel
theorem dX12_hill_42 : decode cX12_hill 42 = .ok (.iaload, 1) := by decide +kernel
theorem dX12_hill_43 : decode cX12_hill 43 = .ok (.iload_n 1, 1) := by decide +kernel
theorem dX12_hill_44 : decode cX12_hill 44 = .ok (.if_icmp .ne 10, 3) := by decide +kernel
theorem dX12_hill_47 : decode cX12_hill 47 = .ok (.iconst 1, 1) := by decide +kernel
theorem dX12_hill_48 : decode cX12_hill 48 = .ok (.iload 4, 2) := by decide +kernel
theorem dX12_hill_50 : decode cX12_hill 50 = .ok (.ishl, 1) := by decide +kernel
theorem dX12_hill_51 : decode cX12_hill 51 = .ok (.goto 4, 3) := by decide +kernel
theorem dX12_hill_54 : decode cX12_hill 54 = .ok (.iconst 0, 1) := by decide +kernel
theorem dX12_hill_55 : decode cX12_hill 55 = .ok (.ior, 1) := by decide +kernel
theorem dX12_hill_56 : decode cX12_hill 56 = .ok (.istore_n 3, 1) := by decide +kernel
theorem dX12_hill_57 : decode cX12_hill 57 = .ok (.iinc 4 1, 3) := by decide +kernel
theorem dX12_hill_60 : decode cX12_hill 60 = .ok (.goto (-40), 3) := by decide +kernel
theorem dX12_hill_63 : decode cX12_hill 63 = .ok (.iload_n 2, 1) := by decide +kernel
theorem dX12_hill_64 : decode cX12_hill 64 = .ok (.tableswitch 82 0 4 #[36, 46, 56, 66, 80], 36) := by decide +kernel
theorem dX12_hill_100 : decode cX12_hill 100 = .ok (.aload_n 0, 1) := by decide +kernel
theorem dX12_hill_101 : decode cX12_hill 101 = .ok (.getfield 33, 3) := by decide +kernel
theorem dX12_hill_104 : decode cX12_hill 104 = .ok (.bipush 7, 2) := by decide +kernel
theorem dX12_hill_106 : decode cX12_hill 106 = .ok (.iload_n 1, 1) := by decide +kernel
theorem dX12_hill_107 : decode cX12_hill 107 = .ok (.iadd, 1) := by decide +kernel
theorem dX12_hill_108 : decode cX12_hill 108 = .ok (.iaload, 1) := by decide +kernel
theorem dX12_hill_109 : decode cX12_hill 109 = .ok (.ireturn, 1) := by decide +kernel
theorem dX12_hill_110 : decode cX12_hill 110 = .ok (.aload_n 0, 1) := by decide +kernel
theorem dX12_hill_111 : decode cX12_hill 111 = .ok (.getfield 33, 3) := by decide +kernel
theorem dX12_hill_114 : decode cX12_hill 114 = .ok (.bipush 15, 2) := by decide +kernel
theorem dX12_hill_116 : decode cX12_hill 116 = .ok (.iload_n 1, 1) := by decide +kernel
theorem dX12_hill_117 : decode cX12_hill 117 = .ok (.iadd, 1) := by decide +kernel
theorem dX12_hill_118 : decode cX12_hill 118 = .ok (.iaload, 1) := by decide +kernel
theorem dX12_hill_119 : decode cX12_hill 119 = .ok (.ireturn, 1) := by decide +kernel
theorem dX12_hill_120 : decode cX12_hill 120 = .ok (.aload_n 0, 1) := by decide +kernel
theorem dX12_hill_121 : decode cX12_hill 121 = .ok (.getfield 33, 3) := by decide +kernel
theorem dX12_hill_124 : decode cX12_hill 124 = .ok (.bipush 23, 2) := by decide +kernel
theorem dX12_hill_126 : decode cX12_hill 126 = .ok (.iload_n 1, 1) := by decide +kernel
theorem dX12_hill_127 : decode cX12_hill 127 = .ok (.iadd, 1) := by decide +kernel
theorem dX12_hill_128 : decode cX12_hill 128 = .ok (.iaload, 1) := by decide +kernel
theorem dX12_hill_129 : decode cX12_hill 129 = .ok (.ireturn, 1) := by decide +kernel
theorem dX12_hill_130 : decode cX12_hill 130 = .ok (.aload_n 0, 1) := by decide +kernel
theorem dX12_hill_131 : decode cX12_hill 131 = .ok (.aload_n 0, 1) := by decide +kernel
theorem dX12_hill_132 : decode cX12_hill 132 = .ok (.getfield 33, 3) := by decide +kernel
theorem dX12_hill_135 : decode cX12_hill 135 = .ok (.bipush 7, 2) := by decide +kernel
theorem dX12_hill_137 : decode cX12_hill 137 = .ok (.iload_n 1, 1) := by decide +kernel
theorem dX12_hill_138 : decode cX12_hill 138 = .ok (.iadd, 1) := by decide +kernel
theorem dX12_hill_139 : decode cX12_hill 139 = .ok (.iaload, 1) := by decide +kernel
theorem dX12_hill_140 : decode cX12_hill 140 = .ok (.invokevirtual 265, 3) := by decide +kernel
theorem dX12_hill_143 : decode cX12_hill 143 = .ok (.ireturn, 1) := by decide +kernel
theorem dX12_hill_144 : decode cX12_hill 144 = .ok (.iload_n 3, 1) := by decide +kernel
theorem dX12_hill_145 : decode cX12_hill 145 = .ok (.ireturn, 1) := by decide +kernel
theorem dX12_hill_146 : decode cX12_hill 146 = .ok (.iconst (-1), 1) := by decide +kernel
theorem dX12_hill_147 : decode cX12_hill 147 = .ok (.ireturn, 1) := by decide +kernel
set_option maxRecDepth 20000 in
theorem ggX12_man_X12_isMan : GoodIn wsX12_man wsX12_isMan := goodIn_r _ [6, 1, 7, 8, 5, 9, 15, 16, 17, 18, 19, 20, 21, 22, 23, 24, 25, 26, 27, 28, 29, 30, 31, 32, 33, 34, 35, 36, 37, 38, 39, 40, 41, 42, 43, 44, 45, 46, 47, 48, 49, 50, 51, 52, 53, 54, 55, 56, 57, 58, 59, 60, 61] (by decide +kernel) (by decide +kernel)
set_option maxRecDepth 20000 in
theorem gX12_man_X12_isMan : GoodIn wsX12_man (wsV RX12 269 RX12 yX12_isMan wsX12_isMan) := goodIn_app (goodIn_of _ (by decide +kernel)) ggX12_man_X12_isMan
set_option maxRecDepth 20000 in
theorem ggX12_man_X12_isIn : GoodIn wsX12_man wsX12_isIn := goodIn_r _ [9] (by decide +kernel) (by decide +kernel)
set_option maxRecDepth 20000 in
theorem gX12_man_X12_isIn : GoodIn wsX12_man (va_wsS RX12 191 yX12_isIn wsX12_isIn) := goodIn_app (goodIn_of _ (by decide +kernel)) ggX12_man_X12_isIn
set_option maxRecDepth 20000 in
theorem ggX12_man_X12_throwsIf : GoodIn wsX12_man wsX12_throwsIf := goodIn_r _ [13, 14, 15, 16, 17, 18, 19, 20, 21, 22, 23, 24, 25, 26, 27, 28, 29, 30, 31, 32, 33, 34, 35, 36, 37, 38, 39, 40, 41, 42, 43, 44, 45, 46, 47, 48, 49, 50, 51, 52, 53, 54, 55, 56, 57, 58, 59, 60, 61] (by decide +kernel) (by decide +kernel)
set_option maxRecDepth 20000 in
theorem gX12_man_X12_throwsIf : GoodIn wsX12_man (wsV RX12 272 RX12 yX12_throwsIf wsX12_throwsIf) := goodIn_app (goodIn_of _ (by decide +kernel)) ggX12_man_X12_throwsIf
theorem dX12_man_0 : decode cX12_man 0 = .ok (.aload_n 0, 1) := by decide +kernel
theorem dX12_man_1 : decode cX12_man 1 = .ok (.aload_n 0, 1) := by decide +kernel
theorem dX12_man_2 : decode cX12_man 2 = .ok (.iload_n 1, 1) := by decide +kernel
theorem dX12_man_3 : decode cX12_man 3 = .ok (.invokevirtual 269, 3) := by decide +kernel
theorem dX12_man_6 : decode cX12_man 6 = .ok (.ifCond .eq 13, 3) := by decide +kernel
theorem dX12_man_9 : decode cX12_man 9 = .ok (.iload_n 2, 1) := by decide +kernel
theorem dX12_man_10 : decode cX12_man 10 = .ok (.iconst 0, 1) := by decide +kernel
theorem dX12_man_11 : decode cX12_man 11 = .ok (.bipush 7, 2) := by decide +kernel
theorem dX12_man_13 : decode cX12_man 13 = .ok (.invokestatic 191, 3) := by decide +kernel
theorem dX12_man_16 : decode cX12_man 16 = .ok (.ifCond .ne 7, 3) := by decide +kernel
theorem dX12_man_19 : decode cX12_man 19 = .ok (.iconst 1, 1) := by decide +kernel
theorem dX12_man_20 : decode cX12_man 20 = .ok (.goto 4, 3) := by decide +kernel
theorem dX12_man_23 : decode cX12_man 23 = .ok (.iconst 0, 1) := by decide +kernel
theorem dX12_man_24 : decode cX12_man 24 = .ok (.invokevirtual 272, 3) := by decide +kernel
theorem dX12_man_27 : decode cX12_man 27 = .ok (.ifCond .eq 5, 3) := by decide +kernel
theorem dX12_man_30 : decode cX12_man 30 = .ok (.iconst 0, 1) := by decide +kernel
theorem dX12_man_31 : decode cX12_man 31 = .ok (.ireturn, 1) := by decide +kernel
theorem dX12_man_32 : decode cX12_man 32 = .ok (.iload_n 2, 1) := by decide +kernel
theorem dX12_man_33 : decode cX12_man 33 = .ok (.tableswitch 121 0 6 #[43, 54, 64, 75, 85, 97, 110], 43) := by decide +kernel
theorem dX12_man_76 : decode cX12_man 76 = .ok (.aload_n 0, 1) := by decide +kernel
theorem dX12_man_77 : decode cX12_man 77 = .ok (.getfield 33, 3) := by decide +kernel
theorem dX12_man_80 : decode cX12_man 80 = .ok (.sipush 214, 3) := by decide +kernel
theorem dX12_man_83 : decode cX12_man 83 = .ok (.iload_n 1, 1) := by decide +kernel
theorem dX12_man_84 : decode cX12_man 84 = .ok (.iadd, 1) := by decide +kernel
theorem dX12_man_85 : decode cX12_man 85 = .ok (.iaload, 1) := by decide +kernel
theorem dX12_man_86 : decode cX12_man 86 = .ok (.ireturn, 1) := by decide +kernel
theorem dX12_man_87 : decode cX12_man 87 = .ok (.aload_n 0, 1) := by decide +kernel
theorem dX12_man_88 : decode cX12_man 88 = .ok (.getfield 33, 3) := by decide +kernel
theorem dX12_man_91 : decode cX12_man 91 = .ok (.bipush 39, 2) := by decide +kernel
theorem dX12_man_93 : decode cX12_man 93 = .ok (.iload_n 1, 1) := by decide +kernel
theorem dX12_man_94 : decode cX12_man 94 = .ok (.iadd, 1) := by decide +kernel
theorem dX12_man_95 : decode cX12_man 95 = .ok (.iaload, 1) := by decide +kernel
theorem dX12_man_96 : decode cX12_man 96 = .ok (.ireturn, 1) := by decide +kernel
theorem dX12_man_97 : decode cX12_man 97 = .ok (.aload_n 0, 1) := by decide +kernel
theorem dX12_man_98 : decode cX12_man 98 = .ok (.getfield 33, 3) := by decide +kernel
theorem dX12_man_101 : decode cX12_man 101 = .ok (.sipush 222, 3) := by decide +kernel
theorem dX12_man_104 : decode cX12_man 104 = .ok (.iload_n 1, 1) := by decide +kernel
theorem dX12_man_105 : decode cX12_man 105 = .ok (.iadd, 1) := by decide +kernel
theorem dX12_man_106 : decode cX12_man 106 = .ok (.iaload, 1) := by decide +kernel
theorem dX12_man_107 : decode cX12_man 107 = .ok (.ireturn, 1) := by decide +kernel
theorem dX12_man_108 : decode cX12_man 108 = .ok (.aload_n 0, 1) := by decide +kernel
theorem dX12_man_109 : decode cX12_man 109 = .ok (.getfield 33, 3) := by decide +kernel
theorem dX12_man_112 : decode cX12_man 112 = .ok (.bipush 55, 2) := by decide +kernel
theorem dX12_man_114 : decode cX12_man 114 = .ok (.iload_n 1, 1) := by decide +kernel
theorem dX12_man_115 : decode cX12_man 115 = .ok (.iadd, 1) := by decide +kernel
theorem dX12_man_116 : decode cX12_man 116 = .ok (.iaload, 1) := by decide +kernel
theorem dX12_man_117 : decode cX12_man 117 = .ok (.ireturn, 1) := by decide +kernel
theorem dX12_man_118 : decode cX12_man 118 = .ok (.aload_n 0, 1) := by decide +kernel
theorem dX12_man_119 : decode cX12_man 119 = .ok (.getfield 33, 3) := by decide +kernel
theorem dX12_man_122 : decode cX12_man 122 = .ok (.bipush 63, 2) := by decide +kernel
theorem dX12_man_124 : decode cX12_man 124 = .ok (.iload_n 1, 1) := by decide +kernel
theorem dX12_man_125 : decode cX12_man 125 = .ok (.iadd, 1) := by decide +kernel
theorem dX12_man_126 : decode cX12_man 126 = .ok (.iaload, 1) := by decide +kernel
theorem dX12_man_127 : decode cX12_man 127 = .ok (.iconst 1, 1) := by decide +kernel
theorem dX12_man_128 : decode cX12_man 128 = .ok (.isub, 1) := by decide +kernel
theorem dX12_man_129 : decode cX12_man 129 = .ok (.ireturn, 1) := by decide +kernel
theorem dX12_man_130 : decode cX12_man 130 = .ok (.aload_n 0, 1) := by decide +kernel
theorem dX12_man_131 : decode cX12_man 131 = .ok (.getfield 33, 3) := by decide +kernel
theorem dX12_man_134 : decode cX12_man 134 = .ok (.sipush 230, 3) := by decide +kernel
theorem dX12_man_137 : decode cX12_man 137 = .ok (.iload_n 1, 1) := by decide +kernel
theorem dX12_man_138 : decode cX12_man 138 = .ok (.iadd, 1) := by decide +kernel
theorem dX12_man_139 : decode cX12_man 139 = .ok (.iaload, 1) := by decide +kernel
theorem dX12_man_140 : decode cX12_man 140 = .ok (.iconst 1, 1) := by decide +kernel
theorem dX12_man_141 : decode cX12_man 141 = .ok (.isub, 1) := by decide +kernel
theorem dX12_man_142 : decode cX12_man 142 = .ok (.ireturn, 1) := by decide +kernel
theorem dX12_man_143 : decode cX12_man 143 = .ok (.aload_n 0, 1) := by decide +kernel
theorem dX12_man_144 : decode cX12_man 144 = .ok (.getfield 33, 3) := by decide +kernel
theorem dX12_man_147 : decode cX12_man 147 = .ok (.sipush 238, 3) := by decide +kernel
theorem dX12_man_150 : decode cX12_man 150 = .ok (.iload_n 1, 1) := by decide +kernel
theorem dX12_man_151 : decode cX12_man 151 = .ok (.iadd, 1) := by decide +kernel
theorem dX12_man_152 : decode cX12_man 152 = .ok (.iaload, 1) := by decide +kernel
theorem dX12_man_153 : decode cX12_man 153 = .ok (.ireturn, 1) := by decide +kernel
theorem dX12_man_154 : decode cX12_man 154 = .ok (.aload_n 0, 1) := by decide +kernel
theorem dX12_man_155 : decode cX12_man 155 = .ok (.getfield 33, 3) := by decide +kernel
theorem dX12_man_158 : decode cX12_man 158 = .ok (.bipush 71, 2) := by decide +kernel
theorem dX12_man_160 : decode cX12_man 160 = .ok (.iload_n 1, 1) := by decide +kernel
theorem dX12_man_161 : decode cX12_man 161 = .ok (.iadd, 1) := by decide +kernel
theorem dX12_man_162 : decode cX12_man 162 = .ok (.iaload, 1) := by decide +kernel
theorem dX12_man_163 : decode cX12_man 163 = .ok (.iconst 1, 1) := by decide +kernel
theorem dX12_man_164 : decode cX12_man 164 = .ok (.isub, 1) := by decide +kernel
theorem dX12_man_165 : decode cX12_man 165 = .ok (.ireturn, 1) := by decide +kernel
set_option maxRecDepth 20000 in
theorem ggX12_flight_X12_isFlight : GoodIn wsX12_flight wsX12_isFlight := goodIn_r _ [7, 2, 8, 9, 6, 10, 11, 12, 13, 14, 15, 16, 17, 18, 19, 20, 21, 22, 23, 24, 25, 26, 27, 28, 29, 30, 31, 32, 33, 34, 35, 36, 37, 38, 39, 40, 41, 42, 43, 44, 45, 46, 47, 48, 49, 50, 51, 52, 53, 54, 55, 56, 57] (by decide +kernel) (by decide +kernel)
set_option maxRecDepth 20000 in
theorem gX12_flight_X12_isFlight : GoodIn wsX12_flight (wsV RX12 259 RX12 yX12_isFlight wsX12_isFlight) := goodIn_app (goodIn_of _ (by decide +kernel)) ggX12_flight_X12_isFlight
theorem dX12_flight_0 : decode cX12_flight 0 = .ok (.aload_n 0, 1) := by decide +kernel
theorem dX12_flight_1 : decode cX12_flight 1 = .ok (.iconst 0, 1) := by decide +kernel
theorem dX12_flight_2 : decode cX12_flight 2 = .ok (.putfield 1, 3) := by decide +kernel
theorem dX12_flight_5 : decode cX12_flight 5 = .ok (.aload_n 0, 1) := by decide +kernel
theorem dX12_flight_6 : decode cX12_flight 6 = .ok (.iload_n 1, 1) := by decide +kernel
theorem dX12_flight_7 : decode cX12_flight 7 = .ok (.invokevirtual 259, 3) := by decide +kernel
theorem dX12_flight_10 : decode cX12_flight 10 = .ok (.ifCond .ne 5, 3) := by decide +kernel
theorem dX12_flight_13 : decode cX12_flight 13 = .ok (.iconst (-1), 1) := by decide +kernel
theorem dX12_flight_14 : decode cX12_flight 14 = .ok (.ireturn, 1) := by decide +kernel
theorem dX12_flight_15 : decode cX12_flight 15 = .ok (.iload_n 2, 1) := by decide +kernel
theorem dX12_flight_16 : decode cX12_flight 16 = .ok (.ifCond .ne 15, 3) := by decide +kernel
theorem dX12_flight_19 : decode cX12_flight 19 = .ok (.aload_n 0, 1) := by decide +kernel
theorem dX12_flight_20 : decode cX12_flight 20 = .ok (.getfield 33, 3) := by decide +kernel
theorem dX12_flight_23 : decode cX12_flight 23 = .ok (.bipush 79, 2) := by decide +kernel
theorem dX12_flight_25 : decode cX12_flight 25 = .ok (.iload_n 1, 1) := by decide +kernel
theorem dX12_flight_26 : decode cX12_flight 26 = .ok (.iadd, 1) := by decide +kernel
theorem dX12_flight_27 : decode cX12_flight 27 = .ok (.iaload, 1) := by decide +kernel
theorem dX12_flight_28 : decode cX12_flight 28 = .ok (.goto 38, 3) := by decide +kernel
theorem dX12_flight_31 : decode cX12_flight 31 = .ok (.iload_n 2, 1) := by decide +kernel
theorem dX12_flight_32 : decode cX12_flight 32 = .ok (.iconst 1, 1) := by decide +kernel
theorem dX12_flight_33 : decode cX12_flight 33 = .ok (.if_icmp .ne 15, 3) := by decide +kernel
theorem dX12_flight_36 : decode cX12_flight 36 = .ok (.aload_n 0, 1) := by decide +kernel
theorem dX12_flight_37 : decode cX12_flight 37 = .ok (.getfield 33, 3) := by decide +kernel
theorem dX12_flight_40 : decode cX12_flight 40 = .ok (.bipush 83, 2) := by decide +kernel
theorem dX12_flight_42 : decode cX12_flight 42 = .ok (.iload_n 1, 1) := by decide +kernel
theorem dX12_flight_43 : decode cX12_flight 43 = .ok (.iadd, 1) := by decide +kernel
theorem dX12_flight_44 : decode cX12_flight 44 = .ok (.iaload, 1) := by decide +kernel
theorem dX12_flight_45 : decode cX12_flight 45 = .ok (.goto 21, 3) := by decide +kernel
theorem dX12_flight_48 : decode cX12_flight 48 = .ok (.iload_n 2, 1) := by decide +kernel
theorem dX12_flight_49 : decode cX12_flight 49 = .ok (.iconst 2, 1) := by decide +kernel
theorem dX12_flight_50 : decode cX12_flight 50 = .ok (.if_icmp .ne 15, 3) := by decide +kernel
theorem dX12_flight_53 : decode cX12_flight 53 = .ok (.aload_n 0, 1) := by decide +kernel
theorem dX12_flight_54 : decode cX12_flight 54 = .ok (.getfield 33, 3) := by decide +kernel
theorem dX12_flight_57 : decode cX12_flight 57 = .ok (.bipush 87, 2) := by decide +kernel
theorem dX12_flight_59 : decode cX12_flight 59 = .ok (.iload_n 1, 1) := by decide +kernel
theorem dX12_flight_60 : decode cX12_flight 60 = .ok (.iadd, 1) := by decide +kernel
theorem dX12_flight_61 : decode cX12_flight 61 = .ok (.iaload, 1) := by decide +kernel
theorem dX12_flight_62 : decode cX12_flight 62 = .ok (.goto 4, 3) := by decide +kernel
theorem dX12_flight_65 : decode cX12_flight 65 = .ok (.iconst (-1), 1) := by decide +kernel
theorem dX12_flight_66 : decode cX12_flight 66 = .ok (.ireturn, 1) := by decide +kernel
set_option maxRecDepth 20000 in
theorem ggX12_call_X12_isCall : GoodIn wsX12_call wsX12_isCall := goodIn_r _ [7, 2, 8, 9, 10, 6, 11, 12, 13, 14, 19, 20, 21, 22, 23, 24, 25, 26, 27, 28, 29, 30, 31, 32, 33, 34, 35, 36, 37, 38, 39, 40, 41, 42, 43, 44, 45, 46, 47, 48, 49, 50, 51, 52, 53, 54, 55, 56, 57, 58, 59, 60, 61, 62, 63, 64, 65] (by decide +kernel) (by decide +kernel)
set_option maxRecDepth 20000 in
theorem gX12_call_X12_isCall : GoodIn wsX12_call (wsV RX12 276 RX12 yX12_isCall wsX12_isCall) := goodIn_app (goodIn_of _ (by decide +kernel)) ggX12_call_X12_isCall
set_option maxRecDepth 20000 in
theorem ggX12_call_X12_valleyOf : GoodIn wsX12_call wsX12_valleyOf := goodIn_r _ [18, 2, 19, 20, 21, 22, 23, 24, 25, 26, 27, 28, 29, 30, 31, 32, 33, 34, 35, 36, 37, 38, 39, 40, 41, 42, 43, 44, 45, 46, 47, 48, 49, 50, 51, 52, 53, 54, 55, 56, 57, 58, 59, 60, 61, 62, 63, 64, 65] (by decide +kernel) (by decide +kernel)
set_option maxRecDepth 20000 in
theorem gX12_call_X12_valleyOf : GoodIn wsX12_call (wsV RX12 265 RX12 yX12_valleyOf wsX12_valleyOf) := goodIn_app (goodIn_of _ (by decide +kernel)) ggX12_call_X12_valleyOf
theorem dX12_call_0 : decode cX12_call 0 = .ok (.aload_n 0, 1) := by decide +kernel
theorem dX12_call_1 : decode cX12_call 1 = .ok (.iconst 0, 1) := by decide +kernel
theorem dX12_call_2 : decode cX12_call 2 = .ok (.putfield 1, 3) := by decide +kernel
theorem dX12_call_5 : decode cX12_call 5 = .ok (.aload_n 0, 1) := by decide +kernel
theorem dX12_call_6 : decode cX12_call 6 = .ok (.iload_n 1, 1) := by decide +kernel
theorem dX12_call_7 : decode cX12_call 7 = .ok (.iload_n 2, 1) := by decide +kernel
theorem dX12_call_8 : decode cX12_call 8 = .ok (.invokevirtual 276, 3) := by decide +kernel
theorem dX12_call_11 : decode cX12_call 11 = .ok (.ifCond .ne 5, 3) := by decide +kernel
theorem dX12_call_14 : decode cX12_call 14 = .ok (.iconst (-1), 1) := by decide +kernel
theorem dX12_call_15 : decode cX12_call 15 = .ok (.ireturn, 1) := by decide +kernel
theorem dX12_call_16 : decode cX12_call 16 = .ok (.bipush 10, 2) := by decide +kernel
theorem dX12_call_18 : decode cX12_call 18 = .ok (.iload_n 1, 1) := by decide +kernel
theorem dX12_call_19 : decode cX12_call 19 = .ok (.imul, 1) := by decide +kernel
theorem dX12_call_20 : decode cX12_call 20 = .ok (.iload_n 2, 1) := by decide +kernel
theorem dX12_call_21 : decode cX12_call 21 = .ok (.iadd, 1) := by decide +kernel
theorem dX12_call_22 : decode cX12_call 22 = .ok (.istore 4, 2) := by decide +kernel
theorem dX12_call_24 : decode cX12_call 24 = .ok (.iload_n 3, 1) := by decide +kernel
theorem dX12_call_25 : decode cX12_call 25 = .ok (.tableswitch 82 0 3 #[31, 42, 54, 66], 31) := by decide +kernel
theorem dX12_call_56 : decode cX12_call 56 = .ok (.aload_n 0, 1) := by decide +kernel
theorem dX12_call_57 : decode cX12_call 57 = .ok (.getfield 33, 3) := by decide +kernel
theorem dX12_call_60 : decode cX12_call 60 = .ok (.bipush 91, 2) := by decide +kernel
theorem dX12_call_62 : decode cX12_call 62 = .ok (.iload 4, 2) := by decide +kernel
theorem dX12_call_64 : decode cX12_call 64 = .ok (.iadd, 1) := by decide +kernel
theorem dX12_call_65 : decode cX12_call 65 = .ok (.iaload, 1) := by decide +kernel
theorem dX12_call_66 : decode cX12_call 66 = .ok (.ireturn, 1) := by decide +kernel
theorem dX12_call_67 : decode cX12_call 67 = .ok (.aload_n 0, 1) := by decide +kernel
theorem dX12_call_68 : decode cX12_call 68 = .ok (.getfield 33, 3) := by decide +kernel
theorem dX12_call_71 : decode cX12_call 71 = .ok (.sipush 131, 3) := by decide +kernel
theorem dX12_call_74 : decode cX12_call 74 = .ok (.iload 4, 2) := by decide +kernel
theorem dX12_call_76 : decode cX12_call 76 = .ok (.iadd, 1) := by decide +kernel
theorem dX12_call_77 : decode cX12_call 77 = .ok (.iaload, 1) := by decide +kernel
theorem dX12_call_78 : decode cX12_call 78 = .ok (.ireturn, 1) := by decide +kernel
theorem dX12_call_79 : decode cX12_call 79 = .ok (.aload_n 0, 1) := by decide +kernel
theorem dX12_call_80 : decode cX12_call 80 = .ok (.getfield 33, 3) := by decide +kernel
theorem dX12_call_83 : decode cX12_call 83 = .ok (.sipush 171, 3) := by decide +kernel
theorem dX12_call_86 : decode cX12_call 86 = .ok (.iload 4, 2) := by decide +kernel
theorem dX12_call_88 : decode cX12_call 88 = .ok (.iadd, 1) := by decide +kernel
theorem dX12_call_89 : decode cX12_call 89 = .ok (.iaload, 1) := by decide +kernel
theorem dX12_call_90 : decode cX12_call 90 = .ok (.ireturn, 1) := by decide +kernel
theorem dX12_call_91 : decode cX12_call 91 = .ok (.aload_n 0, 1) := by decide +kernel
theorem dX12_call_92 : decode cX12_call 92 = .ok (.aload_n 0, 1) := by decide +kernel
theorem dX12_call_93 : decode cX12_call 93 = .ok (.getfield 33, 3) := by decide +kernel
theorem dX12_call_96 : decode cX12_call 96 = .ok (.sipush 131, 3) := by decide +kernel
theorem dX12_call_99 : decode cX12_call 99 = .ok (.iload 4, 2) := by decide +kernel
theorem dX12_call_101 : decode cX12_call 101 = .ok (.iadd, 1) := by decide +kernel
theorem dX12_call_102 : decode cX12_call 102 = .ok (.iaload, 1) := by decide +kernel
theorem dX12_call_103 : decode cX12_call 103 = .ok (.invokevirtual 265, 3) := by decide +kernel
theorem dX12_call_106 : decode cX12_call 106 = .ok (.ireturn, 1) := by decide +kernel
theorem dX12_call_107 : decode cX12_call 107 = .ok (.iconst (-1), 1) := by decide +kernel
theorem dX12_call_108 : decode cX12_call 108 = .ok (.ireturn, 1) := by decide +kernel
theorem dX12_stands_0 : decode cX12_stands 0 = .ok (.aload_n 0, 1) := by decide +kernel
theorem dX12_stands_1 : decode cX12_stands 1 = .ok (.getfield 50, 3) := by decide +kernel
theorem dX12_stands_4 : decode cX12_stands 4 = .ok (.iload_n 1, 1) := by decide +kernel
theorem dX12_stands_5 : decode cX12_stands 5 = .ok (.aload_n 0, 1) := by decide +kernel
theorem dX12_stands_6 : decode cX12_stands 6 = .ok (.getfield 33, 3) := by decide +kernel
theorem dX12_stands_9 : decode cX12_stands 9 = .ok (.bipush 7, 2) := by decide +kernel
theorem dX12_stands_11 : decode cX12_stands 11 = .ok (.iload_n 2, 1) := by decide +kernel
theorem dX12_stands_12 : decode cX12_stands 12 = .ok (.iadd, 1) := by decide +kernel
theorem dX12_stands_13 : decode cX12_stands 13 = .ok (.iaload, 1) := by decide +kernel
theorem dX12_stands_14 : decode cX12_stands 14 = .ok (.iastore, 1) := by decide +kernel
theorem dX12_stands_15 : decode cX12_stands 15 = .ok (.aload_n 0, 1) := by decide +kernel
theorem dX12_stands_16 : decode cX12_stands 16 = .ok (.getfield 53, 3) := by decide +kernel
theorem dX12_stands_19 : decode cX12_stands 19 = .ok (.iload_n 1, 1) := by decide +kernel
theorem dX12_stands_20 : decode cX12_stands 20 = .ok (.aload_n 0, 1) := by decide +kernel
theorem dX12_stands_21 : decode cX12_stands 21 = .ok (.getfield 33, 3) := by decide +kernel
theorem dX12_stands_24 : decode cX12_stands 24 = .ok (.bipush 15, 2) := by decide +kernel
theorem dX12_stands_26 : decode cX12_stands 26 = .ok (.iload_n 2, 1) := by decide +kernel
theorem dX12_stands_27 : decode cX12_stands 27 = .ok (.iadd, 1) := by decide +kernel
theorem dX12_stands_28 : decode cX12_stands 28 = .ok (.iaload, 1) := by decide +kernel
theorem dX12_stands_29 : decode cX12_stands 29 = .ok (.iastore, 1) := by decide +kernel
theorem dX12_stands_30 : decode cX12_stands 30 = .ok (.aload_n 0, 1) := by decide +kernel
theorem dX12_stands_31 : decode cX12_stands 31 = .ok (.getfield 56, 3) := by decide +kernel
theorem dX12_stands_34 : decode cX12_stands 34 = .ok (.iload_n 1, 1) := by decide +kernel
theorem dX12_stands_35 : decode cX12_stands 35 = .ok (.aload_n 0, 1) := by decide +kernel
theorem dX12_stands_36 : decode cX12_stands 36 = .ok (.getfield 33, 3) := by decide +kernel
theorem dX12_stands_39 : decode cX12_stands 39 = .ok (.bipush 23, 2) := by decide +kernel
theorem dX12_stands_41 : decode cX12_stands 41 = .ok (.iload_n 2, 1) := by decide +kernel
theorem dX12_stands_42 : decode cX12_stands 42 = .ok (.iadd, 1) := by decide +kernel
theorem dX12_stands_43 : decode cX12_stands 43 = .ok (.iaload, 1) := by decide +kernel
theorem dX12_stands_44 : decode cX12_stands 44 = .ok (.iastore, 1) := by decide +kernel
theorem dX12_stands_45 : decode cX12_stands 45 = .ok (.return_, 1) := by decide +kernel
set_option maxRecDepth 20000 in
theorem ggX12_asNow_X12_stands : GoodIn wsX12_asNow wsX12_stands := goodIn_r _ [6, 7, 1, 8, 9, 10, 11, 12, 13, 14, 15, 16, 17, 18, 19, 20, 21, 22, 23, 24, 25, 26, 27, 28, 29, 30, 31, 32, 33, 34, 35, 36, 37, 38, 39, 40, 41, 42, 43, 44, 45, 46, 47, 48, 49, 50, 51, 52, 53, 54, 55, 56] (by decide +kernel) (by decide +kernel)
set_option maxRecDepth 20000 in
theorem gX12_asNow_X12_stands : GoodIn wsX12_asNow (wsV RX12 279 RX12 yX12_stands wsX12_stands) := goodIn_app (goodIn_of _ (by decide +kernel)) ggX12_asNow_X12_stands
theorem dX12_asNow_0 : decode cX12_asNow 0 = .ok (.iconst 0, 1) := by decide +kernel
theorem dX12_asNow_1 : decode cX12_asNow 1 = .ok (.istore_n 1, 1) := by decide +kernel
theorem dX12_asNow_2 : decode cX12_asNow 2 = .ok (.iload_n 1, 1) := by decide +kernel
theorem dX12_asNow_3 : decode cX12_asNow 3 = .ok (.aload_n 0, 1) := by decide +kernel
theorem dX12_asNow_4 : decode cX12_asNow 4 = .ok (.getfield 33, 3) := by decide +kernel
theorem dX12_asNow_7 : decode cX12_asNow 7 = .ok (.iconst 1, 1) := by decide +kernel
theorem dX12_asNow_8 : decode cX12_asNow 8 = .ok (.iaload, 1) := by decide +kernel
theorem dX12_asNow_9 : decode cX12_asNow 9 = .ok (.if_icmp .ge 24, 3) := by decide +kernel
theorem dX12_asNow_12 : decode cX12_asNow 12 = .ok (.aload_n 0, 1) := by decide +kernel
theorem dX12_asNow_13 : decode cX12_asNow 13 = .ok (.iload_n 1, 1) := by decide +kernel
theorem dX12_asNow_14 : decode cX12_asNow 14 = .ok (.aload_n 0, 1) := by decide +kernel
theorem dX12_asNow_15 : decode cX12_asNow 15 = .ok (.getfield 33, 3) := by decide +kernel
theorem dX12_asNow_18 : decode cX12_asNow 18 = .ok (.sipush 214, 3) := by decide +kernel
theorem dX12_asNow_21 : decode cX12_asNow 21 = .ok (.iload_n 1, 1) := by decide +kernel
theorem dX12_asNow_22 : decode cX12_asNow 22 = .ok (.iadd, 1) := by decide +kernel
theorem dX12_asNow_23 : decode cX12_asNow 23 = .ok (.iaload, 1) := by decide +kernel
theorem dX12_asNow_24 : decode cX12_asNow 24 = .ok (.invokevirtual 279, 3) := by decide +kernel
theorem dX12_asNow_27 : decode cX12_asNow 27 = .ok (.iinc 1 1, 3) := by decide +kernel
theorem dX12_asNow_30 : decode cX12_asNow 30 = .ok (.goto (-28), 3) := by decide +kernel
theorem dX12_asNow_33 : decode cX12_asNow 33 = .ok (.return_, 1) := by decide +kernel
set_option maxRecDepth 20000 in
theorem ggX12_farOf_X12_off : GoodIn wsX12_farOf wsX12_off := goodIn_r _ [7] (by decide +kernel) (by decide +kernel)
set_option maxRecDepth 20000 in
theorem gX12_farOf_X12_off : GoodIn wsX12_farOf (va_wsS RX12 283 yX12_off wsX12_off) := goodIn_app (goodIn_of _ (by decide +kernel)) ggX12_farOf_X12_off
theorem dX12_farOf_0 : decode cX12_farOf 0 = .ok (.aload_n 0, 1) := by decide +kernel
theorem dX12_farOf_1 : decode cX12_farOf 1 = .ok (.getfield 50, 3) := by decide +kernel
theorem dX12_farOf_4 : decode cX12_farOf 4 = .ok (.iload_n 1, 1) := by decide +kernel
theorem dX12_farOf_5 : decode cX12_farOf 5 = .ok (.iaload, 1) := by decide +kernel
theorem dX12_farOf_6 : decode cX12_farOf 6 = .ok (.aload_n 0, 1) := by decide +kernel
theorem dX12_farOf_7 : decode cX12_farOf 7 = .ok (.getfield 33, 3) := by decide +kernel
theorem dX12_farOf_10 : decode cX12_farOf 10 = .ok (.sipush 131, 3) := by decide +kernel
theorem dX12_farOf_13 : decode cX12_farOf 13 = .ok (.bipush 10, 2) := by decide +kernel
theorem dX12_farOf_15 : decode cX12_farOf 15 = .ok (.iload_n 2, 1) := by decide +kernel
theorem dX12_farOf_16 : decode cX12_farOf 16 = .ok (.imul, 1) := by decide +kernel
theorem dX12_farOf_17 : decode cX12_farOf 17 = .ok (.iadd, 1) := by decide +kernel
theorem dX12_farOf_18 : decode cX12_farOf 18 = .ok (.iload_n 3, 1) := by decide +kernel
theorem dX12_farOf_19 : decode cX12_farOf 19 = .ok (.iadd, 1) := by decide +kernel
theorem dX12_farOf_20 : decode cX12_farOf 20 = .ok (.iaload, 1) := by decide +kernel
theorem dX12_farOf_21 : decode cX12_farOf 21 = .ok (.invokestatic 283, 3) := by decide +kernel
theorem dX12_farOf_24 : decode cX12_farOf 24 = .ok (.aload_n 0, 1) := by decide +kernel
theorem dX12_farOf_25 : decode cX12_farOf 25 = .ok (.getfield 53, 3) := by decide +kernel
theorem dX12_farOf_28 : decode cX12_farOf 28 = .ok (.iload_n 1, 1) := by decide +kernel
theorem dX12_farOf_29 : decode cX12_farOf 29 = .ok (.iaload, 1) := by decide +kernel
theorem dX12_farOf_30 : decode cX12_farOf 30 = .ok (.aload_n 0, 1) := by decide +kernel
theorem dX12_farOf_31 : decode cX12_farOf 31 = .ok (.getfield 33, 3) := by decide +kernel
theorem dX12_farOf_34 : decode cX12_farOf 34 = .ok (.sipush 171, 3) := by decide +kernel
theorem dX12_farOf_37 : decode cX12_farOf 37 = .ok (.bipush 10, 2) := by decide +kernel
theorem dX12_farOf_39 : decode cX12_farOf 39 = .ok (.iload_n 2, 1) := by decide +kernel
theorem dX12_farOf_40 : decode cX12_farOf 40 = .ok (.imul, 1) := by decide +kernel
theorem dX12_farOf_41 : decode cX12_farOf 41 = .ok (.iadd, 1) := by decide +kernel
theorem dX12_farOf_42 : decode cX12_farOf 42 = .ok (.iload_n 3, 1) := by decide +kernel
theorem dX12_farOf_43 : decode cX12_farOf 43 = .ok (.iadd, 1) := by decide +kernel
theorem dX12_farOf_44 : decode cX12_farOf 44 = .ok (.iaload, 1) := by decide +kernel
theorem dX12_farOf_45 : decode cX12_farOf 45 = .ok (.invokestatic 283, 3) := by decide +kernel
theorem dX12_farOf_48 : decode cX12_farOf 48 = .ok (.iadd, 1) := by decide +kernel
theorem dX12_farOf_49 : decode cX12_farOf 49 = .ok (.ireturn, 1) := by decide +kernel
theorem dX12_isWindward_0 : decode cX12_isWindward 0 = .ok (.aload_n 0, 1) := by decide +kernel
theorem dX12_isWindward_1 : decode cX12_isWindward 1 = .ok (.getfield 33, 3) := by decide +kernel
theorem dX12_isWindward_4 : decode cX12_isWindward 4 = .ok (.sipush 131, 3) := by decide +kernel
theorem dX12_isWindward_7 : decode cX12_isWindward 7 = .ok (.bipush 10, 2) := by decide +kernel
theorem dX12_isWindward_9 : decode cX12_isWindward 9 = .ok (.iload_n 2, 1) := by decide +kernel
theorem dX12_isWindward_10 : decode cX12_isWindward 10 = .ok (.imul, 1) := by decide +kernel
theorem dX12_isWindward_11 : decode cX12_isWindward 11 = .ok (.iadd, 1) := by decide +kernel
theorem dX12_isWindward_12 : decode cX12_isWindward 12 = .ok (.iload_n 3, 1) := by decide +kernel
theorem dX12_isWindward_13 : decode cX12_isWindward 13 = .ok (.iadd, 1) := by decide +kernel
