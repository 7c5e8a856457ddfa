theorem dX2_init_0 : decode cX2_init 0 = .ok (.aload_n 0, 1) := by decide +kernel
theorem dX2_init_1 : decode cX2_init 1 = .ok (.invokespecial 3, 3) := by decide +kernel
theorem dX2_init_4 : decode cX2_init 4 = .ok (.aload_n 0, 1) := by decide +kernel
theorem dX2_init_5 : decode cX2_init 5 = .ok (.bipush 8, 2) := by decide +kernel
theorem dX2_init_7 : decode cX2_init 7 = .ok (.newarray .int, 2) := by decide +kernel
theorem dX2_init_9 : decode cX2_init 9 = .ok (.putfield 9, 3) := by decide +kernel
theorem dX2_init_12 : decode cX2_init 12 = .ok (.aload_n 0, 1) := by decide +kernel
theorem dX2_init_13 : decode cX2_init 13 = .ok (.bipush 8, 2) := by decide +kernel
theorem dX2_init_15 : decode cX2_init 15 = .ok (.newarray .int, 2) := by decide +kernel
theorem dX2_init_17 : decode cX2_init 17 = .ok (.putfield 15, 3) := by decide +kernel
theorem dX2_init_20 : decode cX2_init 20 = .ok (.aload_n 0, 1) := by decide +kernel
theorem dX2_init_21 : decode cX2_init 21 = .ok (.bipush 8, 2) := by decide +kernel
theorem dX2_init_23 : decode cX2_init 23 = .ok (.newarray .int, 2) := by decide +kernel
theorem dX2_init_25 : decode cX2_init 25 = .ok (.putfield 18, 3) := by decide +kernel
theorem dX2_init_28 : decode cX2_init 28 = .ok (.aload_n 0, 1) := by decide +kernel
theorem dX2_init_29 : decode cX2_init 29 = .ok (.bipush 8, 2) := by decide +kernel
theorem dX2_init_31 : decode cX2_init 31 = .ok (.newarray .int, 2) := by decide +kernel
theorem dX2_init_33 : decode cX2_init 33 = .ok (.putfield 21, 3) := by decide +kernel
theorem dX2_init_36 : decode cX2_init 36 = .ok (.aload_n 0, 1) := by decide +kernel
theorem dX2_init_37 : decode cX2_init 37 = .ok (.iconst (-1), 1) := by decide +kernel
theorem dX2_init_38 : decode cX2_init 38 = .ok (.putfield 24, 3) := by decide +kernel
theorem dX2_init_41 : decode cX2_init 41 = .ok (.return_, 1) := by decide +kernel
theorem dX2_begin_0 : decode cX2_begin 0 = .ok (.aload_n 0, 1) := by decide +kernel
theorem dX2_begin_1 : decode cX2_begin 1 = .ok (.iconst 0, 1) := by decide +kernel
theorem dX2_begin_2 : decode cX2_begin 2 = .ok (.putfield 28, 3) := by decide +kernel
theorem dX2_begin_5 : decode cX2_begin 5 = .ok (.aload_n 0, 1) := by decide +kernel
theorem dX2_begin_6 : decode cX2_begin 6 = .ok (.iconst (-1), 1) := by decide +kernel
theorem dX2_begin_7 : decode cX2_begin 7 = .ok (.putfield 24, 3) := by decide +kernel
theorem dX2_begin_10 : decode cX2_begin 10 = .ok (.aload_n 0, 1) := by decide +kernel
theorem dX2_begin_11 : decode cX2_begin 11 = .ok (.iconst 0, 1) := by decide +kernel
theorem dX2_begin_12 : decode cX2_begin 12 = .ok (.putfield 31, 3) := by decide +kernel
theorem dX2_begin_15 : decode cX2_begin 15 = .ok (.iconst 0, 1) := by decide +kernel
theorem dX2_begin_16 : decode cX2_begin 16 = .ok (.istore_n 2, 1) := by decide +kernel
theorem dX2_begin_17 : decode cX2_begin 17 = .ok (.iload_n 2, 1) := by decide +kernel
theorem dX2_begin_18 : decode cX2_begin 18 = .ok (.aload_n 1, 1) := by decide +kernel
theorem dX2_begin_19 : decode cX2_begin 19 = .ok (.getfield 34, 3) := by decide +kernel
theorem dX2_begin_22 : decode cX2_begin 22 = .ok (.if_icmp .ge 51, 3) := by decide +kernel
theorem dX2_begin_25 : decode cX2_begin 25 = .ok (.aload_n 0, 1) := by decide +kernel
theorem dX2_begin_26 : decode cX2_begin 26 = .ok (.getfield 9, 3) := by decide +kernel
theorem dX2_begin_29 : decode cX2_begin 29 = .ok (.iload_n 2, 1) := by decide +kernel
theorem dX2_begin_30 : decode cX2_begin 30 = .ok (.aload_n 1, 1) := by decide +kernel
theorem dX2_begin_31 : decode cX2_begin 31 = .ok (.getfield 39, 3) := by decide +kernel
theorem dX2_begin_34 : decode cX2_begin 34 = .ok (.iload_n 2, 1) := by decide +kernel
theorem dX2_begin_35 : decode cX2_begin 35 = .ok (.aaload, 1) := by decide +kernel
theorem dX2_begin_36 : decode cX2_begin 36 = .ok (.iconst 0, 1) := by decide +kernel
theorem dX2_begin_37 : decode cX2_begin 37 = .ok (.iaload, 1) := by decide +kernel
theorem dX2_begin_38 : decode cX2_begin 38 = .ok (.iastore, 1) := by decide +kernel
theorem dX2_begin_39 : decode cX2_begin 39 = .ok (.aload_n 0, 1) := by decide +kernel
theorem dX2_begin_40 : decode cX2_begin 40 = .ok (.getfield 15, 3) := by decide +kernel
theorem dX2_begin_43 : decode cX2_begin 43 = .ok (.iload_n 2, 1) := by decide +kernel
theorem dX2_begin_44 : decode cX2_begin 44 = .ok (.aload_n 1, 1) := by decide +kernel
theorem dX2_begin_45 : decode cX2_begin 45 = .ok (.getfield 39, 3) := by decide +kernel
theorem dX2_begin_48 : decode cX2_begin 48 = .ok (.iload_n 2, 1) := by decide +kernel
theorem dX2_begin_49 : decode cX2_begin 49 = .ok (.aaload, 1) := by decide +kernel
theorem dX2_begin_50 : decode cX2_begin 50 = .ok (.iconst 2, 1) := by decide +kernel
theorem dX2_begin_51 : decode cX2_begin 51 = .ok (.iaload, 1) := by decide +kernel
theorem dX2_begin_52 : decode cX2_begin 52 = .ok (.iastore, 1) := by decide +kernel
theorem dX2_begin_53 : decode cX2_begin 53 = .ok (.aload_n 0, 1) := by decide +kernel
theorem dX2_begin_54 : decode cX2_begin 54 = .ok (.getfield 18, 3) := by decide +kernel
theorem dX2_begin_57 : decode cX2_begin 57 = .ok (.iload_n 2, 1) := by decide +kernel
theorem dX2_begin_58 : decode cX2_begin 58 = .ok (.iconst (-1), 1) := by decide +kernel
theorem dX2_begin_59 : decode cX2_begin 59 = .ok (.iastore, 1) := by decide +kernel
theorem dX2_begin_60 : decode cX2_begin 60 = .ok (.aload_n 0, 1) := by decide +kernel
theorem dX2_begin_61 : decode cX2_begin 61 = .ok (.getfield 21, 3) := by decide +kernel
theorem dX2_begin_64 : decode cX2_begin 64 = .ok (.iload_n 2, 1) := by decide +kernel
theorem dX2_begin_65 : decode cX2_begin 65 = .ok (.iconst 0, 1) := by decide +kernel
theorem dX2_begin_66 : decode cX2_begin 66 = .ok (.iastore, 1) := by decide +kernel
theorem dX2_begin_67 : decode cX2_begin 67 = .ok (.iinc 2 1, 3) := by decide +kernel
theorem dX2_begin_70 : decode cX2_begin 70 = .ok (.goto (-53), 3) := by decide +kernel
theorem dX2_begin_73 : decode cX2_begin 73 = .ok (.return_, 1) := by decide +kernel
theorem dX2_copyFrom_0 : decode cX2_copyFrom 0 = .ok (.aload_n 0, 1) := by decide +kernel
theorem dX2_copyFrom_1 : decode cX2_copyFrom 1 = .ok (.aload_n 1, 1) := by decide +kernel
theorem dX2_copyFrom_2 : decode cX2_copyFrom 2 = .ok (.getfield 28, 3) := by decide +kernel
theorem dX2_copyFrom_5 : decode cX2_copyFrom 5 = .ok (.putfield 28, 3) := by decide +kernel
theorem dX2_copyFrom_8 : decode cX2_copyFrom 8 = .ok (.aload_n 0, 1) := by decide +kernel
theorem dX2_copyFrom_9 : decode cX2_copyFrom 9 = .ok (.aload_n 1, 1) := by decide +kernel
theorem dX2_copyFrom_10 : decode cX2_copyFrom 10 = .ok (.getfield 24, 3) := by decide +kernel
theorem dX2_copyFrom_13 : decode cX2_copyFrom 13 = .ok (.putfield 24, 3) := by decide +kernel
theorem dX2_copyFrom_16 : decode cX2_copyFrom 16 = .ok (.aload_n 0, 1) := by decide +kernel
theorem dX2_copyFrom_17 : decode cX2_copyFrom 17 = .ok (.aload_n 1, 1) := by decide +kernel
theorem dX2_copyFrom_18 : decode cX2_copyFrom 18 = .ok (.getfield 31, 3) := by decide +kernel
theorem dX2_copyFrom_21 : decode cX2_copyFrom 21 = .ok (.putfield 31, 3) := by decide +kernel
theorem dX2_copyFrom_24 : decode cX2_copyFrom 24 = .ok (.aload_n 1, 1) := by decide +kernel
theorem dX2_copyFrom_25 : decode cX2_copyFrom 25 = .ok (.getfield 9, 3) := by decide +kernel
theorem dX2_copyFrom_28 : decode cX2_copyFrom 28 = .ok (.iconst 0, 1) := by decide +kernel
theorem dX2_copyFrom_29 : decode cX2_copyFrom 29 = .ok (.aload_n 0, 1) := by decide +kernel
theorem dX2_copyFrom_30 : decode cX2_copyFrom 30 = .ok (.getfield 9, 3) := by decide +kernel
theorem dX2_copyFrom_33 : decode cX2_copyFrom 33 = .ok (.iconst 0, 1) := by decide +kernel
theorem dX2_copyFrom_34 : decode cX2_copyFrom 34 = .ok (.bipush 8, 2) := by decide +kernel
theorem dX2_copyFrom_36 : decode cX2_copyFrom 36 = .ok (.invokestatic 43, 3) := by decide +kernel
theorem dX2_copyFrom_39 : decode cX2_copyFrom 39 = .ok (.aload_n 1, 1) := by decide +kernel
theorem dX2_copyFrom_40 : decode cX2_copyFrom 40 = .ok (.getfield 15, 3) := by decide +kernel
theorem dX2_copyFrom_43 : decode cX2_copyFrom 43 = .ok (.iconst 0, 1) := by decide +kernel
theorem dX2_copyFrom_44 : decode cX2_copyFrom 44 = .ok (.aload_n 0, 1) := by decide +kernel
theorem dX2_copyFrom_45 : decode cX2_copyFrom 45 = .ok (.getfield 15, 3) := by decide +kernel
theorem dX2_copyFrom_48 : decode cX2_copyFrom 48 = .ok (.iconst 0, 1) := by decide +kernel
theorem dX2_copyFrom_49 : decode cX2_copyFrom 49 = .ok (.bipush 8, 2) := by decide +kernel
theorem dX2_copyFrom_51 : decode cX2_copyFrom 51 = .ok (.invokestatic 43, 3) := by decide +kernel
theorem dX2_copyFrom_54 : decode cX2_copyFrom 54 = .ok (.aload_n 1, 1) := by decide +kernel
theorem dX2_copyFrom_55 : decode cX2_copyFrom 55 = .ok (.getfield 18, 3) := by decide +kernel
theorem dX2_copyFrom_58 : decode cX2_copyFrom 58 = .ok (.iconst 0, 1) := by decide +kernel
theorem dX2_copyFrom_59 : decode cX2_copyFrom 59 = .ok (.aload_n 0, 1) := by decide +kernel
theorem dX2_copyFrom_60 : decode cX2_copyFrom 60 = .ok (.getfield 18, 3) := by decide +kernel
theorem dX2_copyFrom_63 : decode cX2_copyFrom 63 = .ok (.iconst 0, 1) := by decide +kernel
theorem dX2_copyFrom_64 : decode cX2_copyFrom 64 = .ok (.bipush 8, 2) := by decide +kernel
theorem dX2_copyFrom_66 : decode cX2_copyFrom 66 = .ok (.invokestatic 43, 3) := by decide +kernel
theorem dX2_copyFrom_69 : decode cX2_copyFrom 69 = .ok (.aload_n 1, 1) := by decide +kernel
theorem dX2_copyFrom_70 : decode cX2_copyFrom 70 = .ok (.getfield 21, 3) := by decide +kernel
theorem dX2_copyFrom_73 : decode cX2_copyFrom 73 = .ok (.iconst 0, 1) := by decide +kernel
theorem dX2_copyFrom_74 : decode cX2_copyFrom 74 = .ok (.aload_n 0, 1) := by decide +kernel
theorem dX2_copyFrom_75 : decode cX2_copyFrom 75 = .ok (.getfield 21, 3) := by decide +kernel
theorem dX2_copyFrom_78 : decode cX2_copyFrom 78 = .ok (.iconst 0, 1) := by decide +kernel
theorem dX2_copyFrom_79 : decode cX2_copyFrom 79 = .ok (.bipush 8, 2) := by decide +kernel
theorem dX2_copyFrom_81 : decode cX2_copyFrom 81 = .ok (.invokestatic 43, 3) := by decide +kernel
theorem dX2_copyFrom_84 : decode cX2_copyFrom 84 = .ok (.return_, 1) := by decide +kernel
theorem dX2_endYear_0 : decode cX2_endYear 0 = .ok (.aload_n 0, 1) := by decide +kernel
theorem dX2_endYear_1 : decode cX2_endYear 1 = .ok (.dup, 1) := by decide +kernel
theorem dX2_endYear_2 : decode cX2_endYear 2 = .ok (.getfield 28, 3) := by decide +kernel
theorem dX2_endYear_5 : decode cX2_endYear 5 = .ok (.iconst 1, 1) := by decide +kernel
theorem dX2_endYear_6 : decode cX2_endYear 6 = .ok (.iadd, 1) := by decide +kernel
theorem dX2_endYear_7 : decode cX2_endYear 7 = .ok (.putfield 28, 3) := by decide +kernel
theorem dX2_endYear_10 : decode cX2_endYear 10 = .ok (.aload_n 0, 1) := by decide +kernel
theorem dX2_endYear_11 : decode cX2_endYear 11 = .ok (.iconst (-1), 1) := by decide +kernel
theorem dX2_endYear_12 : decode cX2_endYear 12 = .ok (.putfield 24, 3) := by decide +kernel
theorem dX2_endYear_15 : decode cX2_endYear 15 = .ok (.aload_n 0, 1) := by decide +kernel
theorem dX2_endYear_16 : decode cX2_endYear 16 = .ok (.iconst 0, 1) := by decide +kernel
theorem dX2_endYear_17 : decode cX2_endYear 17 = .ok (.putfield 31, 3) := by decide +kernel
theorem dX2_endYear_20 : decode cX2_endYear 20 = .ok (.iconst 0, 1) := by decide +kernel
theorem dX2_endYear_21 : decode cX2_endYear 21 = .ok (.istore_n 2, 1) := by decide +kernel
theorem dX2_endYear_22 : decode cX2_endYear 22 = .ok (.iload_n 2, 1) := by decide +kernel
theorem dX2_endYear_23 : decode cX2_endYear 23 = .ok (.iload_n 1, 1) := by decide +kernel
theorem dX2_endYear_24 : decode cX2_endYear 24 = .ok (.if_icmp .ge 16, 3) := by decide +kernel
theorem dX2_endYear_27 : decode cX2_endYear 27 = .ok (.aload_n 0, 1) := by decide +kernel
theorem dX2_endYear_28 : decode cX2_endYear 28 = .ok (.getfield 18, 3) := by decide +kernel
theorem dX2_endYear_31 : decode cX2_endYear 31 = .ok (.iload_n 2, 1) := by decide +kernel
theorem dX2_endYear_32 : decode cX2_endYear 32 = .ok (.iconst (-1), 1) := by decide +kernel
theorem dX2_endYear_33 : decode cX2_endYear 33 = .ok (.iastore, 1) := by decide +kernel
theorem dX2_endYear_34 : decode cX2_endYear 34 = .ok (.iinc 2 1, 3) := by decide +kernel
theorem dX2_endYear_37 : decode cX2_endYear 37 = .ok (.goto (-15), 3) := by decide +kernel
theorem dX2_endYear_40 : decode cX2_endYear 40 = .ok (.return_, 1) := by decide +kernel
theorem dX2_menOn_0 : decode cX2_menOn 0 = .ok (.iconst 0, 1) := by decide +kernel
theorem dX2_menOn_1 : decode cX2_menOn 1 = .ok (.istore_n 3, 1) := by decide +kernel
theorem dX2_menOn_2 : decode cX2_menOn 2 = .ok (.iconst 0, 1) := by decide +kernel
theorem dX2_menOn_3 : decode cX2_menOn 3 = .ok (.istore 4, 2) := by decide +kernel
theorem dX2_menOn_5 : decode cX2_menOn 5 = .ok (.iload 4, 2) := by decide +kernel
theorem dX2_menOn_7 : decode cX2_menOn 7 = .ok (.iload_n 2, 1) := by decide +kernel
theorem dX2_menOn_8 : decode cX2_menOn 8 = .ok (.if_icmp .ge 27, 3) := by decide +kernel
theorem dX2_menOn_11 : decode cX2_menOn 11 = .ok (.aload_n 0, 1) := by decide +kernel
theorem dX2_menOn_12 : decode cX2_menOn 12 = .ok (.getfield 9, 3) := by decide +kernel
theorem dX2_menOn_15 : decode cX2_menOn 15 = .ok (.iload 4, 2) := by decide +kernel
theorem dX2_menOn_17 : decode cX2_menOn 17 = .ok (.iaload, 1) := by decide +kernel
theorem dX2_menOn_18 : decode cX2_menOn 18 = .ok (.iload_n 1, 1) := by decide +kernel
theorem dX2_menOn_19 : decode cX2_menOn 19 = .ok (.if_icmp .ne 10, 3) := by decide +kernel
theorem dX2_menOn_22 : decode cX2_menOn 22 = .ok (.iload_n 3, 1) := by decide +kernel
theorem dX2_menOn_23 : decode cX2_menOn 23 = .ok (.iconst 1, 1) := by decide +kernel
theorem dX2_menOn_24 : decode cX2_menOn 24 = .ok (.iload 4, 2) := by decide +kernel
theorem dX2_menOn_26 : decode cX2_menOn 26 = .ok (.ishl, 1) := by decide +kernel
theorem dX2_menOn_27 : decode cX2_menOn 27 = .ok (.ior, 1) := by decide +kernel
theorem dX2_menOn_28 : decode cX2_menOn 28 = .ok (.istore_n 3, 1) := by decide +kernel
theorem dX2_menOn_29 : decode cX2_menOn 29 = .ok (.iinc 4 1, 3) := by decide +kernel
theorem dX2_menOn_32 : decode cX2_menOn 32 = .ok (.goto (-27), 3) := by decide +kernel
theorem dX2_menOn_35 : decode cX2_menOn 35 = .ok (.iload_n 3, 1) := by decide +kernel
theorem dX2_menOn_36 : decode cX2_menOn 36 = .ok (.ireturn, 1) := by decide +kernel
theorem dX2_swornMen_0 : decode cX2_swornMen 0 = .ok (.iconst 0, 1) := by decide +kernel
theorem dX2_swornMen_1 : decode cX2_swornMen 1 = .ok (.istore_n 2, 1) := by decide +kernel
theorem dX2_swornMen_2 : decode cX2_swornMen 2 = .ok (.iconst 0, 1) := by decide +kernel
theorem dX2_swornMen_3 : decode cX2_swornMen 3 = .ok (.istore_n 3, 1) := by decide +kernel
theorem dX2_swornMen_4 : decode cX2_swornMen 4 = .ok (.iload_n 3, 1) := by decide +kernel
theorem dX2_swornMen_5 : decode cX2_swornMen 5 = .ok (.iload_n 1, 1) := by decide +kernel
theorem dX2_swornMen_6 : decode cX2_swornMen 6 = .ok (.if_icmp .ge 25, 3) := by decide +kernel
theorem dX2_swornMen_9 : decode cX2_swornMen 9 = .ok (.aload_n 0, 1) := by decide +kernel
theorem dX2_swornMen_10 : decode cX2_swornMen 10 = .ok (.getfield 18, 3) := by decide +kernel
theorem dX2_swornMen_13 : decode cX2_swornMen 13 = .ok (.iload_n 3, 1) := by decide +kernel
theorem dX2_swornMen_14 : decode cX2_swornMen 14 = .ok (.iaload, 1) := by decide +kernel
theorem dX2_swornMen_15 : decode cX2_swornMen 15 = .ok (.iconst (-1), 1) := by decide +kernel
theorem dX2_swornMen_16 : decode cX2_swornMen 16 = .ok (.if_icmp .eq 9, 3) := by decide +kernel
theorem dX2_swornMen_19 : decode cX2_swornMen 19 = .ok (.iload_n 2, 1) := by decide +kernel
theorem dX2_swornMen_20 : decode cX2_swornMen 20 = .ok (.iconst 1, 1) := by decide +kernel
theorem dX2_swornMen_21 : decode cX2_swornMen 21 = .ok (.iload_n 3, 1) := by decide +kernel
theorem dX2_swornMen_22 : decode cX2_swornMen 22 = .ok (.ishl, 1) := by decide +kernel
theorem dX2_swornMen_23 : decode cX2_swornMen 23 = .ok (.ior, 1) := by decide +kernel
theorem dX2_swornMen_24 : decode cX2_swornMen 24 = .ok (.istore_n 2, 1) := by decide +kernel
theorem dX2_swornMen_25 : decode cX2_swornMen 25 = .ok (.iinc 3 1, 3) := by decide +kernel
theorem dX2_swornMen_28 : decode cX2_swornMen 28 = .ok (.goto (-24), 3) := by decide +kernel
theorem dX2_swornMen_31 : decode cX2_swornMen 31 = .ok (.iload_n 2, 1) := by decide +kernel
theorem dX2_swornMen_32 : decode cX2_swornMen 32 = .ok (.ireturn, 1) := by decide +kernel
theorem dX2_allCoins_0 : decode cX2_allCoins 0 = .ok (.iconst 0, 1) := by decide +kernel
theorem dX2_allCoins_1 : decode cX2_allCoins 1 = .ok (.istore_n 2, 1) := by decide +kernel
theorem dX2_allCoins_2 : decode cX2_allCoins 2 = .ok (.iconst 0, 1) := by decide +kernel
theorem dX2_allCoins_3 : decode cX2_allCoins 3 = .ok (.istore_n 3, 1) := by decide +kernel
theorem dX2_allCoins_4 : decode cX2_allCoins 4 = .ok (.iload_n 3, 1) := by decide +kernel
theorem dX2_allCoins_5 : decode cX2_allCoins 5 = .ok (.iload_n 1, 1) := by decide +kernel
theorem dX2_allCoins_6 : decode cX2_allCoins 6 = .ok (.if_icmp .ge 18, 3) := by decide +kernel
theorem dX2_allCoins_9 : decode cX2_allCoins 9 = .ok (.iload_n 2, 1) := by decide +kernel
theorem dX2_allCoins_10 : decode cX2_allCoins 10 = .ok (.aload_n 0, 1) := by decide +kernel
theorem dX2_allCoins_11 : decode cX2_allCoins 11 = .ok (.getfield 15, 3) := by decide +kernel
theorem dX2_allCoins_14 : decode cX2_allCoins 14 = .ok (.iload_n 3, 1) := by decide +kernel
theorem dX2_allCoins_15 : decode cX2_allCoins 15 = .ok (.iaload, 1) := by decide +kernel
theorem dX2_allCoins_16 : decode cX2_allCoins 16 = .ok (.iadd, 1) := by decide +kernel
theorem dX2_allCoins_17 : decode cX2_allCoins 17 = .ok (.istore_n 2, 1) := by decide +kernel
theorem dX2_allCoins_18 : decode cX2_allCoins 18 = .ok (.iinc 3 1, 3) := by decide +kernel
theorem dX2_allCoins_21 : decode cX2_allCoins 21 = .ok (.goto (-17), 3) := by decide +kernel
theorem dX2_allCoins_24 : decode cX2_allCoins 24 = .ok (.iload_n 2, 1) := by decide +kernel
theorem dX2_allCoins_25 : decode cX2_allCoins 25 = .ok (.ireturn, 1) := by decide +kernel
theorem dX2_allStores_0 : decode cX2_allStores 0 = .ok (.iconst 0, 1) := by decide +kernel
theorem dX2_allStores_1 : decode cX2_allStores 1 = .ok (.istore_n 2, 1) := by decide +kernel
theorem dX2_allStores_2 : decode cX2_allStores 2 = .ok (.iconst 0, 1) := by decide +kernel
theorem dX2_allStores_3 : decode cX2_allStores 3 = .ok (.istore_n 3, 1) := by decide +kernel
theorem dX2_allStores_4 : decode cX2_allStores 4 = .ok (.iload_n 3, 1) := by decide +kernel
theorem dX2_allStores_5 : decode cX2_allStores 5 = .ok (.iload_n 1, 1) := by decide +kernel
theorem dX2_allStores_6 : decode cX2_allStores 6 = .ok (.if_icmp .ge 18, 3) := by decide +kernel
theorem dX2_allStores_9 : decode cX2_allStores 9 = .ok (.iload_n 2, 1) := by decide +kernel
theorem dX2_allStores_10 : decode cX2_allStores 10 = .ok (.aload_n 0, 1) := by decide +kernel
theorem dX2_allStores_11 : decode cX2_allStores 11 = .ok (.getfield 21, 3) := by decide +kernel
theorem dX2_allStores_14 : decode cX2_allStores 14 = .ok (.iload_n 3, 1) := by decide +kernel
theorem dX2_allStores_15 : decode cX2_allStores 15 = .ok (.iaload, 1) := by decide +kernel
theorem dX2_allStores_16 : decode cX2_allStores 16 = .ok (.iadd, 1) := by decide +kernel
theorem dX2_allStores_17 : decode cX2_allStores 17 = .ok (.istore_n 2, 1) := by decide +kernel
theorem dX2_allStores_18 : decode cX2_allStores 18 = .ok (.iinc 3 1, 3) := by decide +kernel
theorem dX2_allStores_21 : decode cX2_allStores 21 = .ok (.goto (-17), 3) := by decide +kernel
theorem dX2_allStores_24 : decode cX2_allStores 24 = .ok (.iload_n 2, 1) := by decide +kernel
theorem dX2_allStores_25 : decode cX2_allStores 25 = .ok (.ireturn, 1) := by decide +kernel
theorem dX9_init_0 : decode cX9_init 0 = .ok (.aload_n 0, 1) := by decide +kernel
theorem dX9_init_1 : decode cX9_init 1 = .ok (.invokespecial 3, 3) := by decide +kernel
theorem dX9_init_4 : decode cX9_init 4 = .ok (.aload_n 0, 1) := by decide +kernel
theorem dX9_init_5 : decode cX9_init 5 = .ok (.bipush 8, 2) := by decide +kernel
theorem dX9_init_7 : decode cX9_init 7 = .ok (.newarray .long, 2) := by decide +kernel
theorem dX9_init_9 : decode cX9_init 9 = .ok (.putfield 9, 3) := by decide +kernel
theorem dX9_init_12 : decode cX9_init 12 = .ok (.aload_n 0, 1) := by decide +kernel
theorem dX9_init_13 : decode cX9_init 13 = .ok (.bipush 8, 2) := by decide +kernel
theorem dX9_init_15 : decode cX9_init 15 = .ok (.newarray .long, 2) := by decide +kernel
theorem dX9_init_17 : decode cX9_init 17 = .ok (.putfield 15, 3) := by decide +kernel
theorem dX9_init_20 : decode cX9_init 20 = .ok (.aload_n 0, 1) := by decide +kernel
theorem dX9_init_21 : decode cX9_init 21 = .ok (.bipush 8, 2) := by decide +kernel
theorem dX9_init_23 : decode cX9_init 23 = .ok (.iconst 3, 1) := by decide +kernel
theorem dX9_init_24 : decode cX9_init 24 = .ok (.multianewarray 18 2, 4) := by decide +kernel
theorem dX9_init_28 : decode cX9_init 28 = .ok (.putfield 20, 3) := by decide +kernel
theorem dX9_init_31 : decode cX9_init 31 = .ok (.aload_n 0, 1) := by decide +kernel
theorem dX9_init_32 : decode cX9_init 32 = .ok (.bipush 8, 2) := by decide +kernel
theorem dX9_init_34 : decode cX9_init 34 = .ok (.bipush 6, 2) := by decide +kernel
theorem dX9_init_36 : decode cX9_init 36 = .ok (.multianewarray 18 2, 4) := by decide +kernel
theorem dX9_init_40 : decode cX9_init 40 = .ok (.putfield 23, 3) := by decide +kernel
theorem dX9_init_43 : decode cX9_init 43 = .ok (.aload_n 0, 1) := by decide +kernel
theorem dX9_init_44 : decode cX9_init 44 = .ok (.iconst 4, 1) := by decide +kernel
theorem dX9_init_45 : decode cX9_init 45 = .ok (.iconst 3, 1) := by decide +kernel
theorem dX9_init_46 : decode cX9_init 46 = .ok (.multianewarray 18 2, 4) := by decide +kernel
theorem dX9_init_50 : decode cX9_init 50 = .ok (.putfield 26, 3) := by decide +kernel
theorem dX9_init_53 : decode cX9_init 53 = .ok (.aload_n 0, 1) := by decide +kernel
theorem dX9_init_54 : decode cX9_init 54 = .ok (.bipush 40, 2) := by decide +kernel
theorem dX9_init_56 : decode cX9_init 56 = .ok (.iconst 3, 1) := by decide +kernel
theorem dX9_init_57 : decode cX9_init 57 = .ok (.multianewarray 18 2, 4) := by decide +kernel
theorem dX9_init_61 : decode cX9_init 61 = .ok (.putfield 29, 3) := by decide +kernel
theorem dX9_init_64 : decode cX9_init 64 = .ok (.aload_n 0, 1) := by decide +kernel
theorem dX9_init_65 : decode cX9_init 65 = .ok (.bipush 8, 2) := by decide +kernel
theorem dX9_init_67 : decode cX9_init 67 = .ok (.newarray .int, 2) := by decide +kernel
theorem dX9_init_69 : decode cX9_init 69 = .ok (.putfield 32, 3) := by decide +kernel
theorem dX9_init_72 : decode cX9_init 72 = .ok (.aload_n 0, 1) := by decide +kernel
theorem dX9_init_73 : decode cX9_init 73 = .ok (.bipush 20, 2) := by decide +kernel
theorem dX9_init_75 : decode cX9_init 75 = .ok (.putfield 36, 3) := by decide +kernel
theorem dX9_init_78 : decode cX9_init 78 = .ok (.aload_n 0, 1) := by decide +kernel
theorem dX9_init_79 : decode cX9_init 79 = .ok (.bipush 99, 2) := by decide +kernel
theorem dX9_init_81 : decode cX9_init 81 = .ok (.putfield 40, 3) := by decide +kernel
theorem dX9_init_84 : decode cX9_init 84 = .ok (.aload_n 0, 1) := by decide +kernel
theorem dX9_init_85 : decode cX9_init 85 = .ok (.iconst (-1), 1) := by decide +kernel
theorem dX9_init_86 : decode cX9_init 86 = .ok (.putfield 43, 3) := by decide +kernel
theorem dX9_init_89 : decode cX9_init 89 = .ok (.return_, 1) := by decide +kernel
theorem dX9_clear_0 : decode cX9_clear 0 = .ok (.aload_n 0, 1) := by decide +kernel
theorem dX9_clear_1 : decode cX9_clear 1 = .ok (.bipush 20, 2) := by decide +kernel
theorem dX9_clear_3 : decode cX9_clear 3 = .ok (.putfield 36, 3) := by decide +kernel
theorem dX9_clear_6 : decode cX9_clear 6 = .ok (.aload_n 0, 1) := by decide +kernel
theorem dX9_clear_7 : decode cX9_clear 7 = .ok (.bipush 99, 2) := by decide +kernel
theorem dX9_clear_9 : decode cX9_clear 9 = .ok (.putfield 40, 3) := by decide +kernel
theorem dX9_clear_12 : decode cX9_clear 12 = .ok (.aload_n 0, 1) := by decide +kernel
theorem dX9_clear_13 : decode cX9_clear 13 = .ok (.iconst (-1), 1) := by decide +kernel
theorem dX9_clear_14 : decode cX9_clear 14 = .ok (.putfield 43, 3) := by decide +kernel
theorem dX9_clear_17 : decode cX9_clear 17 = .ok (.aload_n 0, 1) := by decide +kernel
theorem dX9_clear_18 : decode cX9_clear 18 = .ok (.iconst 0, 1) := by decide +kernel
theorem dX9_clear_19 : decode cX9_clear 19 = .ok (.putfield 46, 3) := by decide +kernel
theorem dX9_clear_22 : decode cX9_clear 22 = .ok (.aload_n 0, 1) := by decide +kernel
theorem dX9_clear_23 : decode cX9_clear 23 = .ok (.iconst 0, 1) := by decide +kernel
theorem dX9_clear_24 : decode cX9_clear 24 = .ok (.putfield 49, 3) := by decide +kernel
theorem dX9_clear_27 : decode cX9_clear 27 = .ok (.aload_n 0, 1) := by decide +kernel
theorem dX9_clear_28 : decode cX9_clear 28 = .ok (.iconst 0, 1) := by decide +kernel
theorem dX9_clear_29 : decode cX9_clear 29 = .ok (.putfield 52, 3) := by decide +kernel
theorem dX9_clear_32 : decode cX9_clear 32 = .ok (.aload_n 0, 1) := by decide +kernel
theorem dX9_clear_33 : decode cX9_clear 33 = .ok (.iconst 0, 1) := by decide +kernel
theorem dX9_clear_34 : decode cX9_clear 34 = .ok (.putfield 55, 3) := by decide +kernel
theorem dX9_clear_37 : decode cX9_clear 37 = .ok (.return_, 1) := by decide +kernel
set_option maxRecDepth 20000 in
theorem ggX9_copyFrom_X9_copyRows : GoodIn wsX9_copyFrom wsX9_copyRows := goodIn_r _ [22, 23, 24, 25, 26, 9, 10, 11, 12] rfl (by decide +kernel)
set_option maxRecDepth 20000 in
theorem gX9_copyFrom_X9_copyRows : GoodIn wsX9_copyFrom (va_wsS RX9 64 yX9_copyRows wsX9_copyRows) := goodIn_app (goodIn_of _ (by decide +kernel)) ggX9_copyFrom_X9_copyRows
theorem dX9_copyFrom_0 : decode cX9_copyFrom 0 = .ok (.aload_n 0, 1) := by decide +kernel
theorem dX9_copyFrom_1 : decode cX9_copyFrom 1 = .ok (.aload_n 1, 1) := by decide +kernel
theorem dX9_copyFrom_2 : decode cX9_copyFrom 2 = .ok (.getfield 36, 3) := by decide +kernel
theorem dX9_copyFrom_5 : decode cX9_copyFrom 5 = .ok (.putfield 36, 3) := by decide +kernel
theorem dX9_copyFrom_8 : decode cX9_copyFrom 8 = .ok (.aload_n 0, 1) := by decide +kernel
theorem dX9_copyFrom_9 : decode cX9_copyFrom 9 = .ok (.aload_n 1, 1) := by decide +kernel
theorem dX9_copyFrom_10 : decode cX9_copyFrom 10 = .ok (.getfield 40, 3) := by decide +kernel
theorem dX9_copyFrom_13 : decode cX9_copyFrom 13 = .ok (.putfield 40, 3) := by decide +kernel
theorem dX9_copyFrom_16 : decode cX9_copyFrom 16 = .ok (.aload_n 0, 1) := by decide +kernel
theorem dX9_copyFrom_17 : decode cX9_copyFrom 17 = .ok (.aload_n 1, 1) := by decide +kernel
theorem dX9_copyFrom_18 : decode cX9_copyFrom 18 = .ok (.getfield 43, 3) := by decide +kernel
theorem dX9_copyFrom_21 : decode cX9_copyFrom 21 = .ok (.putfield 43, 3) := by decide +kernel
theorem dX9_copyFrom_24 : decode cX9_copyFrom 24 = .ok (.aload_n 0, 1) := by decide +kernel
theorem dX9_copyFrom_25 : decode cX9_copyFrom 25 = .ok (.aload_n 1, 1) := by decide +kernel
theorem dX9_copyFrom_26 : decode cX9_copyFrom 26 = .ok (.getfield 46, 3) := by decide +kernel
theorem dX9_copyFrom_29 : decode cX9_copyFrom 29 = .ok (.putfield 46, 3) := by decide +kernel
theorem dX9_copyFrom_32 : decode cX9_copyFrom 32 = .ok (.aload_n 0, 1) := by decide +kernel
theorem dX9_copyFrom_33 : decode cX9_copyFrom 33 = .ok (.aload_n 1, 1) := by decide +kernel
theorem dX9_copyFrom_34 : decode cX9_copyFrom 34 = .ok (.getfield 49, 3) := by decide +kernel
theorem dX9_copyFrom_37 : decode cX9_copyFrom 37 = .ok (.putfield 49, 3) := by decide +kernel
theorem dX9_copyFrom_40 : decode cX9_copyFrom 40 = .ok (.aload_n 0, 1) := by decide +kernel
theorem dX9_copyFrom_41 : decode cX9_copyFrom 41 = .ok (.aload_n 1, 1) := by decide +kernel
theorem dX9_copyFrom_42 : decode cX9_copyFrom 42 = .ok (.getfield 52, 3) := by decide +kernel
theorem dX9_copyFrom_45 : decode cX9_copyFrom 45 = .ok (.putfield 52, 3) := by decide +kernel
theorem dX9_copyFrom_48 : decode cX9_copyFrom 48 = .ok (.aload_n 0, 1) := by decide +kernel
theorem dX9_copyFrom_49 : decode cX9_copyFrom 49 = .ok (.aload_n 1, 1) := by decide +kernel
theorem dX9_copyFrom_50 : decode cX9_copyFrom 50 = .ok (.getfield 55, 3) := by decide +kernel
theorem dX9_copyFrom_53 : decode cX9_copyFrom 53 = .ok (.putfield 55, 3) := by decide +kernel
theorem dX9_copyFrom_56 : decode cX9_copyFrom 56 = .ok (.aload_n 1, 1) := by decide +kernel
theorem dX9_copyFrom_57 : decode cX9_copyFrom 57 = .ok (.getfield 9, 3) := by decide +kernel
theorem dX9_copyFrom_60 : decode cX9_copyFrom 60 = .ok (.iconst 0, 1) := by decide +kernel
theorem dX9_copyFrom_61 : decode cX9_copyFrom 61 = .ok (.aload_n 0, 1) := by decide +kernel
theorem dX9_copyFrom_62 : decode cX9_copyFrom 62 = .ok (.getfield 9, 3) := by decide +kernel
theorem dX9_copyFrom_65 : decode cX9_copyFrom 65 = .ok (.iconst 0, 1) := by decide +kernel
theorem dX9_copyFrom_66 : decode cX9_copyFrom 66 = .ok (.bipush 8, 2) := by decide +kernel
theorem dX9_copyFrom_68 : decode cX9_copyFrom 68 = .ok (.invokestatic 58, 3) := by decide +kernel
theorem dX9_copyFrom_71 : decode cX9_copyFrom 71 = .ok (.aload_n 1, 1) := by decide +kernel
theorem dX9_copyFrom_72 : decode cX9_copyFrom 72 = .ok (.getfield 15, 3) := by decide +kernel
theorem dX9_copyFrom_75 : decode cX9_copyFrom 75 = .ok (.iconst 0, 1) := by decide +kernel
theorem dX9_copyFrom_76 : decode cX9_copyFrom 76 = .ok (.aload_n 0, 1) := by decide +kernel
theorem dX9_copyFrom_77 : decode cX9_copyFrom 77 = .ok (.getfield 15, 3) := by decide +kernel
theorem dX9_copyFrom_80 : decode cX9_copyFrom 80 = .ok (.iconst 0, 1) := by decide +kernel
theorem dX9_copyFrom_81 : decode cX9_copyFrom 81 = .ok (.bipush 8, 2) := by decide +kernel
theorem dX9_copyFrom_83 : decode cX9_copyFrom 83 = .ok (.invokestatic 58, 3) := by decide +kernel
theorem dX9_copyFrom_86 : decode cX9_copyFrom 86 = .ok (.aload_n 1, 1) := by decide +kernel
theorem dX9_copyFrom_87 : decode cX9_copyFrom 87 = .ok (.getfield 32, 3) := by decide +kernel
theorem dX9_copyFrom_90 : decode cX9_copyFrom 90 = .ok (.iconst 0, 1) := by decide +kernel
theorem dX9_copyFrom_91 : decode cX9_copyFrom 91 = .ok (.aload_n 0, 1) := by decide +kernel
theorem dX9_copyFrom_92 : decode cX9_copyFrom 92 = .ok (.getfield 32, 3) := by decide +kernel
theorem dX9_copyFrom_95 : decode cX9_copyFrom 95 = .ok (.iconst 0, 1) := by decide +kernel
theorem dX9_copyFrom_96 : decode cX9_copyFrom 96 = .ok (.bipush 8, 2) := by decide +kernel
theorem dX9_copyFrom_98 : decode cX9_copyFrom 98 = .ok (.invokestatic 58, 3) := by decide +kernel
theorem dX9_copyFrom_101 : decode cX9_copyFrom 101 = .ok (.aload_n 1, 1) := by decide +kernel
theorem dX9_copyFrom_102 : decode cX9_copyFrom 102 = .ok (.getfield 20, 3) := by decide +kernel
theorem dX9_copyFrom_105 : decode cX9_copyFrom 105 = .ok (.aload_n 0, 1) := by decide +kernel
theorem dX9_copyFrom_106 : decode cX9_copyFrom 106 = .ok (.getfield 20, 3) := by decide +kernel
theorem dX9_copyFrom_109 : decode cX9_copyFrom 109 = .ok (.aload_n 0, 1) := by decide +kernel
theorem dX9_copyFrom_110 : decode cX9_copyFrom 110 = .ok (.getfield 49, 3) := by decide +kernel
theorem dX9_copyFrom_113 : decode cX9_copyFrom 113 = .ok (.invokestatic 64, 3) := by decide +kernel
theorem dX9_copyFrom_116 : decode cX9_copyFrom 116 = .ok (.aload_n 1, 1) := by decide +kernel
theorem dX9_copyFrom_117 : decode cX9_copyFrom 117 = .ok (.getfield 23, 3) := by decide +kernel
theorem dX9_copyFrom_120 : decode cX9_copyFrom 120 = .ok (.aload_n 0, 1) := by decide +kernel
theorem dX9_copyFrom_121 : decode cX9_copyFrom 121 = .ok (.getfield 23, 3) := by decide +kernel
theorem dX9_copyFrom_124 : decode cX9_copyFrom 124 = .ok (.aload_n 0, 1) := by decide +kernel
theorem dX9_copyFrom_125 : decode cX9_copyFrom 125 = .ok (.getfield 52, 3) := by decide +kernel
theorem dX9_copyFrom_128 : decode cX9_copyFrom 128 = .ok (.invokestatic 64, 3) := by decide +kernel
theorem dX9_copyFrom_131 : decode cX9_copyFrom 131 = .ok (.aload_n 1, 1) := by decide +kernel
theorem dX9_copyFrom_132 : decode cX9_copyFrom 132 = .ok (.getfield 26, 3) := by decide +kernel
theorem dX9_copyFrom_135 : decode cX9_copyFrom 135 = .ok (.aload_n 0, 1) := by decide +kernel
theorem dX9_copyFrom_136 : decode cX9_copyFrom 136 = .ok (.getfield 26, 3) := by decide +kernel
theorem dX9_copyFrom_139 : decode cX9_copyFrom 139 = .ok (.aload_n 0, 1) := by decide +kernel
theorem dX9_copyFrom_140 : decode cX9_copyFrom 140 = .ok (.getfield 55, 3) := by decide +kernel
theorem dX9_copyFrom_143 : decode cX9_copyFrom 143 = .ok (.invokestatic 64, 3) := by decide +kernel
theorem dX9_copyFrom_146 : decode cX9_copyFrom 146 = .ok (.aload_n 1, 1) := by decide +kernel
theorem dX9_copyFrom_147 : decode cX9_copyFrom 147 = .ok (.getfield 29, 3) := by decide +kernel
theorem dX9_copyFrom_150 : decode cX9_copyFrom 150 = .ok (.aload_n 0, 1) := by decide +kernel
theorem dX9_copyFrom_151 : decode cX9_copyFrom 151 = .ok (.getfield 29, 3) := by decide +kernel
theorem dX9_copyFrom_154 : decode cX9_copyFrom 154 = .ok (.aload_n 0, 1) := by decide +kernel
theorem dX9_copyFrom_155 : decode cX9_copyFrom 155 = .ok (.getfield 55, 3) := by decide +kernel
theorem dX9_copyFrom_158 : decode cX9_copyFrom 158 = .ok (.bipush 10, 2) := by decide +kernel
theorem dX9_copyFrom_160 : decode cX9_copyFrom 160 = .ok (.imul, 1) := by decide +kernel
theorem dX9_copyFrom_161 : decode cX9_copyFrom 161 = .ok (.invokestatic 64, 3) := by decide +kernel
theorem dX9_copyFrom_164 : decode cX9_copyFrom 164 = .ok (.return_, 1) := by decide +kernel
theorem dX9_copyRows_0 : decode cX9_copyRows 0 = .ok (.iconst 0, 1) := by decide +kernel
theorem dX9_copyRows_1 : decode cX9_copyRows 1 = .ok (.istore_n 3, 1) := by decide +kernel
theorem dX9_copyRows_2 : decode cX9_copyRows 2 = .ok (.iload_n 3, 1) := by decide +kernel
theorem dX9_copyRows_3 : decode cX9_copyRows 3 = .ok (.iload_n 2, 1) := by decide +kernel
theorem dX9_copyRows_4 : decode cX9_copyRows 4 = .ok (.if_icmp .ge 43, 3) := by decide +kernel
theorem dX9_copyRows_7 : decode cX9_copyRows 7 = .ok (.iload_n 3, 1) := by decide +kernel
theorem dX9_copyRows_8 : decode cX9_copyRows 8 = .ok (.aload_n 0, 1) := by decide +kernel
theorem dX9_copyRows_9 : decode cX9_copyRows 9 = .ok (.arraylength, 1) := by decide +kernel
theorem dX9_copyRows_10 : decode cX9_copyRows 10 = .ok (.if_icmp .ge 37, 3) := by decide +kernel
theorem dX9_copyRows_13 : decode cX9_copyRows 13 = .ok (.iload_n 3, 1) := by decide +kernel
theorem dX9_copyRows_14 : decode cX9_copyRows 14 = .ok (.aload_n 1, 1) := by decide +kernel
theorem dX9_copyRows_15 : decode cX9_copyRows 15 = .ok (.arraylength, 1) := by decide +kernel
theorem dX9_copyRows_16 : decode cX9_copyRows 16 = .ok (.if_icmp .ge 31, 3) := by decide +kernel
theorem dX9_copyRows_19 : decode cX9_copyRows 19 = .ok (.aload_n 0, 1) := by decide +kernel
theorem dX9_copyRows_20 : decode cX9_copyRows 20 = .ok (.iload_n 3, 1) := by decide +kernel
theorem dX9_copyRows_21 : decode cX9_copyRows 21 = .ok (.aaload, 1) := by decide +kernel
theorem dX9_copyRows_22 : decode cX9_copyRows 22 = .ok (.iconst 0, 1) := by decide +kernel
theorem dX9_copyRows_23 : decode cX9_copyRows 23 = .ok (.aload_n 1, 1) := by decide +kernel
theorem dX9_copyRows_24 : decode cX9_copyRows 24 = .ok (.iload_n 3, 1) := by decide +kernel
theorem dX9_copyRows_25 : decode cX9_copyRows 25 = .ok (.aaload, 1) := by decide +kernel
theorem dX9_copyRows_26 : decode cX9_copyRows 26 = .ok (.iconst 0, 1) := by decide +kernel
theorem dX9_copyRows_27 : decode cX9_copyRows 27 = .ok (.aload_n 0, 1) := by decide +kernel
theorem dX9_copyRows_28 : decode cX9_copyRows 28 = .ok (.iload_n 3, 1) := by decide +kernel
theorem dX9_copyRows_29 : decode cX9_copyRows 29 = .ok (.aaload, 1) := by decide +kernel
theorem dX9_copyRows_30 : decode cX9_copyRows 30 = .ok (.arraylength, 1) := by decide +kernel
theorem dX9_copyRows_31 : decode cX9_copyRows 31 = .ok (.aload_n 1, 1) := by decide +kernel
theorem dX9_copyRows_32 : decode cX9_copyRows 32 = .ok (.iload_n 3, 1) := by decide +kernel
theorem dX9_copyRows_33 : decode cX9_copyRows 33 = .ok (.aaload, 1) := by decide +kernel
theorem dX9_copyRows_34 : decode cX9_copyRows 34 = .ok (.arraylength, 1) := by decide +kernel
theorem dX9_copyRows_35 : decode cX9_copyRows 35 = .ok (.invokestatic 68, 3) := by decide +kernel
theorem dX9_copyRows_38 : decode cX9_copyRows 38 = .ok (.invokestatic 58, 3) := by decide +kernel
theorem dX9_copyRows_41 : decode cX9_copyRows 41 = .ok (.iinc 3 1, 3) := by decide +kernel
theorem dX9_copyRows_44 : decode cX9_copyRows 44 = .ok (.goto (-42), 3) := by decide +kernel
theorem dX9_copyRows_47 : decode cX9_copyRows 47 = .ok (.return_, 1) := by decide +kernel
theorem dX9_hasHill_0 : decode cX9_hasHill 0 = .ok (.iload_n 1, 1) := by decide +kernel
theorem dX9_hasHill_1 : decode cX9_hasHill 1 = .ok (.ifCond .lt 15, 3) := by decide +kernel
theorem dX9_hasHill_4 : decode cX9_hasHill 4 = .ok (.iload_n 1, 1) := by decide +kernel
theorem dX9_hasHill_5 : decode cX9_hasHill 5 = .ok (.aload_n 0, 1) := by decide +kernel
theorem dX9_hasHill_6 : decode cX9_hasHill 6 = .ok (.getfield 49, 3) := by decide +kernel
theorem dX9_hasHill_9 : decode cX9_hasHill 9 = .ok (.if_icmp .ge 7, 3) := by decide +kernel
theorem dX9_hasHill_12 : decode cX9_hasHill 12 = .ok (.iconst 1, 1) := by decide +kernel
theorem dX9_hasHill_13 : decode cX9_hasHill 13 = .ok (.goto 4, 3) := by decide +kernel
theorem dX9_hasHill_16 : decode cX9_hasHill 16 = .ok (.iconst 0, 1) := by decide +kernel
theorem dX9_hasHill_17 : decode cX9_hasHill 17 = .ok (.ireturn, 1) := by decide +kernel
theorem dX9_hasMan_0 : decode cX9_hasMan 0 = .ok (.iload_n 1, 1) := by decide +kernel
theorem dX9_hasMan_1 : decode cX9_hasMan 1 = .ok (.ifCond .lt 15, 3) := by decide +kernel
theorem dX9_hasMan_4 : decode cX9_hasMan 4 = .ok (.iload_n 1, 1) := by decide +kernel
theorem dX9_hasMan_5 : decode cX9_hasMan 5 = .ok (.aload_n 0, 1) := by decide +kernel
theorem dX9_hasMan_6 : decode cX9_hasMan 6 = .ok (.getfield 52, 3) := by decide +kernel
theorem dX9_hasMan_9 : decode cX9_hasMan 9 = .ok (.if_icmp .ge 7, 3) := by decide +kernel
theorem dX9_hasMan_12 : decode cX9_hasMan 12 = .ok (.iconst 1, 1) := by decide +kernel
theorem dX9_hasMan_13 : decode cX9_hasMan 13 = .ok (.goto 4, 3) := by decide +kernel
theorem dX9_hasMan_16 : decode cX9_hasMan 16 = .ok (.iconst 0, 1) := by decide +kernel
theorem dX9_hasMan_17 : decode cX9_hasMan 17 = .ok (.ireturn, 1) := by decide +kernel
theorem dX9_hasFlight_0 : decode cX9_hasFlight 0 = .ok (.iload_n 1, 1) := by decide +kernel
theorem dX9_hasFlight_1 : decode cX9_hasFlight 1 = .ok (.ifCond .lt 15, 3) := by decide +kernel
theorem dX9_hasFlight_4 : decode cX9_hasFlight 4 = .ok (.iload_n 1, 1) := by decide +kernel
theorem dX9_hasFlight_5 : decode cX9_hasFlight 5 = .ok (.aload_n 0, 1) := by decide +kernel
theorem dX9_hasFlight_6 : decode cX9_hasFlight 6 = .ok (.getfield 55, 3) := by decide +kernel
theorem dX9_hasFlight_9 : decode cX9_hasFlight 9 = .ok (.if_icmp .ge 7, 3) := by decide +kernel
theorem dX9_hasFlight_12 : decode cX9_hasFlight 12 = .ok (.iconst 1, 1) := by decide +kernel
theorem dX9_hasFlight_13 : decode cX9_hasFlight 13 = .ok (.goto 4, 3) := by decide +kernel
theorem dX9_hasFlight_16 : decode cX9_hasFlight 16 = .ok (.iconst 0, 1) := by decide +kernel
theorem dX9_hasFlight_17 : decode cX9_hasFlight 17 = .ok (.ireturn, 1) := by decide +kernel
set_option maxRecDepth 20000 in
theorem ggX9_hasCall_X9_hasFlight : GoodIn wsX9_hasCall wsX9_hasFlight := goodIn_r _ [6, 7, 8, 9, 10, 11, 12, 13, 14, 15, 16, 17, 18, 19, 20, 21] rfl (by decide +kernel)
set_option maxRecDepth 20000 in
theorem gX9_hasCall_X9_hasFlight : GoodIn wsX9_hasCall (wsV RX9 74 RX9 yX9_hasFlight wsX9_hasFlight) := goodIn_app (goodIn_of _ (by decide +kernel)) ggX9_hasCall_X9_hasFlight
theorem dX9_hasCall_0 : decode cX9_hasCall 0 = .ok (.aload_n 0, 1) := by decide +kernel
theorem dX9_hasCall_1 : decode cX9_hasCall 1 = .ok (.iload_n 1, 1) := by decide +kernel
theorem dX9_hasCall_2 : decode cX9_hasCall 2 = .ok (.invokevirtual 74, 3) := by decide +kernel
theorem dX9_hasCall_5 : decode cX9_hasCall 5 = .ok (.ifCond .eq 23, 3) := by decide +kernel
theorem dX9_hasCall_8 : decode cX9_hasCall 8 = .ok (.iload_n 2, 1) := by decide +kernel
theorem dX9_hasCall_9 : decode cX9_hasCall 9 = .ok (.ifCond .lt 19, 3) := by decide +kernel
theorem dX9_hasCall_12 : decode cX9_hasCall 12 = .ok (.iload_n 2, 1) := by decide +kernel
theorem dX9_hasCall_13 : decode cX9_hasCall 13 = .ok (.aload_n 0, 1) := by decide +kernel
theorem dX9_hasCall_14 : decode cX9_hasCall 14 = .ok (.getfield 26, 3) := by decide +kernel
theorem dX9_hasCall_17 : decode cX9_hasCall 17 = .ok (.iload_n 1, 1) := by decide +kernel
theorem dX9_hasCall_18 : decode cX9_hasCall 18 = .ok (.aaload, 1) := by decide +kernel
theorem dX9_hasCall_19 : decode cX9_hasCall 19 = .ok (.iconst 2, 1) := by decide +kernel
theorem dX9_hasCall_20 : decode cX9_hasCall 20 = .ok (.iaload, 1) := by decide +kernel
theorem dX9_hasCall_21 : decode cX9_hasCall 21 = .ok (.if_icmp .ge 7, 3) := by decide +kernel
theorem dX9_hasCall_24 : decode cX9_hasCall 24 = .ok (.iconst 1, 1) := by decide +kernel
theorem dX9_hasCall_25 : decode cX9_hasCall 25 = .ok (.goto 4, 3) := by decide +kernel
theorem dX9_hasCall_28 : decode cX9_hasCall 28 = .ok (.iconst 0, 1) := by decide +kernel
theorem dX9_hasCall_29 : decode cX9_hasCall 29 = .ok (.ireturn, 1) := by decide +kernel
theorem dX9_callRow_0 : decode cX9_callRow 0 = .ok (.aload_n 0, 1) := by decide +kernel
theorem dX9_callRow_1 : decode cX9_callRow 1 = .ok (.getfield 29, 3) := by decide +kernel
theorem dX9_callRow_4 : decode cX9_callRow 4 = .ok (.iload_n 1, 1) := by decide +kernel
theorem dX9_callRow_5 : decode cX9_callRow 5 = .ok (.bipush 10, 2) := by decide +kernel
theorem dX9_callRow_7 : decode cX9_callRow 7 = .ok (.imul, 1) := by decide +kernel
theorem dX9_callRow_8 : decode cX9_callRow 8 = .ok (.iload_n 2, 1) := by decide +kernel
theorem dX9_callRow_9 : decode cX9_callRow 9 = .ok (.iadd, 1) := by decide +kernel
theorem dX9_callRow_10 : decode cX9_callRow 10 = .ok (.aaload, 1) := by decide +kernel
theorem dX9_callRow_11 : decode cX9_callRow 11 = .ok (.areturn, 1) := by decide +kernel
set_option maxRecDepth 20000 in
theorem ggX9_callIn_X9_callRow : GoodIn wsX9_callIn wsX9_callRow := goodIn_r _ [6, 7, 8, 9, 10, 11, 12, 13, 14, 15, 16, 17, 18, 19, 20, 21] rfl (by decide +kernel)
set_option maxRecDepth 20000 in
theorem gX9_callIn_X9_callRow : GoodIn wsX9_callIn (wsV RX9 78 RX9 yX9_callRow wsX9_callRow) := goodIn_app (goodIn_of _ (by decide +kernel)) ggX9_callIn_X9_callRow
theorem dX9_callIn_0 : decode cX9_callIn 0 = .ok (.iconst 0, 1) := by decide +kernel
theorem dX9_callIn_1 : decode cX9_callIn 1 = .ok (.istore_n 3, 1) := by decide +kernel
theorem dX9_callIn_2 : decode cX9_callIn 2 = .ok (.iload_n 3, 1) := by decide +kernel
theorem dX9_callIn_3 : decode cX9_callIn 3 = .ok (.aload_n 0, 1) := by decide +kernel
theorem dX9_callIn_4 : decode cX9_callIn 4 = .ok (.getfield 26, 3) := by decide +kernel
theorem dX9_callIn_7 : decode cX9_callIn 7 = .ok (.iload_n 1, 1) := by decide +kernel
theorem dX9_callIn_8 : decode cX9_callIn 8 = .ok (.aaload, 1) := by decide +kernel
theorem dX9_callIn_9 : decode cX9_callIn 9 = .ok (.iconst 2, 1) := by decide +kernel
theorem dX9_callIn_10 : decode cX9_callIn 10 = .ok (.iaload, 1) := by decide +kernel
theorem dX9_callIn_11 : decode cX9_callIn 11 = .ok (.if_icmp .ge 23, 3) := by decide +kernel
theorem dX9_callIn_14 : decode cX9_callIn 14 = .ok (.aload_n 0, 1) := by decide +kernel
theorem dX9_callIn_15 : decode cX9_callIn 15 = .ok (.iload_n 1, 1) := by decide +kernel
theorem dX9_callIn_16 : decode cX9_callIn 16 = .ok (.iload_n 3, 1) := by decide +kernel
theorem dX9_callIn_17 : decode cX9_callIn 17 = .ok (.invokevirtual 78, 3) := by decide +kernel
theorem dX9_callIn_20 : decode cX9_callIn 20 = .ok (.iconst 0, 1) := by decide +kernel
theorem dX9_callIn_21 : decode cX9_callIn 21 = .ok (.iaload, 1) := by decide +kernel
theorem dX9_callIn_22 : decode cX9_callIn 22 = .ok (.iload_n 2, 1) := by decide +kernel
theorem dX9_callIn_23 : decode cX9_callIn 23 = .ok (.if_icmp .ne 5, 3) := by decide +kernel
theorem dX9_callIn_26 : decode cX9_callIn 26 = .ok (.iload_n 3, 1) := by decide +kernel
theorem dX9_callIn_27 : decode cX9_callIn 27 = .ok (.ireturn, 1) := by decide +kernel
theorem dX9_callIn_28 : decode cX9_callIn 28 = .ok (.iinc 3 1, 3) := by decide +kernel
theorem dX9_callIn_31 : decode cX9_callIn 31 = .ok (.goto (-29), 3) := by decide +kernel
theorem dX9_callIn_34 : decode cX9_callIn 34 = .ok (.iconst (-1), 1) := by decide +kernel
theorem dX9_callIn_35 : decode cX9_callIn 35 = .ok (.ireturn, 1) := by decide +kernel
theorem dX9_side_0 : decode cX9_side 0 = .ok (.iload_n 1, 1) := by decide +kernel
theorem dX9_side_1 : decode cX9_side 1 = .ok (.aload_n 0, 1) := by decide +kernel
theorem dX9_side_2 : decode cX9_side 2 = .ok (.getfield 36, 3) := by decide +kernel
theorem dX9_side_5 : decode cX9_side 5 = .ok (.if_icmp .le 7, 3) := by decide +kernel
theorem dX9_side_8 : decode cX9_side 8 = .ok (.iconst 1, 1) := by decide +kernel
theorem dX9_side_9 : decode cX9_side 9 = .ok (.goto 4, 3) := by decide +kernel
theorem dX9_side_12 : decode cX9_side 12 = .ok (.iconst 0, 1) := by decide +kernel
theorem dX9_side_13 : decode cX9_side 13 = .ok (.ireturn, 1) := by decide +kernel
theorem dX9_allMen_0 : decode cX9_allMen 0 = .ok (.iconst 1, 1) := by decide +kernel
theorem dX9_allMen_1 : decode cX9_allMen 1 = .ok (.aload_n 0, 1) := by decide +kernel
theorem dX9_allMen_2 : decode cX9_allMen 2 = .ok (.getfield 52, 3) := by decide +kernel
theorem dX9_allMen_5 : decode cX9_allMen 5 = .ok (.ishl, 1) := by decide +kernel
theorem dX9_allMen_6 : decode cX9_allMen 6 = .ok (.iconst 1, 1) := by decide +kernel
theorem dX9_allMen_7 : decode cX9_allMen 7 = .ok (.isub, 1) := by decide +kernel
theorem dX9_allMen_8 : decode cX9_allMen 8 = .ok (.ireturn, 1) := by decide +kernel
theorem dX9_chances_0 : decode cX9_chances 0 = .ok (.iconst 0, 1) := by decide +kernel
theorem dX9_chances_1 : decode cX9_chances 1 = .ok (.istore_n 1, 1) := by decide +kernel
theorem dX9_chances_2 : decode cX9_chances 2 = .ok (.iconst 0, 1) := by decide +kernel
theorem dX9_chances_3 : decode cX9_chances 3 = .ok (.istore_n 2, 1) := by decide +kernel
theorem dX9_chances_4 : decode cX9_chances 4 = .ok (.iload_n 2, 1) := by decide +kernel
theorem dX9_chances_5 : decode cX9_chances 5 = .ok (.aload_n 0, 1) := by decide +kernel
theorem dX9_chances_6 : decode cX9_chances 6 = .ok (.getfield 55, 3) := by decide +kernel
theorem dX9_chances_9 : decode cX9_chances 9 = .ok (.if_icmp .ge 20, 3) := by decide +kernel
theorem dX9_chances_12 : decode cX9_chances 12 = .ok (.iload_n 1, 1) := by decide +kernel
theorem dX9_chances_13 : decode cX9_chances 13 = .ok (.aload_n 0, 1) := by decide +kernel
theorem dX9_chances_14 : decode cX9_chances 14 = .ok (.getfield 26, 3) := by decide +kernel
theorem dX9_chances_17 : decode cX9_chances 17 = .ok (.iload_n 2, 1) := by decide +kernel
theorem dX9_chances_18 : decode cX9_chances 18 = .ok (.aaload, 1) := by decide +kernel
theorem dX9_chances_19 : decode cX9_chances 19 = .ok (.iconst 0, 1) := by decide +kernel
theorem dX9_chances_20 : decode cX9_chances 20 = .ok (.iaload, 1) := by decide +kernel
theorem dX9_chances_21 : decode cX9_chances 21 = .ok (.iadd, 1) := by decide +kernel
theorem dX9_chances_22 : decode cX9_chances 22 = .ok (.istore_n 1, 1) := by decide +kernel
theorem dX9_chances_23 : decode cX9_chances 23 = .ok (.iinc 2 1, 3) := by decide +kernel
theorem dX9_chances_26 : decode cX9_chances 26 = .ok (.goto (-22), 3) := by decide +kernel
theorem dX9_chances_29 : decode cX9_chances 29 = .ok (.iload_n 1, 1) := by decide +kernel
theorem dX9_chances_30 : decode cX9_chances 30 = .ok (.ireturn, 1) := by decide +kernel
theorem dX9_flightDrawn_0 : decode cX9_flightDrawn 0 = .ok (.iload_n 1, 1) := by decide +kernel
theorem dX9_flightDrawn_1 : decode cX9_flightDrawn 1 = .ok (.istore_n 2, 1) := by decide +kernel
theorem dX9_flightDrawn_2 : decode cX9_flightDrawn 2 = .ok (.iconst 0, 1) := by decide +kernel
theorem dX9_flightDrawn_3 : decode cX9_flightDrawn 3 = .ok (.istore_n 3, 1) := by decide +kernel
theorem dX9_flightDrawn_4 : decode cX9_flightDrawn 4 = .ok (.iload_n 3, 1) := by decide +kernel
theorem dX9_flightDrawn_5 : decode cX9_flightDrawn 5 = .ok (.aload_n 0, 1) := by decide +kernel
theorem dX9_flightDrawn_6 : decode cX9_flightDrawn 6 = .ok (.getfield 55, 3) := by decide +kernel
theorem dX9_flightDrawn_9 : decode cX9_flightDrawn 9 = .ok (.if_icmp .ge 26, 3) := by decide +kernel
theorem dX9_flightDrawn_12 : decode cX9_flightDrawn 12 = .ok (.iload_n 2, 1) := by decide +kernel
theorem dX9_flightDrawn_13 : decode cX9_flightDrawn 13 = .ok (.aload_n 0, 1) := by decide +kernel
theorem dX9_flightDrawn_14 : decode cX9_flightDrawn 14 = .ok (.getfield 26, 3) := by decide +kernel
theorem dX9_flightDrawn_17 : decode cX9_flightDrawn 17 = .ok (.iload_n 3, 1) := by decide +kernel
theorem dX9_flightDrawn_18 : decode cX9_flightDrawn 18 = .ok (.aaload, 1) := by decide +kernel
theorem dX9_flightDrawn_19 : decode cX9_flightDrawn 19 = .ok (.iconst 0, 1) := by decide +kernel
theorem dX9_flightDrawn_20 : decode cX9_flightDrawn 20 = .ok (.iaload, 1) := by decide +kernel
theorem dX9_flightDrawn_21 : decode cX9_flightDrawn 21 = .ok (.isub, 1) := by decide +kernel
theorem dX9_flightDrawn_22 : decode cX9_flightDrawn 22 = .ok (.istore_n 2, 1) := by decide +kernel
theorem dX9_flightDrawn_23 : decode cX9_flightDrawn 23 = .ok (.iload_n 2, 1) := by decide +kernel
theorem dX9_flightDrawn_24 : decode cX9_flightDrawn 24 = .ok (.ifCond .ge 5, 3) := by decide +kernel
theorem dX9_flightDrawn_27 : decode cX9_flightDrawn 27 = .ok (.iload_n 3, 1) := by decide +kernel
theorem dX9_flightDrawn_28 : decode cX9_flightDrawn 28 = .ok (.ireturn, 1) := by decide +kernel
theorem dX9_flightDrawn_29 : decode cX9_flightDrawn 29 = .ok (.iinc 3 1, 3) := by decide +kernel
theorem dX9_flightDrawn_32 : decode cX9_flightDrawn 32 = .ok (.goto (-28), 3) := by decide +kernel
theorem dX9_flightDrawn_35 : decode cX9_flightDrawn 35 = .ok (.iconst (-1), 1) := by decide +kernel
theorem dX9_flightDrawn_36 : decode cX9_flightDrawn 36 = .ok (.ireturn, 1) := by decide +kernel
theorem dX9_windAt_0 : decode cX9_windAt 0 = .ok (.aload_n 0, 1) := by decide +kernel
theorem dX9_windAt_1 : decode cX9_windAt 1 = .ok (.getfield 43, 3) := by decide +kernel
theorem dX9_windAt_4 : decode cX9_windAt 4 = .ok (.tableswitch 100 3 6 #[32, 49, 66, 83], 32) := by decide +kernel
theorem dX9_windAt_36 : decode cX9_windAt 36 = .ok (.iload_n 2, 1) := by decide +kernel
theorem dX9_windAt_37 : decode cX9_windAt 37 = .ok (.aload_n 3, 1) := by decide +kernel
theorem dX9_windAt_38 : decode cX9_windAt 38 = .ok (.iconst 2, 1) := by decide +kernel
theorem dX9_windAt_39 : decode cX9_windAt 39 = .ok (.iaload, 1) := by decide +kernel
theorem dX9_windAt_40 : decode cX9_windAt 40 = .ok (.if_icmp .ge 7, 3) := by decide +kernel
theorem dX9_windAt_43 : decode cX9_windAt 43 = .ok (.iconst 1, 1) := by decide +kernel
theorem dX9_windAt_44 : decode cX9_windAt 44 = .ok (.goto 4, 3) := by decide +kernel
theorem dX9_windAt_47 : decode cX9_windAt 47 = .ok (.iconst 0, 1) := by decide +kernel
theorem dX9_windAt_48 : decode cX9_windAt 48 = .ok (.istore 4, 2) := by decide +kernel
theorem dX9_windAt_50 : decode cX9_windAt 50 = .ok (.goto 57, 3) := by decide +kernel
theorem dX9_windAt_53 : decode cX9_windAt 53 = .ok (.iload_n 1, 1) := by decide +kernel
theorem dX9_windAt_54 : decode cX9_windAt 54 = .ok (.aload_n 3, 1) := by decide +kernel
theorem dX9_windAt_55 : decode cX9_windAt 55 = .ok (.iconst 1, 1) := by decide +kernel
theorem dX9_windAt_56 : decode cX9_windAt 56 = .ok (.iaload, 1) := by decide +kernel
theorem dX9_windAt_57 : decode cX9_windAt 57 = .ok (.if_icmp .le 7, 3) := by decide +kernel
theorem dX9_windAt_60 : decode cX9_windAt 60 = .ok (.iconst 1, 1) := by decide +kernel
theorem dX9_windAt_61 : decode cX9_windAt 61 = .ok (.goto 4, 3) := by decide +kernel
theorem dX9_windAt_64 : decode cX9_windAt 64 = .ok (.iconst 0, 1) := by decide +kernel
theorem dX9_windAt_65 : decode cX9_windAt 65 = .ok (.istore 4, 2) := by decide +kernel
theorem dX9_windAt_67 : decode cX9_windAt 67 = .ok (.goto 40, 3) := by decide +kernel
theorem dX9_windAt_70 : decode cX9_windAt 70 = .ok (.iload_n 2, 1) := by decide +kernel
theorem dX9_windAt_71 : decode cX9_windAt 71 = .ok (.aload_n 3, 1) := by decide +kernel
theorem dX9_windAt_72 : decode cX9_windAt 72 = .ok (.iconst 2, 1) := by decide +kernel
theorem dX9_windAt_73 : decode cX9_windAt 73 = .ok (.iaload, 1) := by decide +kernel
theorem dX9_windAt_74 : decode cX9_windAt 74 = .ok (.if_icmp .le 7, 3) := by decide +kernel
theorem dX9_windAt_77 : decode cX9_windAt 77 = .ok (.iconst 1, 1) := by decide +kernel
theorem dX9_windAt_78 : decode cX9_windAt 78 = .ok (.goto 4, 3) := by decide +kernel
theorem dX9_windAt_81 : decode cX9_windAt 81 = .ok (.iconst 0, 1) := by decide +kernel
theorem dX9_windAt_82 : decode cX9_windAt 82 = .ok (.istore 4, 2) := by decide +kernel
theorem dX9_windAt_84 : decode cX9_windAt 84 = .ok (.goto 23, 3) := by decide +kernel
theorem dX9_windAt_87 : decode cX9_windAt 87 = .ok (.iload_n 1, 1) := by decide +kernel
theorem dX9_windAt_88 : decode cX9_windAt 88 = .ok (.aload_n 3, 1) := by decide +kernel
theorem dX9_windAt_89 : decode cX9_windAt 89 = .ok (.iconst 1, 1) := by decide +kernel
theorem dX9_windAt_90 : decode cX9_windAt 90 = .ok (.iaload, 1) := by decide +kernel
theorem dX9_windAt_91 : decode cX9_windAt 91 = .ok (.if_icmp .ge 7, 3) := by decide +kernel
theorem dX9_windAt_94 : decode cX9_windAt 94 = .ok (.iconst 1, 1) := by decide +kernel
theorem dX9_windAt_95 : decode cX9_windAt 95 = .ok (.goto 4, 3) := by decide +kernel
theorem dX9_windAt_98 : decode cX9_windAt 98 = .ok (.iconst 0, 1) := by decide +kernel
theorem dX9_windAt_99 : decode cX9_windAt 99 = .ok (.istore 4, 2) := by decide +kernel
theorem dX9_windAt_101 : decode cX9_windAt 101 = .ok (.goto 6, 3) := by decide +kernel
theorem dX9_windAt_104 : decode cX9_windAt 104 = .ok (.iconst 0, 1) := by decide +kernel
theorem dX9_windAt_105 : decode cX9_windAt 105 = .ok (.istore 4, 2) := by decide +kernel
theorem dX9_windAt_107 : decode cX9_windAt 107 = .ok (.iload 4, 2) := by decide +kernel
theorem dX9_windAt_109 : decode cX9_windAt 109 = .ok (.ifCond .eq 10, 3) := by decide +kernel
theorem dX9_windAt_112 : decode cX9_windAt 112 = .ok (.aload_n 0, 1) := by decide +kernel
theorem dX9_windAt_113 : decode cX9_windAt 113 = .ok (.getfield 46, 3) := by decide +kernel
theorem dX9_windAt_116 : decode cX9_windAt 116 = .ok (.goto 4, 3) := by decide +kernel
theorem dX9_windAt_119 : decode cX9_windAt 119 = .ok (.iconst 0, 1) := by decide +kernel
theorem dX9_windAt_120 : decode cX9_windAt 120 = .ok (.ireturn, 1) := by decide +kernel
theorem dX9_weight_0 : decode cX9_weight 0 = .ok (.aload_n 0, 1) := by decide +kernel
theorem dX9_weight_1 : decode cX9_weight 1 = .ok (.getfield 23, 3) := by decide +kernel
theorem dX9_weight_4 : decode cX9_weight 4 = .ok (.iload_n 1, 1) := by decide +kernel
theorem dX9_weight_5 : decode cX9_weight 5 = .ok (.aaload, 1) := by decide +kernel
theorem dX9_weight_6 : decode cX9_weight 6 = .ok (.iconst 3, 1) := by decide +kernel
theorem dX9_weight_7 : decode cX9_weight 7 = .ok (.iaload, 1) := by decide +kernel
theorem dX9_weight_8 : decode cX9_weight 8 = .ok (.iconst 1, 1) := by decide +kernel
theorem dX9_weight_9 : decode cX9_weight 9 = .ok (.if_icmp .ne 7, 3) := by decide +kernel
theorem dX9_weight_12 : decode cX9_weight 12 = .ok (.iconst 1, 1) := by decide +kernel
theorem dX9_weight_13 : decode cX9_weight 13 = .ok (.goto 4, 3) := by decide +kernel
theorem dX9_weight_16 : decode cX9_weight 16 = .ok (.iconst 3, 1) := by decide +kernel
theorem dX9_weight_17 : decode cX9_weight 17 = .ok (.ireturn, 1) := by decide +kernel
theorem dX9_numberOf_0 : decode cX9_numberOf 0 = .ok (.iconst 0, 1) := by decide +kernel
theorem dX9_numberOf_1 : decode cX9_numberOf 1 = .ok (.istore 5, 2) := by decide +kernel
theorem dX9_numberOf_3 : decode cX9_numberOf 3 = .ok (.iload 5, 2) := by decide +kernel
theorem dX9_numberOf_5 : decode cX9_numberOf 5 = .ok (.iload 4, 2) := by decide +kernel
theorem dX9_numberOf_7 : decode cX9_numberOf 7 = .ok (.if_icmp .ge 28, 3) := by decide +kernel
theorem dX9_numberOf_10 : decode cX9_numberOf 10 = .ok (.iload 5, 2) := by decide +kernel
theorem dX9_numberOf_12 : decode cX9_numberOf 12 = .ok (.aload_n 3, 1) := by decide +kernel
theorem dX9_numberOf_13 : decode cX9_numberOf 13 = .ok (.arraylength, 1) := by decide +kernel
theorem dX9_numberOf_14 : decode cX9_numberOf 14 = .ok (.if_icmp .ge 21, 3) := by decide +kernel
theorem dX9_numberOf_17 : decode cX9_numberOf 17 = .ok (.aload_n 3, 1) := by decide +kernel
theorem dX9_numberOf_18 : decode cX9_numberOf 18 = .ok (.iload 5, 2) := by decide +kernel
theorem dX9_numberOf_20 : decode cX9_numberOf 20 = .ok (.laload, 1) := by decide +kernel
theorem dX9_numberOf_21 : decode cX9_numberOf 21 = .ok (.lload_n 1, 1) := by decide +kernel
theorem dX9_numberOf_22 : decode cX9_numberOf 22 = .ok (.lcmp, 1) := by decide +kernel
theorem dX9_numberOf_23 : decode cX9_numberOf 23 = .ok (.ifCond .ne 6, 3) := by decide +kernel
theorem dX9_numberOf_26 : decode cX9_numberOf 26 = .ok (.iload 5, 2) := by decide +kernel
theorem dX9_numberOf_28 : decode cX9_numberOf 28 = .ok (.ireturn, 1) := by decide +kernel
theorem dX9_numberOf_29 : decode cX9_numberOf 29 = .ok (.iinc 5 1, 3) := by decide +kernel
theorem dX9_numberOf_32 : decode cX9_numberOf 32 = .ok (.goto (-29), 3) := by decide +kernel
theorem dX9_numberOf_35 : decode cX9_numberOf 35 = .ok (.iconst (-1), 1) := by decide +kernel
theorem dX9_numberOf_36 : decode cX9_numberOf 36 = .ok (.ireturn, 1) := by decide +kernel
set_option maxRecDepth 20000 in
theorem ggX9_isTold_X9_numberOf : GoodIn wsX9_isTold wsX9_numberOf := goodIn_r _ [9] rfl (by decide +kernel)
set_option maxRecDepth 20000 in
theorem gX9_isTold_X9_numberOf : GoodIn wsX9_isTold (wsV RX9 82 RX9 yX9_numberOf wsX9_numberOf) := goodIn_app (goodIn_of _ (by decide +kernel)) ggX9_isTold_X9_numberOf
theorem dX9_isTold_0 : decode cX9_isTold 0 = .ok (.aload_n 0, 1) := by decide +kernel
theorem dX9_isTold_1 : decode cX9_isTold 1 = .ok (.lload_n 1, 1) := by decide +kernel
theorem dX9_isTold_2 : decode cX9_isTold 2 = .ok (.aload_n 0, 1) := by decide +kernel
theorem dX9_isTold_3 : decode cX9_isTold 3 = .ok (.getfield 9, 3) := by decide +kernel
theorem dX9_isTold_6 : decode cX9_isTold 6 = .ok (.aload_n 0, 1) := by decide +kernel
theorem dX9_isTold_7 : decode cX9_isTold 7 = .ok (.getfield 49, 3) := by decide +kernel
theorem dX9_isTold_10 : decode cX9_isTold 10 = .ok (.invokevirtual 82, 3) := by decide +kernel
theorem dX9_isTold_13 : decode cX9_isTold 13 = .ok (.iconst (-1), 1) := by decide +kernel
theorem dX9_isTold_14 : decode cX9_isTold 14 = .ok (.if_icmp .ne 20, 3) := by decide +kernel
theorem dX9_isTold_17 : decode cX9_isTold 17 = .ok (.aload_n 0, 1) := by decide +kernel
theorem dX9_isTold_18 : decode cX9_isTold 18 = .ok (.lload_n 1, 1) := by decide +kernel
theorem dX9_isTold_19 : decode cX9_isTold 19 = .ok (.aload_n 0, 1) := by decide +kernel
theorem dX9_isTold_20 : decode cX9_isTold 20 = .ok (.getfield 15, 3) := by decide +kernel
theorem dX9_isTold_23 : decode cX9_isTold 23 = .ok (.aload_n 0, 1) := by decide +kernel
theorem dX9_isTold_24 : decode cX9_isTold 24 = .ok (.getfield 52, 3) := by decide +kernel
theorem dX9_isTold_27 : decode cX9_isTold 27 = .ok (.invokevirtual 82, 3) := by decide +kernel
theorem dX9_isTold_30 : decode cX9_isTold 30 = .ok (.iconst (-1), 1) := by decide +kernel
theorem dX9_isTold_31 : decode cX9_isTold 31 = .ok (.if_icmp .eq 7, 3) := by decide +kernel
theorem dX9_isTold_34 : decode cX9_isTold 34 = .ok (.iconst 1, 1) := by decide +kernel
theorem dX9_isTold_35 : decode cX9_isTold 35 = .ok (.goto 4, 3) := by decide +kernel
theorem dX9_isTold_38 : decode cX9_isTold 38 = .ok (.iconst 0, 1) := by decide +kernel
theorem dX9_isTold_39 : decode cX9_isTold 39 = .ok (.ireturn, 1) := by decide +kernel
set_option maxRecDepth 20000 in
theorem ggX9_noteEchoes_X9_hasMan : GoodIn wsX9_noteEchoes wsX9_hasMan := goodIn_r _ [8, 1, 9, 10, 11, 12, 13, 14, 15, 16, 17, 18, 19, 20, 21, 22] rfl (by decide +kernel)
set_option maxRecDepth 20000 in
theorem gX9_noteEchoes_X9_hasMan : GoodIn wsX9_noteEchoes (wsV RX9 86 RX9 yX9_hasMan wsX9_hasMan) := goodIn_app (goodIn_of _ (by decide +kernel)) ggX9_noteEchoes_X9_hasMan
theorem dX9_noteEchoes_0 : decode cX9_noteEchoes 0 = .ok (.iconst 0, 1) := by decide +kernel
theorem dX9_noteEchoes_1 : decode cX9_noteEchoes 1 = .ok (.istore_n 1, 1) := by decide +kernel
theorem dX9_noteEchoes_2 : decode cX9_noteEchoes 2 = .ok (.iload_n 1, 1) := by decide +kernel
theorem dX9_noteEchoes_3 : decode cX9_noteEchoes 3 = .ok (.aload_n 0, 1) := by decide +kernel
theorem dX9_noteEchoes_4 : decode cX9_noteEchoes 4 = .ok (.getfield 52, 3) := by decide +kernel
theorem dX9_noteEchoes_7 : decode cX9_noteEchoes 7 = .ok (.if_icmp .ge 34, 3) := by decide +kernel
theorem dX9_noteEchoes_10 : decode cX9_noteEchoes 10 = .ok (.aload_n 0, 1) := by decide +kernel
theorem dX9_noteEchoes_11 : decode cX9_noteEchoes 11 = .ok (.getfield 32, 3) := by decide +kernel
theorem dX9_noteEchoes_14 : decode cX9_noteEchoes 14 = .ok (.iload_n 1, 1) := by decide +kernel
theorem dX9_noteEchoes_15 : decode cX9_noteEchoes 15 = .ok (.aload_n 0, 1) := by decide +kernel
theorem dX9_noteEchoes_16 : decode cX9_noteEchoes 16 = .ok (.getfield 23, 3) := by decide +kernel
theorem dX9_noteEchoes_19 : decode cX9_noteEchoes 19 = .ok (.iload_n 1, 1) := by decide +kernel
theorem dX9_noteEchoes_20 : decode cX9_noteEchoes 20 = .ok (.aaload, 1) := by decide +kernel
theorem dX9_noteEchoes_21 : decode cX9_noteEchoes 21 = .ok (.iconst 4, 1) := by decide +kernel
theorem dX9_noteEchoes_22 : decode cX9_noteEchoes 22 = .ok (.iaload, 1) := by decide +kernel
theorem dX9_noteEchoes_23 : decode cX9_noteEchoes 23 = .ok (.iconst (-1), 1) := by decide +kernel
theorem dX9_noteEchoes_24 : decode cX9_noteEchoes 24 = .ok (.if_icmp .ne 9, 3) := by decide +kernel
theorem dX9_noteEchoes_27 : decode cX9_noteEchoes 27 = .ok (.iconst 1, 1) := by decide +kernel
theorem dX9_noteEchoes_28 : decode cX9_noteEchoes 28 = .ok (.iload_n 1, 1) := by decide +kernel
theorem dX9_noteEchoes_29 : decode cX9_noteEchoes 29 = .ok (.ishl, 1) := by decide +kernel
theorem dX9_noteEchoes_30 : decode cX9_noteEchoes 30 = .ok (.goto 4, 3) := by decide +kernel
theorem dX9_noteEchoes_33 : decode cX9_noteEchoes 33 = .ok (.iconst 0, 1) := by decide +kernel
theorem dX9_noteEchoes_34 : decode cX9_noteEchoes 34 = .ok (.iastore, 1) := by decide +kernel
theorem dX9_noteEchoes_35 : decode cX9_noteEchoes 35 = .ok (.iinc 1 1, 3) := by decide +kernel
theorem dX9_noteEchoes_38 : decode cX9_noteEchoes 38 = .ok (.goto (-36), 3) := by decide +kernel
theorem dX9_noteEchoes_41 : decode cX9_noteEchoes 41 = .ok (.iconst 0, 1) := by decide +kernel
theorem dX9_noteEchoes_42 : decode cX9_noteEchoes 42 = .ok (.istore_n 1, 1) := by decide +kernel
theorem dX9_noteEchoes_43 : decode cX9_noteEchoes 43 = .ok (.iload_n 1, 1) := by decide +kernel
theorem dX9_noteEchoes_44 : decode cX9_noteEchoes 44 = .ok (.aload_n 0, 1) := by decide +kernel
theorem dX9_noteEchoes_45 : decode cX9_noteEchoes 45 = .ok (.getfield 52, 3) := by decide +kernel
theorem dX9_noteEchoes_48 : decode cX9_noteEchoes 48 = .ok (.if_icmp .ge 50, 3) := by decide +kernel
theorem dX9_noteEchoes_51 : decode cX9_noteEchoes 51 = .ok (.aload_n 0, 1) := by decide +kernel
theorem dX9_noteEchoes_52 : decode cX9_noteEchoes 52 = .ok (.getfield 23, 3) := by decide +kernel
theorem dX9_noteEchoes_55 : decode cX9_noteEchoes 55 = .ok (.iload_n 1, 1) := by decide +kernel
theorem dX9_noteEchoes_56 : decode cX9_noteEchoes 56 = .ok (.aaload, 1) := by decide +kernel
theorem dX9_noteEchoes_57 : decode cX9_noteEchoes 57 = .ok (.iconst 4, 1) := by decide +kernel
theorem dX9_noteEchoes_58 : decode cX9_noteEchoes 58 = .ok (.iaload, 1) := by decide +kernel
theorem dX9_noteEchoes_59 : decode cX9_noteEchoes 59 = .ok (.istore_n 2, 1) := by decide +kernel
theorem dX9_noteEchoes_60 : decode cX9_noteEchoes 60 = .ok (.aload_n 0, 1) := by decide +kernel
theorem dX9_noteEchoes_61 : decode cX9_noteEchoes 61 = .ok (.iload_n 2, 1) := by decide +kernel
theorem dX9_noteEchoes_62 : decode cX9_noteEchoes 62 = .ok (.invokevirtual 86, 3) := by decide +kernel
theorem dX9_noteEchoes_65 : decode cX9_noteEchoes 65 = .ok (.ifCond .eq 27, 3) := by decide +kernel
theorem dX9_noteEchoes_68 : decode cX9_noteEchoes 68 = .ok (.aload_n 0, 1) := by decide +kernel
theorem dX9_noteEchoes_69 : decode cX9_noteEchoes 69 = .ok (.getfield 23, 3) := by decide +kernel
theorem dX9_noteEchoes_72 : decode cX9_noteEchoes 72 = .ok (.iload_n 2, 1) := by decide +kernel
theorem dX9_noteEchoes_73 : decode cX9_noteEchoes 73 = .ok (.aaload, 1) := by decide +kernel
theorem dX9_noteEchoes_74 : decode cX9_noteEchoes 74 = .ok (.iconst 4, 1) := by decide +kernel
theorem dX9_noteEchoes_75 : decode cX9_noteEchoes 75 = .ok (.iaload, 1) := by decide +kernel
theorem dX9_noteEchoes_76 : decode cX9_noteEchoes 76 = .ok (.iconst (-1), 1) := by decide +kernel
theorem dX9_noteEchoes_77 : decode cX9_noteEchoes 77 = .ok (.if_icmp .ne 15, 3) := by decide +kernel
theorem dX9_noteEchoes_80 : decode cX9_noteEchoes 80 = .ok (.aload_n 0, 1) := by decide +kernel
theorem dX9_noteEchoes_81 : decode cX9_noteEchoes 81 = .ok (.getfield 32, 3) := by decide +kernel
theorem dX9_noteEchoes_84 : decode cX9_noteEchoes 84 = .ok (.iload_n 2, 1) := by decide +kernel
theorem dX9_noteEchoes_85 : decode cX9_noteEchoes 85 = .ok (.dup2, 1) := by decide +kernel
theorem dX9_noteEchoes_86 : decode cX9_noteEchoes 86 = .ok (.iaload, 1) := by decide +kernel
theorem dX9_noteEchoes_87 : decode cX9_noteEchoes 87 = .ok (.iconst 1, 1) := by decide +kernel
theorem dX9_noteEchoes_88 : decode cX9_noteEchoes 88 = .ok (.iload_n 1, 1) := by decide +kernel
theorem dX9_noteEchoes_89 : decode cX9_noteEchoes 89 = .ok (.ishl, 1) := by decide +kernel
theorem dX9_noteEchoes_90 : decode cX9_noteEchoes 90 = .ok (.ior, 1) := by decide +kernel
theorem dX9_noteEchoes_91 : decode cX9_noteEchoes 91 = .ok (.iastore, 1) := by decide +kernel
theorem dX9_noteEchoes_92 : decode cX9_noteEchoes 92 = .ok (.iinc 1 1, 3) := by decide +kernel
theorem dX9_noteEchoes_95 : decode cX9_noteEchoes 95 = .ok (.goto (-52), 3) := by decide +kernel
theorem dX9_noteEchoes_98 : decode cX9_noteEchoes 98 = .ok (.return_, 1) := by decide +kernel
theorem dX1_init_0 : decode cX1_init 0 = .ok (.aload_n 0, 1) := by decide +kernel
theorem dX1_init_1 : decode cX1_init 1 = .ok (.invokespecial 3, 3) := by decide +kernel
theorem dX1_init_4 : decode cX1_init 4 = .ok (.aload_n 0, 1) := by decide +kernel
theorem dX1_init_5 : decode cX1_init 5 = .ok (.bipush 8, 2) := by decide +kernel
theorem dX1_init_7 : decode cX1_init 7 = .ok (.newarray .int, 2) := by decide +kernel
theorem dX1_init_9 : decode cX1_init 9 = .ok (.putfield 9, 3) := by decide +kernel
theorem dX1_init_12 : decode cX1_init 12 = .ok (.aload_n 0, 1) := by decide +kernel
theorem dX1_init_13 : decode cX1_init 13 = .ok (.bipush 8, 2) := by decide +kernel
theorem dX1_init_15 : decode cX1_init 15 = .ok (.newarray .int, 2) := by decide +kernel
theorem dX1_init_17 : decode cX1_init 17 = .ok (.putfield 15, 3) := by decide +kernel
theorem dX1_init_20 : decode cX1_init 20 = .ok (.aload_n 0, 1) := by decide +kernel
theorem dX1_init_21 : decode cX1_init 21 = .ok (.bipush 8, 2) := by decide +kernel
theorem dX1_init_23 : decode cX1_init 23 = .ok (.newarray .int, 2) := by decide +kernel
theorem dX1_init_25 : decode cX1_init 25 = .ok (.putfield 18, 3) := by decide +kernel
theorem dX1_init_28 : decode cX1_init 28 = .ok (.aload_n 0, 1) := by decide +kernel
theorem dX1_init_29 : decode cX1_init 29 = .ok (.bipush 40, 2) := by decide +kernel
theorem dX1_init_31 : decode cX1_init 31 = .ok (.newarray .int, 2) := by decide +kernel
theorem dX1_init_33 : decode cX1_init 33 = .ok (.putfield 21, 3) := by decide +kernel
theorem dX1_init_36 : decode cX1_init 36 = .ok (.aload_n 0, 1) := by decide +kernel
theorem dX1_init_37 : decode cX1_init 37 = .ok (.bipush 8, 2) := by decide +kernel
theorem dX1_init_39 : decode cX1_init 39 = .ok (.newarray .int, 2) := by decide +kernel
theorem dX1_init_41 : decode cX1_init 41 = .ok (.putfield 24, 3) := by decide +kernel
theorem dX1_init_44 : decode cX1_init 44 = .ok (.aload_n 0, 1) := by decide +kernel
theorem dX1_init_45 : decode cX1_init 45 = .ok (.iconst 2, 1) := by decide +kernel
theorem dX1_init_46 : decode cX1_init 46 = .ok (.newarray .int, 2) := by decide +kernel
theorem dX1_init_48 : decode cX1_init 48 = .ok (.putfield 27, 3) := by decide +kernel
theorem dX1_init_51 : decode cX1_init 51 = .ok (.aload_n 0, 1) := by decide +kernel
theorem dX1_init_52 : decode cX1_init 52 = .ok (.iconst 2, 1) := by decide +kernel
theorem dX1_init_53 : decode cX1_init 53 = .ok (.newarray .int, 2) := by decide +kernel
theorem dX1_init_55 : decode cX1_init 55 = .ok (.putfield 30, 3) := by decide +kernel
theorem dX1_init_58 : decode cX1_init 58 = .ok (.aload_n 0, 1) := by decide +kernel
theorem dX1_init_59 : decode cX1_init 59 = .ok (.iconst 2, 1) := by decide +kernel
theorem dX1_init_60 : decode cX1_init 60 = .ok (.newarray .int, 2) := by decide +kernel
theorem dX1_init_62 : decode cX1_init 62 = .ok (.putfield 33, 3) := by decide +kernel
theorem dX1_init_65 : decode cX1_init 65 = .ok (.aload_n 0, 1) := by decide +kernel
theorem dX1_init_66 : decode cX1_init 66 = .ok (.aload_n 1, 1) := by decide +kernel
theorem dX1_init_67 : decode cX1_init 67 = .ok (.putfield 36, 3) := by decide +kernel
theorem dX1_init_70 : decode cX1_init 70 = .ok (.return_, 1) := by decide +kernel
set_option maxRecDepth 20000 in
theorem ggX1_pitch_X1_putOnHill : GoodIn wsX1_pitch wsX1_putOnHill := goodIn_r _ [6, 1, 7, 8, 9, 10, 11, 12, 13, 14, 15, 5, 16, 17, 18, 19, 20, 21, 22, 23, 24, 25, 26, 27, 28, 29, 30, 31, 32, 33, 34, 35, 36, 37, 38, 39, 40, 41, 42] rfl (by decide +kernel)
set_option maxRecDepth 20000 in
theorem gX1_pitch_X1_putOnHill : GoodIn wsX1_pitch (wsV RX1 51 RX1 yX1_putOnHill wsX1_putOnHill) := goodIn_app (goodIn_of _ (by decide +kernel)) ggX1_pitch_X1_putOnHill
theorem dX1_pitch_0 : decode cX1_pitch 0 = .ok (.iconst 0, 1) := by decide +kernel
theorem dX1_pitch_1 : decode cX1_pitch 1 = .ok (.istore_n 2, 1) := by decide +kernel
theorem dX1_pitch_2 : decode cX1_pitch 2 = .ok (.iload_n 2, 1) := by decide +kernel
theorem dX1_pitch_3 : decode cX1_pitch 3 = .ok (.aload_n 0, 1) := by decide +kernel
theorem dX1_pitch_4 : decode cX1_pitch 4 = .ok (.getfield 36, 3) := by decide +kernel
theorem dX1_pitch_7 : decode cX1_pitch 7 = .ok (.getfield 40, 3) := by decide +kernel
theorem dX1_pitch_10 : decode cX1_pitch 10 = .ok (.if_icmp .ge 20, 3) := by decide +kernel
theorem dX1_pitch_13 : decode cX1_pitch 13 = .ok (.aload_n 0, 1) := by decide +kernel
theorem dX1_pitch_14 : decode cX1_pitch 14 = .ok (.iload_n 2, 1) := by decide +kernel
theorem dX1_pitch_15 : decode cX1_pitch 15 = .ok (.aload_n 1, 1) := by decide +kernel
theorem dX1_pitch_16 : decode cX1_pitch 16 = .ok (.getfield 46, 3) := by decide +kernel
theorem dX1_pitch_19 : decode cX1_pitch 19 = .ok (.iload_n 2, 1) := by decide +kernel
theorem dX1_pitch_20 : decode cX1_pitch 20 = .ok (.iaload, 1) := by decide +kernel
theorem dX1_pitch_21 : decode cX1_pitch 21 = .ok (.invokevirtual 51, 3) := by decide +kernel
theorem dX1_pitch_24 : decode cX1_pitch 24 = .ok (.iinc 2 1, 3) := by decide +kernel
theorem dX1_pitch_27 : decode cX1_pitch 27 = .ok (.goto (-25), 3) := by decide +kernel
theorem dX1_pitch_30 : decode cX1_pitch 30 = .ok (.return_, 1) := by decide +kernel
set_option maxRecDepth 20000 in
theorem ggX1_putOnHill_X9_hasHill : GoodIn wsX1_putOnHill wsX9_hasHill := goodIn_r _ [6, 7, 25, 26, 27, 28, 29, 30, 31, 32, 33, 34, 35, 36, 37, 38] rfl (by decide +kernel)
set_option maxRecDepth 20000 in
theorem gX1_putOnHill_X9_hasHill : GoodIn wsX1_putOnHill (wsV RX1 55 RX9 yX9_hasHill wsX9_hasHill) := goodIn_app (goodIn_of _ (by decide +kernel)) ggX1_putOnHill_X9_hasHill
set_option maxRecDepth 20000 in
theorem ggX1_putOnHill_X1_put : GoodIn wsX1_putOnHill wsX1_put := goodIn_r _ [12, 13, 14, 15, 16, 17, 18, 19, 20, 21, 22, 23, 24] rfl (by decide +kernel)
set_option maxRecDepth 20000 in
theorem gX1_putOnHill_X1_put : GoodIn wsX1_putOnHill (wsV RX1 62 RX1 yX1_put wsX1_put) := goodIn_app (goodIn_of _ (by decide +kernel)) ggX1_putOnHill_X1_put
theorem dX1_putOnHill_0 : decode cX1_putOnHill 0 = .ok (.aload_n 0, 1) := by decide +kernel
theorem dX1_putOnHill_1 : decode cX1_putOnHill 1 = .ok (.getfield 36, 3) := by decide +kernel
theorem dX1_putOnHill_4 : decode cX1_putOnHill 4 = .ok (.iload_n 2, 1) := by decide +kernel
theorem dX1_putOnHill_5 : decode cX1_putOnHill 5 = .ok (.invokevirtual 55, 3) := by decide +kernel
theorem dX1_putOnHill_8 : decode cX1_putOnHill 8 = .ok (.ifCond .eq 41, 3) := by decide +kernel
theorem dX1_putOnHill_11 : decode cX1_putOnHill 11 = .ok (.aload_n 0, 1) := by decide +kernel
theorem dX1_putOnHill_12 : decode cX1_putOnHill 12 = .ok (.iload_n 1, 1) := by decide +kernel
theorem dX1_putOnHill_13 : decode cX1_putOnHill 13 = .ok (.aload_n 0, 1) := by decide +kernel
theorem dX1_putOnHill_14 : decode cX1_putOnHill 14 = .ok (.getfield 36, 3) := by decide +kernel
theorem dX1_putOnHill_17 : decode cX1_putOnHill 17 = .ok (.getfield 59, 3) := by decide +kernel
theorem dX1_putOnHill_20 : decode cX1_putOnHill 20 = .ok (.iload_n 2, 1) := by decide +kernel
theorem dX1_putOnHill_21 : decode cX1_putOnHill 21 = .ok (.aaload, 1) := by decide +kernel
theorem dX1_putOnHill_22 : decode cX1_putOnHill 22 = .ok (.iconst 0, 1) := by decide +kernel
theorem dX1_putOnHill_23 : decode cX1_putOnHill 23 = .ok (.iaload, 1) := by decide +kernel
theorem dX1_putOnHill_24 : decode cX1_putOnHill 24 = .ok (.aload_n 0, 1) := by decide +kernel
theorem dX1_putOnHill_25 : decode cX1_putOnHill 25 = .ok (.getfield 36, 3) := by decide +kernel
theorem dX1_putOnHill_28 : decode cX1_putOnHill 28 = .ok (.getfield 59, 3) := by decide +kernel
theorem dX1_putOnHill_31 : decode cX1_putOnHill 31 = .ok (.iload_n 2, 1) := by decide +kernel
theorem dX1_putOnHill_32 : decode cX1_putOnHill 32 = .ok (.aaload, 1) := by decide +kernel
theorem dX1_putOnHill_33 : decode cX1_putOnHill 33 = .ok (.iconst 1, 1) := by decide +kernel
theorem dX1_putOnHill_34 : decode cX1_putOnHill 34 = .ok (.iaload, 1) := by decide +kernel
theorem dX1_putOnHill_35 : decode cX1_putOnHill 35 = .ok (.aload_n 0, 1) := by decide +kernel
theorem dX1_putOnHill_36 : decode cX1_putOnHill 36 = .ok (.getfield 36, 3) := by decide +kernel
theorem dX1_putOnHill_39 : decode cX1_putOnHill 39 = .ok (.getfield 59, 3) := by decide +kernel
theorem dX1_putOnHill_42 : decode cX1_putOnHill 42 = .ok (.iload_n 2, 1) := by decide +kernel
theorem dX1_putOnHill_43 : decode cX1_putOnHill 43 = .ok (.aaload, 1) := by decide +kernel
theorem dX1_putOnHill_44 : decode cX1_putOnHill 44 = .ok (.iconst 2, 1) := by decide +kernel
theorem dX1_putOnHill_45 : decode cX1_putOnHill 45 = .ok (.iaload, 1) := by decide +kernel
theorem dX1_putOnHill_46 : decode cX1_putOnHill 46 = .ok (.invokevirtual 62, 3) := by decide +kernel
theorem dX1_putOnHill_49 : decode cX1_putOnHill 49 = .ok (.return_, 1) := by decide +kernel
theorem dX1_put_0 : decode cX1_put 0 = .ok (.aload_n 0, 1) := by decide +kernel
theorem dX1_put_1 : decode cX1_put 1 = .ok (.getfield 9, 3) := by decide +kernel
theorem dX1_put_4 : decode cX1_put 4 = .ok (.iload_n 1, 1) := by decide +kernel
theorem dX1_put_5 : decode cX1_put 5 = .ok (.iload_n 2, 1) := by decide +kernel
theorem dX1_put_6 : decode cX1_put 6 = .ok (.iastore, 1) := by decide +kernel
theorem dX1_put_7 : decode cX1_put 7 = .ok (.aload_n 0, 1) := by decide +kernel
theorem dX1_put_8 : decode cX1_put 8 = .ok (.getfield 15, 3) := by decide +kernel
theorem dX1_put_11 : decode cX1_put 11 = .ok (.iload_n 1, 1) := by decide +kernel
theorem dX1_put_12 : decode cX1_put 12 = .ok (.iload_n 3, 1) := by decide +kernel
theorem dX1_put_13 : decode cX1_put 13 = .ok (.iastore, 1) := by decide +kernel
theorem dX1_put_14 : decode cX1_put 14 = .ok (.aload_n 0, 1) := by decide +kernel
theorem dX1_put_15 : decode cX1_put 15 = .ok (.getfield 18, 3) := by decide +kernel
theorem dX1_put_18 : decode cX1_put 18 = .ok (.iload_n 1, 1) := by decide +kernel
theorem dX1_put_19 : decode cX1_put 19 = .ok (.iload 4, 2) := by decide +kernel
theorem dX1_put_21 : decode cX1_put 21 = .ok (.iastore, 1) := by decide +kernel
theorem dX1_put_22 : decode cX1_put 22 = .ok (.return_, 1) := by decide +kernel
set_option maxRecDepth 20000 in
theorem ggX1_distance_X9_callRow : GoodIn wsX1_distance wsX9_callRow := goodIn_r _ [12, 13, 23, 24, 25, 26, 27, 28, 29, 30, 31, 32, 33, 34, 35, 36] rfl (by decide +kernel)
set_option maxRecDepth 20000 in
theorem gX1_distance_X9_callRow : GoodIn wsX1_distance (wsV RX1 66 RX9 yX9_callRow wsX9_callRow) := goodIn_app (goodIn_of _ (by decide +kernel)) ggX1_distance_X9_callRow
theorem dX1_distance_0 : decode cX1_distance 0 = .ok (.aload_n 0, 1) := by decide +kernel
theorem dX1_distance_1 : decode cX1_distance 1 = .ok (.getfield 36, 3) := by decide +kernel
theorem dX1_distance_4 : decode cX1_distance 4 = .ok (.iload_n 2, 1) := by decide +kernel
theorem dX1_distance_5 : decode cX1_distance 5 = .ok (.iload_n 3, 1) := by decide +kernel
theorem dX1_distance_6 : decode cX1_distance 6 = .ok (.invokevirtual 66, 3) := by decide +kernel
theorem dX1_distance_9 : decode cX1_distance 9 = .ok (.astore 4, 2) := by decide +kernel
theorem dX1_distance_11 : decode cX1_distance 11 = .ok (.aload_n 0, 1) := by decide +kernel
theorem dX1_distance_12 : decode cX1_distance 12 = .ok (.getfield 9, 3) := by decide +kernel
theorem dX1_distance_15 : decode cX1_distance 15 = .ok (.iload_n 1, 1) := by decide +kernel
theorem dX1_distance_16 : decode cX1_distance 16 = .ok (.iaload, 1) := by decide +kernel
theorem dX1_distance_17 : decode cX1_distance 17 = .ok (.aload 4, 2) := by decide +kernel
theorem dX1_distance_19 : decode cX1_distance 19 = .ok (.iconst 1, 1) := by decide +kernel
theorem dX1_distance_20 : decode cX1_distance 20 = .ok (.iaload, 1) := by decide +kernel
theorem dX1_distance_21 : decode cX1_distance 21 = .ok (.isub, 1) := by decide +kernel
theorem dX1_distance_22 : decode cX1_distance 22 = .ok (.invokestatic 70, 3) := by decide +kernel
theorem dX1_distance_25 : decode cX1_distance 25 = .ok (.aload_n 0, 1) := by decide +kernel
theorem dX1_distance_26 : decode cX1_distance 26 = .ok (.getfield 15, 3) := by decide +kernel
theorem dX1_distance_29 : decode cX1_distance 29 = .ok (.iload_n 1, 1) := by decide +kernel
theorem dX1_distance_30 : decode cX1_distance 30 = .ok (.iaload, 1) := by decide +kernel
theorem dX1_distance_31 : decode cX1_distance 31 = .ok (.aload 4, 2) := by decide +kernel
theorem dX1_distance_33 : decode cX1_distance 33 = .ok (.iconst 2, 1) := by decide +kernel
theorem dX1_distance_34 : decode cX1_distance 34 = .ok (.iaload, 1) := by decide +kernel
theorem dX1_distance_35 : decode cX1_distance 35 = .ok (.isub, 1) := by decide +kernel
theorem dX1_distance_36 : decode cX1_distance 36 = .ok (.invokestatic 70, 3) := by decide +kernel
theorem dX1_distance_39 : decode cX1_distance 39 = .ok (.iadd, 1) := by decide +kernel
theorem dX1_distance_40 : decode cX1_distance 40 = .ok (.ireturn, 1) := by decide +kernel
set_option maxRecDepth 20000 in
theorem ggX1_reaches_X9_callRow : GoodIn wsX1_reaches wsX9_callRow := goodIn_r _ [9, 10, 40, 41, 42, 43, 44, 45, 46, 47, 48, 49, 50, 51, 52, 53] rfl (by decide +kernel)
set_option maxRecDepth 20000 in
theorem gX1_reaches_X9_callRow : GoodIn wsX1_reaches (wsV RX1 66 RX9 yX9_callRow wsX9_callRow) := goodIn_app (goodIn_of _ (by decide +kernel)) ggX1_reaches_X9_callRow
set_option maxRecDepth 20000 in
theorem ggX1_reaches_X9_windAt : GoodIn wsX1_reaches wsX9_windAt := goodIn_r _ [14, 15, 16, 40, 41, 42, 43, 44, 45, 46, 47, 48, 49, 50, 51, 52, 53] rfl (by decide +kernel)
set_option maxRecDepth 20000 in
theorem gX1_reaches_X9_windAt : GoodIn wsX1_reaches (wsV RX1 82 RX9 yX9_windAt wsX9_windAt) := goodIn_app (goodIn_of _ (by decide +kernel)) ggX1_reaches_X9_windAt
set_option maxRecDepth 20000 in
theorem ggX1_reaches_X9_side : GoodIn wsX1_reaches wsX9_side := goodIn_r _ [20, 21, 40, 41, 42, 43, 44, 45, 46, 47, 48, 49, 50, 51, 52, 53] rfl (by decide +kernel)
set_option maxRecDepth 20000 in
theorem gX1_reaches_X9_side : GoodIn wsX1_reaches (wsV RX1 86 RX9 yX9_side wsX9_side) := goodIn_app (goodIn_of _ (by decide +kernel)) ggX1_reaches_X9_side
set_option maxRecDepth 20000 in
theorem ggX1_reaches_X1_distance : GoodIn wsX1_reaches wsX1_distance := goodIn_r _ [26, 1, 3, 27, 28, 29, 30, 4, 5, 6, 7, 8, 9, 10, 31, 32, 33, 34, 35, 36, 37, 38, 39, 40, 41, 42, 43, 44, 45, 46, 47, 48, 49, 50, 51, 52, 53] rfl (by decide +kernel)
set_option maxRecDepth 20000 in
theorem gX1_reaches_X1_distance : GoodIn wsX1_reaches (wsV RX1 89 RX1 yX1_distance wsX1_distance) := goodIn_app (goodIn_of _ (by decide +kernel)) ggX1_reaches_X1_distance
theorem dX1_reaches_0 : decode cX1_reaches 0 = .ok (.aload_n 0, 1) := by decide +kernel
theorem dX1_reaches_1 : decode cX1_reaches 1 = .ok (.getfield 36, 3) := by decide +kernel
theorem dX1_reaches_4 : decode cX1_reaches 4 = .ok (.iload_n 2, 1) := by decide +kernel
theorem dX1_reaches_5 : decode cX1_reaches 5 = .ok (.iload_n 3, 1) := by decide +kernel
theorem dX1_reaches_6 : decode cX1_reaches 6 = .ok (.invokevirtual 66, 3) := by decide +kernel
theorem dX1_reaches_9 : decode cX1_reaches 9 = .ok (.astore 4, 2) := by decide +kernel
theorem dX1_reaches_11 : decode cX1_reaches 11 = .ok (.aload_n 0, 1) := by decide +kernel
theorem dX1_reaches_12 : decode cX1_reaches 12 = .ok (.getfield 36, 3) := by decide +kernel
theorem dX1_reaches_15 : decode cX1_reaches 15 = .ok (.getfield 76, 3) := by decide +kernel
theorem dX1_reaches_18 : decode cX1_reaches 18 = .ok (.iload_n 1, 1) := by decide +kernel
theorem dX1_reaches_19 : decode cX1_reaches 19 = .ok (.aaload, 1) := by decide +kernel
theorem dX1_reaches_20 : decode cX1_reaches 20 = .ok (.iconst 1, 1) := by decide +kernel
theorem dX1_reaches_21 : decode cX1_reaches 21 = .ok (.iaload, 1) := by decide +kernel
theorem dX1_reaches_22 : decode cX1_reaches 22 = .ok (.aload_n 0, 1) := by decide +kernel
theorem dX1_reaches_23 : decode cX1_reaches 23 = .ok (.getfield 36, 3) := by decide +kernel
theorem dX1_reaches_26 : decode cX1_reaches 26 = .ok (.getfield 79, 3) := by decide +kernel
theorem dX1_reaches_29 : decode cX1_reaches 29 = .ok (.iload_n 2, 1) := by decide +kernel
theorem dX1_reaches_30 : decode cX1_reaches 30 = .ok (.aaload, 1) := by decide +kernel
theorem dX1_reaches_31 : decode cX1_reaches 31 = .ok (.iconst 1, 1) := by decide +kernel
theorem dX1_reaches_32 : decode cX1_reaches 32 = .ok (.iaload, 1) := by decide +kernel
theorem dX1_reaches_33 : decode cX1_reaches 33 = .ok (.iadd, 1) := by decide +kernel
theorem dX1_reaches_34 : decode cX1_reaches 34 = .ok (.aload_n 0, 1) := by decide +kernel
theorem dX1_reaches_35 : decode cX1_reaches 35 = .ok (.getfield 18, 3) := by decide +kernel
theorem dX1_reaches_38 : decode cX1_reaches 38 = .ok (.iload_n 1, 1) := by decide +kernel
theorem dX1_reaches_39 : decode cX1_reaches 39 = .ok (.iaload, 1) := by decide +kernel
theorem dX1_reaches_40 : decode cX1_reaches 40 = .ok (.isub, 1) := by decide +kernel
theorem dX1_reaches_41 : decode cX1_reaches 41 = .ok (.aload_n 0, 1) := by decide +kernel
theorem dX1_reaches_42 : decode cX1_reaches 42 = .ok (.getfield 36, 3) := by decide +kernel
theorem dX1_reaches_45 : decode cX1_reaches 45 = .ok (.aload_n 0, 1) := by decide +kernel
theorem dX1_reaches_46 : decode cX1_reaches 46 = .ok (.getfield 9, 3) := by decide +kernel
theorem dX1_reaches_49 : decode cX1_reaches 49 = .ok (.iload_n 1, 1) := by decide +kernel
theorem dX1_reaches_50 : decode cX1_reaches 50 = .ok (.iaload, 1) := by decide +kernel
theorem dX1_reaches_51 : decode cX1_reaches 51 = .ok (.aload_n 0, 1) := by decide +kernel
theorem dX1_reaches_52 : decode cX1_reaches 52 = .ok (.getfield 15, 3) := by decide +kernel
theorem dX1_reaches_55 : decode cX1_reaches 55 = .ok (.iload_n 1, 1) := by decide +kernel
theorem dX1_reaches_56 : decode cX1_reaches 56 = .ok (.iaload, 1) := by decide +kernel
theorem dX1_reaches_57 : decode cX1_reaches 57 = .ok (.aload 4, 2) := by decide +kernel
theorem dX1_reaches_59 : decode cX1_reaches 59 = .ok (.invokevirtual 82, 3) := by decide +kernel
theorem dX1_reaches_62 : decode cX1_reaches 62 = .ok (.iadd, 1) := by decide +kernel
theorem dX1_reaches_63 : decode cX1_reaches 63 = .ok (.istore 5, 2) := by decide +kernel
theorem dX1_reaches_65 : decode cX1_reaches 65 = .ok (.aload_n 0, 1) := by decide +kernel
theorem dX1_reaches_66 : decode cX1_reaches 66 = .ok (.getfield 36, 3) := by decide +kernel
theorem dX1_reaches_69 : decode cX1_reaches 69 = .ok (.aload_n 0, 1) := by decide +kernel
theorem dX1_reaches_70 : decode cX1_reaches 70 = .ok (.getfield 9, 3) := by decide +kernel
theorem dX1_reaches_73 : decode cX1_reaches 73 = .ok (.iload_n 1, 1) := by decide +kernel
theorem dX1_reaches_74 : decode cX1_reaches 74 = .ok (.iaload, 1) := by decide +kernel
theorem dX1_reaches_75 : decode cX1_reaches 75 = .ok (.invokevirtual 86, 3) := by decide +kernel
theorem dX1_reaches_78 : decode cX1_reaches 78 = .ok (.aload_n 0, 1) := by decide +kernel
theorem dX1_reaches_79 : decode cX1_reaches 79 = .ok (.getfield 36, 3) := by decide +kernel
theorem dX1_reaches_82 : decode cX1_reaches 82 = .ok (.aload 4, 2) := by decide +kernel
theorem dX1_reaches_84 : decode cX1_reaches 84 = .ok (.iconst 1, 1) := by decide +kernel
theorem dX1_reaches_85 : decode cX1_reaches 85 = .ok (.iaload, 1) := by decide +kernel
theorem dX1_reaches_86 : decode cX1_reaches 86 = .ok (.invokevirtual 86, 3) := by decide +kernel
theorem dX1_reaches_89 : decode cX1_reaches 89 = .ok (.if_icmp .eq 6, 3) := by decide +kernel
theorem dX1_reaches_92 : decode cX1_reaches 92 = .ok (.iinc 5 (-3), 3) := by decide +kernel
theorem dX1_reaches_95 : decode cX1_reaches 95 = .ok (.aload_n 0, 1) := by decide +kernel
theorem dX1_reaches_96 : decode cX1_reaches 96 = .ok (.iload_n 1, 1) := by decide +kernel
theorem dX1_reaches_97 : decode cX1_reaches 97 = .ok (.iload_n 2, 1) := by decide +kernel
theorem dX1_reaches_98 : decode cX1_reaches 98 = .ok (.iload_n 3, 1) := by decide +kernel
theorem dX1_reaches_99 : decode cX1_reaches 99 = .ok (.invokevirtual 89, 3) := by decide +kernel
theorem dX1_reaches_102 : decode cX1_reaches 102 = .ok (.iload 5, 2) := by decide +kernel
theorem dX1_reaches_104 : decode cX1_reaches 104 = .ok (.if_icmp .gt 7, 3) := by decide +kernel
theorem dX1_reaches_107 : decode cX1_reaches 107 = .ok (.iconst 1, 1) := by decide +kernel
theorem dX1_reaches_108 : decode cX1_reaches 108 = .ok (.goto 4, 3) := by decide +kernel
theorem dX1_reaches_111 : decode cX1_reaches 111 = .ok (.iconst 0, 1) := by decide +kernel
theorem dX1_reaches_112 : decode cX1_reaches 112 = .ok (.ireturn, 1) := by decide +kernel
set_option maxRecDepth 20000 in
theorem ggX1_hearers_X1_reaches : GoodIn wsX1_hearers wsX1_reaches := goodIn_r _ [6, 1, 7, 8, 9, 10, 11, 12, 13, 14, 15, 16, 17, 18, 19, 20, 21, 22, 23, 24, 25, 26, 27, 28, 29, 5, 30, 31, 32, 33, 34, 35, 36, 37, 38, 39, 40, 41, 42, 43, 44, 45, 46, 47, 48, 49, 50, 51, 52, 53, 54, 55, 56, 57] rfl (by decide +kernel)
set_option maxRecDepth 20000 in
theorem gX1_hearers_X1_reaches : GoodIn wsX1_hearers (wsV RX1 96 RX1 yX1_reaches wsX1_reaches) := goodIn_app (goodIn_of _ (by decide +kernel)) ggX1_hearers_X1_reaches
theorem dX1_hearers_0 : decode cX1_hearers 0 = .ok (.iconst 0, 1) := by decide +kernel
theorem dX1_hearers_1 : decode cX1_hearers 1 = .ok (.istore_n 3, 1) := by decide +kernel
theorem dX1_hearers_2 : decode cX1_hearers 2 = .ok (.iconst 0, 1) := by decide +kernel
theorem dX1_hearers_3 : decode cX1_hearers 3 = .ok (.istore 4, 2) := by decide +kernel
theorem dX1_hearers_5 : decode cX1_hearers 5 = .ok (.iload 4, 2) := by decide +kernel
theorem dX1_hearers_7 : decode cX1_hearers 7 = .ok (.aload_n 0, 1) := by decide +kernel
theorem dX1_hearers_8 : decode cX1_hearers 8 = .ok (.getfield 36, 3) := by decide +kernel
theorem dX1_hearers_11 : decode cX1_hearers 11 = .ok (.getfield 40, 3) := by decide +kernel
theorem dX1_hearers_14 : decode cX1_hearers 14 = .ok (.if_icmp .ge 46, 3) := by decide +kernel
theorem dX1_hearers_17 : decode cX1_hearers 17 = .ok (.aload_n 0, 1) := by decide +kernel
theorem dX1_hearers_18 : decode cX1_hearers 18 = .ok (.getfield 36, 3) := by decide +kernel
theorem dX1_hearers_21 : decode cX1_hearers 21 = .ok (.getfield 93, 3) := by decide +kernel
theorem dX1_hearers_24 : decode cX1_hearers 24 = .ok (.iload 4, 2) := by decide +kernel
theorem dX1_hearers_26 : decode cX1_hearers 26 = .ok (.iaload, 1) := by decide +kernel
theorem dX1_hearers_27 : decode cX1_hearers 27 = .ok (.ifCond .eq 27, 3) := by decide +kernel
theorem dX1_hearers_30 : decode cX1_hearers 30 = .ok (.aload_n 0, 1) := by decide +kernel
theorem dX1_hearers_31 : decode cX1_hearers 31 = .ok (.iload 4, 2) := by decide +kernel
theorem dX1_hearers_33 : decode cX1_hearers 33 = .ok (.iload_n 1, 1) := by decide +kernel
theorem dX1_hearers_34 : decode cX1_hearers 34 = .ok (.iload_n 2, 1) := by decide +kernel
theorem dX1_hearers_35 : decode cX1_hearers 35 = .ok (.invokevirtual 96, 3) := by decide +kernel
theorem dX1_hearers_38 : decode cX1_hearers 38 = .ok (.ifCond .eq 16, 3) := by decide +kernel
theorem dX1_hearers_41 : decode cX1_hearers 41 = .ok (.iload_n 3, 1) := by decide +kernel
theorem dX1_hearers_42 : decode cX1_hearers 42 = .ok (.aload_n 0, 1) := by decide +kernel
theorem dX1_hearers_43 : decode cX1_hearers 43 = .ok (.getfield 36, 3) := by decide +kernel
theorem dX1_hearers_46 : decode cX1_hearers 46 = .ok (.getfield 93, 3) := by decide +kernel
theorem dX1_hearers_49 : decode cX1_hearers 49 = .ok (.iload 4, 2) := by decide +kernel
theorem dX1_hearers_51 : decode cX1_hearers 51 = .ok (.iaload, 1) := by decide +kernel
theorem dX1_hearers_52 : decode cX1_hearers 52 = .ok (.ior, 1) := by decide +kernel
theorem dX1_hearers_53 : decode cX1_hearers 53 = .ok (.istore_n 3, 1) := by decide +kernel
theorem dX1_hearers_54 : decode cX1_hearers 54 = .ok (.iinc 4 1, 3) := by decide +kernel
theorem dX1_hearers_57 : decode cX1_hearers 57 = .ok (.goto (-52), 3) := by decide +kernel
theorem dX1_hearers_60 : decode cX1_hearers 60 = .ok (.iload_n 3, 1) := by decide +kernel
theorem dX1_hearers_61 : decode cX1_hearers 61 = .ok (.ireturn, 1) := by decide +kernel
set_option maxRecDepth 20000 in
theorem ggX1_listen_X1_hearers : GoodIn wsX1_listen wsX1_hearers := goodIn_r _ [7, 1, 8, 9, 10, 6, 11, 12, 13, 14, 15, 16, 17, 18, 19, 20, 21, 22, 23, 24, 25, 26, 27, 28, 29, 30, 31, 32, 33, 34, 35, 36, 37, 38, 39, 40, 41, 42, 43, 44, 45, 46, 47, 48, 49, 50, 51, 52, 53, 54, 55, 56, 57, 58, 59, 60, 61, 62] rfl (by decide +kernel)
set_option maxRecDepth 20000 in
theorem gX1_listen_X1_hearers : GoodIn wsX1_listen (wsV RX1 100 RX1 yX1_hearers wsX1_hearers) := goodIn_app (goodIn_of _ (by decide +kernel)) ggX1_listen_X1_hearers
theorem dX1_listen_0 : decode cX1_listen 0 = .ok (.iconst 0, 1) := by decide +kernel
theorem dX1_listen_1 : decode cX1_listen 1 = .ok (.istore_n 2, 1) := by decide +kernel
theorem dX1_listen_2 : decode cX1_listen 2 = .ok (.iload_n 2, 1) := by decide +kernel
theorem dX1_listen_3 : decode cX1_listen 3 = .ok (.aload_n 0, 1) := by decide +kernel
theorem dX1_listen_4 : decode cX1_listen 4 = .ok (.getfield 36, 3) := by decide +kernel
theorem dX1_listen_7 : decode cX1_listen 7 = .ok (.getfield 79, 3) := by decide +kernel
theorem dX1_listen_10 : decode cX1_listen 10 = .ok (.iload_n 1, 1) := by decide +kernel
theorem dX1_listen_11 : decode cX1_listen 11 = .ok (.aaload, 1) := by decide +kernel
theorem dX1_listen_12 : decode cX1_listen 12 = .ok (.iconst 2, 1) := by decide +kernel
theorem dX1_listen_13 : decode cX1_listen 13 = .ok (.iaload, 1) := by decide +kernel
theorem dX1_listen_14 : decode cX1_listen 14 = .ok (.if_icmp .ge 26, 3) := by decide +kernel
theorem dX1_listen_17 : decode cX1_listen 17 = .ok (.aload_n 0, 1) := by decide +kernel
theorem dX1_listen_18 : decode cX1_listen 18 = .ok (.getfield 21, 3) := by decide +kernel
theorem dX1_listen_21 : decode cX1_listen 21 = .ok (.iload_n 1, 1) := by decide +kernel
theorem dX1_listen_22 : decode cX1_listen 22 = .ok (.bipush 10, 2) := by decide +kernel
theorem dX1_listen_24 : decode cX1_listen 24 = .ok (.imul, 1) := by decide +kernel
theorem dX1_listen_25 : decode cX1_listen 25 = .ok (.iload_n 2, 1) := by decide +kernel
theorem dX1_listen_26 : decode cX1_listen 26 = .ok (.iadd, 1) := by decide +kernel
theorem dX1_listen_27 : decode cX1_listen 27 = .ok (.aload_n 0, 1) := by decide +kernel
theorem dX1_listen_28 : decode cX1_listen 28 = .ok (.iload_n 1, 1) := by decide +kernel
theorem dX1_listen_29 : decode cX1_listen 29 = .ok (.iload_n 2, 1) := by decide +kernel
theorem dX1_listen_30 : decode cX1_listen 30 = .ok (.invokevirtual 100, 3) := by decide +kernel
theorem dX1_listen_33 : decode cX1_listen 33 = .ok (.iastore, 1) := by decide +kernel
theorem dX1_listen_34 : decode cX1_listen 34 = .ok (.iinc 2 1, 3) := by decide +kernel
theorem dX1_listen_37 : decode cX1_listen 37 = .ok (.goto (-35), 3) := by decide +kernel
theorem dX1_listen_40 : decode cX1_listen 40 = .ok (.return_, 1) := by decide +kernel
set_option maxRecDepth 20000 in
theorem ggX1_listenToAll_X1_listen : GoodIn wsX1_listenToAll wsX1_listen := goodIn_r _ [6, 1, 7, 8, 9, 10, 5, 11, 12, 13, 14, 15, 16, 17, 18, 19, 20, 21, 22, 23, 24, 25, 26, 27, 28, 29, 30, 31, 32, 33, 34, 35, 36, 37, 38, 39, 40, 41, 42, 43, 44, 45, 46, 47, 48, 49, 50, 51, 52, 53, 54, 55, 56, 57, 58, 59, 60, 61, 62, 63, 64, 65, 66] rfl (by decide +kernel)
set_option maxRecDepth 20000 in
theorem gX1_listenToAll_X1_listen : GoodIn wsX1_listenToAll (wsV RX1 107 RX1 yX1_listen wsX1_listen) := goodIn_app (goodIn_of _ (by decide +kernel)) ggX1_listenToAll_X1_listen
theorem dX1_listenToAll_0 : decode cX1_listenToAll 0 = .ok (.iconst 0, 1) := by decide +kernel
theorem dX1_listenToAll_1 : decode cX1_listenToAll 1 = .ok (.istore_n 1, 1) := by decide +kernel
theorem dX1_listenToAll_2 : decode cX1_listenToAll 2 = .ok (.iload_n 1, 1) := by decide +kernel
theorem dX1_listenToAll_3 : decode cX1_listenToAll 3 = .ok (.aload_n 0, 1) := by decide +kernel
theorem dX1_listenToAll_4 : decode cX1_listenToAll 4 = .ok (.getfield 36, 3) := by decide +kernel
theorem dX1_listenToAll_7 : decode cX1_listenToAll 7 = .ok (.getfield 104, 3) := by decide +kernel
theorem dX1_listenToAll_10 : decode cX1_listenToAll 10 = .ok (.if_icmp .ge 14, 3) := by decide +kernel
theorem dX1_listenToAll_13 : decode cX1_listenToAll 13 = .ok (.aload_n 0, 1) := by decide +kernel
theorem dX1_listenToAll_14 : decode cX1_listenToAll 14 = .ok (.iload_n 1, 1) := by decide +kernel
theorem dX1_listenToAll_15 : decode cX1_listenToAll 15 = .ok (.invokevirtual 107, 3) := by decide +kernel
theorem dX1_listenToAll_18 : decode cX1_listenToAll 18 = .ok (.iinc 1 1, 3) := by decide +kernel
theorem dX1_listenToAll_21 : decode cX1_listenToAll 21 = .ok (.goto (-19), 3) := by decide +kernel
theorem dX1_listenToAll_24 : decode cX1_listenToAll 24 = .ok (.return_, 1) := by decide +kernel
set_option maxRecDepth 20000 in
theorem ggX1_listenAgain_X1_reaches : GoodIn wsX1_listenAgain wsX1_reaches := goodIn_r _ [7, 1, 8, 9, 10, 11, 12, 13, 14, 15, 16, 17, 18, 19, 20, 21, 22, 23, 24, 25, 26, 27, 28, 29, 30, 6, 31, 32, 33, 34, 35, 36, 37, 38, 39, 40, 41, 42, 43, 44, 45, 46, 47, 48, 49, 50, 51, 52, 53, 54, 55, 56, 57, 58] rfl (by decide +kernel)
set_option maxRecDepth 20000 in
theorem gX1_listenAgain_X1_reaches : GoodIn wsX1_listenAgain (wsV RX1 96 RX1 yX1_reaches wsX1_reaches) := goodIn_app (goodIn_of _ (by decide +kernel)) ggX1_listenAgain_X1_reaches
theorem dX1_listenAgain_0 : decode cX1_listenAgain 0 = .ok (.aload_n 0, 1) := by decide +kernel
theorem dX1_listenAgain_1 : decode cX1_listenAgain 1 = .ok (.getfield 36, 3) := by decide +kernel
theorem dX1_listenAgain_4 : decode cX1_listenAgain 4 = .ok (.getfield 93, 3) := by decide +kernel
theorem dX1_listenAgain_7 : decode cX1_listenAgain 7 = .ok (.iload_n 1, 1) := by decide +kernel
theorem dX1_listenAgain_8 : decode cX1_listenAgain 8 = .ok (.iaload, 1) := by decide +kernel
theorem dX1_listenAgain_9 : decode cX1_listenAgain 9 = .ok (.istore_n 2, 1) := by decide +kernel
theorem dX1_listenAgain_10 : decode cX1_listenAgain 10 = .ok (.iload_n 2, 1) := by decide +kernel
theorem dX1_listenAgain_11 : decode cX1_listenAgain 11 = .ok (.ifCond .ne 4, 3) := by decide +kernel
theorem dX1_listenAgain_14 : decode cX1_listenAgain 14 = .ok (.return_, 1) := by decide +kernel
theorem dX1_listenAgain_15 : decode cX1_listenAgain 15 = .ok (.iconst 0, 1) := by decide +kernel
theorem dX1_listenAgain_16 : decode cX1_listenAgain 16 = .ok (.istore_n 3, 1) := by decide +kernel
theorem dX1_listenAgain_17 : decode cX1_listenAgain 17 = .ok (.iload_n 3, 1) := by decide +kernel
theorem dX1_listenAgain_18 : decode cX1_listenAgain 18 = .ok (.aload_n 0, 1) := by decide +kernel
theorem dX1_listenAgain_19 : decode cX1_listenAgain 19 = .ok (.getfield 36, 3) := by decide +kernel
theorem dX1_listenAgain_22 : decode cX1_listenAgain 22 = .ok (.getfield 104, 3) := by decide +kernel
theorem dX1_listenAgain_25 : decode cX1_listenAgain 25 = .ok (.if_icmp .ge 84, 3) := by decide +kernel
theorem dX1_listenAgain_28 : decode cX1_listenAgain 28 = .ok (.iconst 0, 1) := by decide +kernel
theorem dX1_listenAgain_29 : decode cX1_listenAgain 29 = .ok (.istore 4, 2) := by decide +kernel
theorem dX1_listenAgain_31 : decode cX1_listenAgain 31 = .ok (.iload 4, 2) := by decide +kernel
theorem dX1_listenAgain_33 : decode cX1_listenAgain 33 = .ok (.aload_n 0, 1) := by decide +kernel
theorem dX1_listenAgain_34 : decode cX1_listenAgain 34 = .ok (.getfield 36, 3) := by decide +kernel
theorem dX1_listenAgain_37 : decode cX1_listenAgain 37 = .ok (.getfield 79, 3) := by decide +kernel
theorem dX1_listenAgain_40 : decode cX1_listenAgain 40 = .ok (.iload_n 3, 1) := by decide +kernel
theorem dX1_listenAgain_41 : decode cX1_listenAgain 41 = .ok (.aaload, 1) := by decide +kernel
theorem dX1_listenAgain_42 : decode cX1_listenAgain 42 = .ok (.iconst 2, 1) := by decide +kernel
theorem dX1_listenAgain_43 : decode cX1_listenAgain 43 = .ok (.iaload, 1) := by decide +kernel
theorem dX1_listenAgain_44 : decode cX1_listenAgain 44 = .ok (.if_icmp .ge 59, 3) := by decide +kernel
theorem dX1_listenAgain_47 : decode cX1_listenAgain 47 = .ok (.aload_n 0, 1) := by decide +kernel
theorem dX1_listenAgain_48 : decode cX1_listenAgain 48 = .ok (.getfield 21, 3) := by decide +kernel
theorem dX1_listenAgain_51 : decode cX1_listenAgain 51 = .ok (.iload_n 3, 1) := by decide +kernel
theorem dX1_listenAgain_52 : decode cX1_listenAgain 52 = .ok (.bipush 10, 2) := by decide +kernel
theorem dX1_listenAgain_54 : decode cX1_listenAgain 54 = .ok (.imul, 1) := by decide +kernel
theorem dX1_listenAgain_55 : decode cX1_listenAgain 55 = .ok (.iload 4, 2) := by decide +kernel
theorem dX1_listenAgain_57 : decode cX1_listenAgain 57 = .ok (.iadd, 1) := by decide +kernel
theorem dX1_listenAgain_58 : decode cX1_listenAgain 58 = .ok (.iaload, 1) := by decide +kernel
theorem dX1_listenAgain_59 : decode cX1_listenAgain 59 = .ok (.iload_n 2, 1) := by decide +kernel
theorem dX1_listenAgain_60 : decode cX1_listenAgain 60 = .ok (.iconst (-1), 1) := by decide +kernel
theorem dX1_listenAgain_61 : decode cX1_listenAgain 61 = .ok (.ixor, 1) := by decide +kernel
theorem dX1_listenAgain_62 : decode cX1_listenAgain 62 = .ok (.iand, 1) := by decide +kernel
theorem dX1_listenAgain_63 : decode cX1_listenAgain 63 = .ok (.istore 5, 2) := by decide +kernel
theorem dX1_listenAgain_65 : decode cX1_listenAgain 65 = .ok (.aload_n 0, 1) := by decide +kernel
theorem dX1_listenAgain_66 : decode cX1_listenAgain 66 = .ok (.getfield 21, 3) := by decide +kernel
theorem dX1_listenAgain_69 : decode cX1_listenAgain 69 = .ok (.iload_n 3, 1) := by decide +kernel
theorem dX1_listenAgain_70 : decode cX1_listenAgain 70 = .ok (.bipush 10, 2) := by decide +kernel
theorem dX1_listenAgain_72 : decode cX1_listenAgain 72 = .ok (.imul, 1) := by decide +kernel
theorem dX1_listenAgain_73 : decode cX1_listenAgain 73 = .ok (.iload 4, 2) := by decide +kernel
theorem dX1_listenAgain_75 : decode cX1_listenAgain 75 = .ok (.iadd, 1) := by decide +kernel
theorem dX1_listenAgain_76 : decode cX1_listenAgain 76 = .ok (.aload_n 0, 1) := by decide +kernel
theorem dX1_listenAgain_77 : decode cX1_listenAgain 77 = .ok (.iload_n 1, 1) := by decide +kernel
theorem dX1_listenAgain_78 : decode cX1_listenAgain 78 = .ok (.iload_n 3, 1) := by decide +kernel
theorem dX1_listenAgain_79 : decode cX1_listenAgain 79 = .ok (.iload 4, 2) := by decide +kernel
theorem dX1_listenAgain_81 : decode cX1_listenAgain 81 = .ok (.invokevirtual 96, 3) := by decide +kernel
theorem dX1_listenAgain_84 : decode cX1_listenAgain 84 = .ok (.ifCond .eq 10, 3) := by decide +kernel
theorem dX1_listenAgain_87 : decode cX1_listenAgain 87 = .ok (.iload 5, 2) := by decide +kernel
theorem dX1_listenAgain_89 : decode cX1_listenAgain 89 = .ok (.iload_n 2, 1) := by decide +kernel
theorem dX1_listenAgain_90 : decode cX1_listenAgain 90 = .ok (.ior, 1) := by decide +kernel
theorem dX1_listenAgain_91 : decode cX1_listenAgain 91 = .ok (.goto 5, 3) := by decide +kernel
theorem dX1_listenAgain_94 : decode cX1_listenAgain 94 = .ok (.iload 5, 2) := by decide +kernel
theorem dX1_listenAgain_96 : decode cX1_listenAgain 96 = .ok (.iastore, 1) := by decide +kernel
theorem dX1_listenAgain_97 : decode cX1_listenAgain 97 = .ok (.iinc 4 1, 3) := by decide +kernel
theorem dX1_listenAgain_100 : decode cX1_listenAgain 100 = .ok (.goto (-69), 3) := by decide +kernel
theorem dX1_listenAgain_103 : decode cX1_listenAgain 103 = .ok (.iinc 3 1, 3) := by decide +kernel
theorem dX1_listenAgain_106 : decode cX1_listenAgain 106 = .ok (.goto (-89), 3) := by decide +kernel
theorem dX1_listenAgain_109 : decode cX1_listenAgain 109 = .ok (.return_, 1) := by decide +kernel
set_option maxRecDepth 20000 in
theorem ggX1_menInValley_X9_side : GoodIn wsX1_menInValley wsX9_side := goodIn_r _ [7, 8, 18, 19, 20, 21, 22, 23, 24, 25, 26, 27, 28, 29, 30, 31] rfl (by decide +kernel)
set_option maxRecDepth 20000 in
theorem gX1_menInValley_X9_side : GoodIn wsX1_menInValley (wsV RX1 86 RX9 yX9_side wsX9_side) := goodIn_app (goodIn_of _ (by decide +kernel)) ggX1_menInValley_X9_side
theorem dX1_menInValley_0 : decode cX1_menInValley 0 = .ok (.iconst 0, 1) := by decide +kernel
theorem dX1_menInValley_1 : decode cX1_menInValley 1 = .ok (.istore_n 2, 1) := by decide +kernel
theorem dX1_menInValley_2 : decode cX1_menInValley 2 = .ok (.iconst 0, 1) := by decide +kernel
theorem dX1_menInValley_3 : decode cX1_menInValley 3 = .ok (.istore_n 3, 1) := by decide +kernel
theorem dX1_menInValley_4 : decode cX1_menInValley 4 = .ok (.iload_n 3, 1) := by decide +kernel
theorem dX1_menInValley_5 : decode cX1_menInValley 5 = .ok (.aload_n 0, 1) := by decide +kernel
theorem dX1_menInValley_6 : decode cX1_menInValley 6 = .ok (.getfield 36, 3) := by decide +kernel
theorem dX1_menInValley_9 : decode cX1_menInValley 9 = .ok (.getfield 40, 3) := by decide +kernel
theorem dX1_menInValley_12 : decode cX1_menInValley 12 = .ok (.if_icmp .ge 32, 3) := by decide +kernel
theorem dX1_menInValley_15 : decode cX1_menInValley 15 = .ok (.aload_n 0, 1) := by decide +kernel
theorem dX1_menInValley_16 : decode cX1_menInValley 16 = .ok (.getfield 36, 3) := by decide +kernel
theorem dX1_menInValley_19 : decode cX1_menInValley 19 = .ok (.aload_n 0, 1) := by decide +kernel
theorem dX1_menInValley_20 : decode cX1_menInValley 20 = .ok (.getfield 9, 3) := by decide +kernel
theorem dX1_menInValley_23 : decode cX1_menInValley 23 = .ok (.iload_n 3, 1) := by decide +kernel
theorem dX1_menInValley_24 : decode cX1_menInValley 24 = .ok (.iaload, 1) := by decide +kernel
theorem dX1_menInValley_25 : decode cX1_menInValley 25 = .ok (.invokevirtual 86, 3) := by decide +kernel
theorem dX1_menInValley_28 : decode cX1_menInValley 28 = .ok (.iload_n 1, 1) := by decide +kernel
theorem dX1_menInValley_29 : decode cX1_menInValley 29 = .ok (.if_icmp .ne 9, 3) := by decide +kernel
theorem dX1_menInValley_32 : decode cX1_menInValley 32 = .ok (.iload_n 2, 1) := by decide +kernel
theorem dX1_menInValley_33 : decode cX1_menInValley 33 = .ok (.iconst 1, 1) := by decide +kernel
theorem dX1_menInValley_34 : decode cX1_menInValley 34 = .ok (.iload_n 3, 1) := by decide +kernel
theorem dX1_menInValley_35 : decode cX1_menInValley 35 = .ok (.ishl, 1) := by decide +kernel
theorem dX1_menInValley_36 : decode cX1_menInValley 36 = .ok (.ior, 1) := by decide +kernel
theorem dX1_menInValley_37 : decode cX1_menInValley 37 = .ok (.istore_n 2, 1) := by decide +kernel
theorem dX1_menInValley_38 : decode cX1_menInValley 38 = .ok (.iinc 3 1, 3) := by decide +kernel
theorem dX1_menInValley_41 : decode cX1_menInValley 41 = .ok (.goto (-37), 3) := by decide +kernel
theorem dX1_menInValley_44 : decode cX1_menInValley 44 = .ok (.iload_n 2, 1) := by decide +kernel
theorem dX1_menInValley_45 : decode cX1_menInValley 45 = .ok (.ireturn, 1) := by decide +kernel
set_option maxRecDepth 20000 in
theorem ggX1_firstHeard_X1_menInValley : GoodIn wsX1_firstHeard wsX1_menInValley := goodIn_r _ [7, 1, 8, 9, 10, 11, 12, 13, 14, 15, 16, 17, 18, 19, 20, 21, 22, 23, 24, 25, 26, 27, 28, 29, 30, 31, 32, 33, 34, 35, 36, 37] rfl (by decide +kernel)
set_option maxRecDepth 20000 in
theorem gX1_firstHeard_X1_menInValley : GoodIn wsX1_firstHeard (wsV RX1 111 RX1 yX1_menInValley wsX1_menInValley) := goodIn_app (goodIn_of _ (by decide +kernel)) ggX1_firstHeard_X1_menInValley
theorem dX1_firstHeard_0 : decode cX1_firstHeard 0 = .ok (.aload_n 0, 1) := by decide +kernel
theorem dX1_firstHeard_1 : decode cX1_firstHeard 1 = .ok (.iload_n 2, 1) := by decide +kernel
theorem dX1_firstHeard_2 : decode cX1_firstHeard 2 = .ok (.invokevirtual 111, 3) := by decide +kernel
theorem dX1_firstHeard_5 : decode cX1_firstHeard 5 = .ok (.istore_n 3, 1) := by decide +kernel
theorem dX1_firstHeard_6 : decode cX1_firstHeard 6 = .ok (.iconst 0, 1) := by decide +kernel
theorem dX1_firstHeard_7 : decode cX1_firstHeard 7 = .ok (.istore 4, 2) := by decide +kernel
theorem dX1_firstHeard_9 : decode cX1_firstHeard 9 = .ok (.iload 4, 2) := by decide +kernel
theorem dX1_firstHeard_11 : decode cX1_firstHeard 11 = .ok (.aload_n 0, 1) := by decide +kernel
theorem dX1_firstHeard_12 : decode cX1_firstHeard 12 = .ok (.getfield 36, 3) := by decide +kernel
theorem dX1_firstHeard_15 : decode cX1_firstHeard 15 = .ok (.getfield 79, 3) := by decide +kernel
theorem dX1_firstHeard_18 : decode cX1_firstHeard 18 = .ok (.iload_n 1, 1) := by decide +kernel
theorem dX1_firstHeard_19 : decode cX1_firstHeard 19 = .ok (.aaload, 1) := by decide +kernel
theorem dX1_firstHeard_20 : decode cX1_firstHeard 20 = .ok (.iconst 2, 1) := by decide +kernel
theorem dX1_firstHeard_21 : decode cX1_firstHeard 21 = .ok (.iaload, 1) := by decide +kernel
theorem dX1_firstHeard_22 : decode cX1_firstHeard 22 = .ok (.if_icmp .ge 29, 3) := by decide +kernel
theorem dX1_firstHeard_25 : decode cX1_firstHeard 25 = .ok (.aload_n 0, 1) := by decide +kernel
theorem dX1_firstHeard_26 : decode cX1_firstHeard 26 = .ok (.getfield 21, 3) := by decide +kernel
theorem dX1_firstHeard_29 : decode cX1_firstHeard 29 = .ok (.iload_n 1, 1) := by decide +kernel
theorem dX1_firstHeard_30 : decode cX1_firstHeard 30 = .ok (.bipush 10, 2) := by decide +kernel
theorem dX1_firstHeard_32 : decode cX1_firstHeard 32 = .ok (.imul, 1) := by decide +kernel
theorem dX1_firstHeard_33 : decode cX1_firstHeard 33 = .ok (.iload 4, 2) := by decide +kernel
theorem dX1_firstHeard_35 : decode cX1_firstHeard 35 = .ok (.iadd, 1) := by decide +kernel
theorem dX1_firstHeard_36 : decode cX1_firstHeard 36 = .ok (.iaload, 1) := by decide +kernel
theorem dX1_firstHeard_37 : decode cX1_firstHeard 37 = .ok (.iload_n 3, 1) := by decide +kernel
theorem dX1_firstHeard_38 : decode cX1_firstHeard 38 = .ok (.iand, 1) := by decide +kernel
theorem dX1_firstHeard_39 : decode cX1_firstHeard 39 = .ok (.ifCond .eq 6, 3) := by decide +kernel
theorem dX1_firstHeard_42 : decode cX1_firstHeard 42 = .ok (.iload 4, 2) := by decide +kernel
theorem dX1_firstHeard_44 : decode cX1_firstHeard 44 = .ok (.ireturn, 1) := by decide +kernel
theorem dX1_firstHeard_45 : decode cX1_firstHeard 45 = .ok (.iinc 4 1, 3) := by decide +kernel
theorem dX1_firstHeard_48 : decode cX1_firstHeard 48 = .ok (.goto (-39), 3) := by decide +kernel
theorem dX1_firstHeard_51 : decode cX1_firstHeard 51 = .ok (.iconst (-1), 1) := by decide +kernel
theorem dX1_firstHeard_52 : decode cX1_firstHeard 52 = .ok (.ireturn, 1) := by decide +kernel
set_option maxRecDepth 20000 in
theorem ggX1_countHonest_X1_firstHeard : GoodIn wsX1_countHonest wsX1_firstHeard := goodIn_r _ [6, 7, 1, 8, 9, 10, 5, 11, 12, 13, 14, 15, 16, 17, 18, 31, 32, 33, 34, 35, 36, 37, 38, 39, 40, 41, 42, 43, 44, 45, 46, 47, 48, 49, 50, 51, 52, 53] rfl (by decide +kernel)
set_option maxRecDepth 20000 in
theorem gX1_countHonest_X1_firstHeard : GoodIn wsX1_countHonest (wsV RX1 114 RX1 yX1_firstHeard wsX1_firstHeard) := goodIn_app (goodIn_of _ (by decide +kernel)) ggX1_countHonest_X1_firstHeard
set_option maxRecDepth 20000 in
theorem ggX1_countHonest_X1_menInValley : GoodIn wsX1_countHonest wsX1_menInValley := goodIn_r _ [11, 7, 12, 13, 14, 15, 16, 17, 18, 31, 32, 33, 34, 35, 36, 37, 38, 39, 40, 41, 42, 43, 44, 45, 46, 47, 48, 49, 50, 51, 52, 53] rfl (by decide +kernel)
set_option maxRecDepth 20000 in
theorem gX1_countHonest_X1_menInValley : GoodIn wsX1_countHonest (wsV RX1 111 RX1 yX1_menInValley wsX1_menInValley) := goodIn_app (goodIn_of _ (by decide +kernel)) ggX1_countHonest_X1_menInValley
set_option maxRecDepth 20000 in
theorem ggX1_countHonest_X1_noteSharers : GoodIn wsX1_countHonest wsX1_noteSharers := goodIn_r _ [22, 23, 24, 25, 7, 26, 27, 28, 16, 29, 30, 31, 32, 33, 34, 35, 36, 37, 38, 39, 40, 41, 42, 43, 44, 45, 46, 47, 48, 49, 50, 51, 52, 53] rfl (by decide +kernel)
set_option maxRecDepth 20000 in
theorem gX1_countHonest_X1_noteSharers : GoodIn wsX1_countHonest (wsV RX1 117 RX1 yX1_noteSharers wsX1_noteSharers) := goodIn_app (goodIn_of _ (by decide +kernel)) ggX1_countHonest_X1_noteSharers
theorem dX1_countHonest_0 : decode cX1_countHonest 0 = .ok (.iconst 0, 1) := by decide +kernel
theorem dX1_countHonest_1 : decode cX1_countHonest 1 = .ok (.istore_n 2, 1) := by decide +kernel
theorem dX1_countHonest_2 : decode cX1_countHonest 2 = .ok (.iload_n 2, 1) := by decide +kernel
theorem dX1_countHonest_3 : decode cX1_countHonest 3 = .ok (.iconst 2, 1) := by decide +kernel
theorem dX1_countHonest_4 : decode cX1_countHonest 4 = .ok (.if_icmp .ge 52, 3) := by decide +kernel
theorem dX1_countHonest_7 : decode cX1_countHonest 7 = .ok (.aload_n 0, 1) := by decide +kernel
theorem dX1_countHonest_8 : decode cX1_countHonest 8 = .ok (.iload_n 1, 1) := by decide +kernel
theorem dX1_countHonest_9 : decode cX1_countHonest 9 = .ok (.iload_n 2, 1) := by decide +kernel
theorem dX1_countHonest_10 : decode cX1_countHonest 10 = .ok (.invokevirtual 114, 3) := by decide +kernel
theorem dX1_countHonest_13 : decode cX1_countHonest 13 = .ok (.istore_n 3, 1) := by decide +kernel
theorem dX1_countHonest_14 : decode cX1_countHonest 14 = .ok (.iload_n 3, 1) := by decide +kernel
theorem dX1_countHonest_15 : decode cX1_countHonest 15 = .ok (.iconst (-1), 1) := by decide +kernel
theorem dX1_countHonest_16 : decode cX1_countHonest 16 = .ok (.if_icmp .ne 7, 3) := by decide +kernel
theorem dX1_countHonest_19 : decode cX1_countHonest 19 = .ok (.iconst 0, 1) := by decide +kernel
theorem dX1_countHonest_20 : decode cX1_countHonest 20 = .ok (.goto 20, 3) := by decide +kernel
theorem dX1_countHonest_23 : decode cX1_countHonest 23 = .ok (.aload_n 0, 1) := by decide +kernel
theorem dX1_countHonest_24 : decode cX1_countHonest 24 = .ok (.getfield 21, 3) := by decide +kernel
theorem dX1_countHonest_27 : decode cX1_countHonest 27 = .ok (.iload_n 1, 1) := by decide +kernel
theorem dX1_countHonest_28 : decode cX1_countHonest 28 = .ok (.bipush 10, 2) := by decide +kernel
theorem dX1_countHonest_30 : decode cX1_countHonest 30 = .ok (.imul, 1) := by decide +kernel
theorem dX1_countHonest_31 : decode cX1_countHonest 31 = .ok (.iload_n 3, 1) := by decide +kernel
theorem dX1_countHonest_32 : decode cX1_countHonest 32 = .ok (.iadd, 1) := by decide +kernel
theorem dX1_countHonest_33 : decode cX1_countHonest 33 = .ok (.iaload, 1) := by decide +kernel
theorem dX1_countHonest_34 : decode cX1_countHonest 34 = .ok (.aload_n 0, 1) := by decide +kernel
theorem dX1_countHonest_35 : decode cX1_countHonest 35 = .ok (.iload_n 2, 1) := by decide +kernel
theorem dX1_countHonest_36 : decode cX1_countHonest 36 = .ok (.invokevirtual 111, 3) := by decide +kernel
theorem dX1_countHonest_39 : decode cX1_countHonest 39 = .ok (.iand, 1) := by decide +kernel
theorem dX1_countHonest_40 : decode cX1_countHonest 40 = .ok (.istore 4, 2) := by decide +kernel
theorem dX1_countHonest_42 : decode cX1_countHonest 42 = .ok (.aload_n 0, 1) := by decide +kernel
theorem dX1_countHonest_43 : decode cX1_countHonest 43 = .ok (.iload_n 2, 1) := by decide +kernel
theorem dX1_countHonest_44 : decode cX1_countHonest 44 = .ok (.iload_n 3, 1) := by decide +kernel
theorem dX1_countHonest_45 : decode cX1_countHonest 45 = .ok (.iload 4, 2) := by decide +kernel
theorem dX1_countHonest_47 : decode cX1_countHonest 47 = .ok (.invokevirtual 117, 3) := by decide +kernel
theorem dX1_countHonest_50 : decode cX1_countHonest 50 = .ok (.iinc 2 1, 3) := by decide +kernel
theorem dX1_countHonest_53 : decode cX1_countHonest 53 = .ok (.goto (-51), 3) := by decide +kernel
theorem dX1_countHonest_56 : decode cX1_countHonest 56 = .ok (.return_, 1) := by decide +kernel
set_option maxRecDepth 20000 in
theorem ggX1_countOaths_X1_menInValley : GoodIn wsX1_countOaths wsX1_menInValley := goodIn_r _ [6, 1, 7, 8, 9, 10, 11, 12, 13, 26, 27, 28, 29, 30, 31, 32, 33, 34, 35, 36, 37, 38, 39, 40, 41, 42, 43, 44, 45, 46, 47, 48] rfl (by decide +kernel)
set_option maxRecDepth 20000 in
theorem gX1_countOaths_X1_menInValley : GoodIn wsX1_countOaths (wsV RX1 111 RX1 yX1_menInValley wsX1_menInValley) := goodIn_app (goodIn_of _ (by decide +kernel)) ggX1_countOaths_X1_menInValley
set_option maxRecDepth 20000 in
theorem ggX1_countOaths_X1_noteSharers : GoodIn wsX1_countOaths wsX1_noteSharers := goodIn_r _ [17, 18, 19, 20, 1, 21, 22, 23, 11, 24, 25, 26, 27, 28, 29, 30, 31, 32, 33, 34, 35, 36, 37, 38, 39, 40, 41, 42, 43, 44, 45, 46, 47, 48] rfl (by decide +kernel)
set_option maxRecDepth 20000 in
theorem gX1_countOaths_X1_noteSharers : GoodIn wsX1_countOaths (wsV RX1 117 RX1 yX1_noteSharers wsX1_noteSharers) := goodIn_app (goodIn_of _ (by decide +kernel)) ggX1_countOaths_X1_noteSharers
theorem dX1_countOaths_0 : decode cX1_countOaths 0 = .ok (.iconst 0, 1) := by decide +kernel
theorem dX1_countOaths_1 : decode cX1_countOaths 1 = .ok (.istore_n 2, 1) := by decide +kernel
theorem dX1_countOaths_2 : decode cX1_countOaths 2 = .ok (.iload_n 2, 1) := by decide +kernel
theorem dX1_countOaths_3 : decode cX1_countOaths 3 = .ok (.iconst 2, 1) := by decide +kernel
theorem dX1_countOaths_4 : decode cX1_countOaths 4 = .ok (.if_icmp .ge 114, 3) := by decide +kernel
theorem dX1_countOaths_7 : decode cX1_countOaths 7 = .ok (.aload_n 0, 1) := by decide +kernel
theorem dX1_countOaths_8 : decode cX1_countOaths 8 = .ok (.iload_n 2, 1) := by decide +kernel
theorem dX1_countOaths_9 : decode cX1_countOaths 9 = .ok (.invokevirtual 111, 3) := by decide +kernel
theorem dX1_countOaths_12 : decode cX1_countOaths 12 = .ok (.istore_n 3, 1) := by decide +kernel
theorem dX1_countOaths_13 : decode cX1_countOaths 13 = .ok (.iconst (-1), 1) := by decide +kernel
theorem dX1_countOaths_14 : decode cX1_countOaths 14 = .ok (.istore 4, 2) := by decide +kernel
theorem dX1_countOaths_16 : decode cX1_countOaths 16 = .ok (.iconst 0, 1) := by decide +kernel
theorem dX1_countOaths_17 : decode cX1_countOaths 17 = .ok (.istore 5, 2) := by decide +kernel
theorem dX1_countOaths_19 : decode cX1_countOaths 19 = .ok (.iconst 0, 1) := by decide +kernel
theorem dX1_countOaths_20 : decode cX1_countOaths 20 = .ok (.istore 6, 2) := by decide +kernel
theorem dX1_countOaths_22 : decode cX1_countOaths 22 = .ok (.iload 6, 2) := by decide +kernel
theorem dX1_countOaths_24 : decode cX1_countOaths 24 = .ok (.aload_n 0, 1) := by decide +kernel
theorem dX1_countOaths_25 : decode cX1_countOaths 25 = .ok (.getfield 36, 3) := by decide +kernel
theorem dX1_countOaths_28 : decode cX1_countOaths 28 = .ok (.getfield 40, 3) := by decide +kernel
theorem dX1_countOaths_31 : decode cX1_countOaths 31 = .ok (.if_icmp .ge 72, 3) := by decide +kernel
theorem dX1_countOaths_34 : decode cX1_countOaths 34 = .ok (.aload_n 1, 1) := by decide +kernel
theorem dX1_countOaths_35 : decode cX1_countOaths 35 = .ok (.getfield 121, 3) := by decide +kernel
theorem dX1_countOaths_38 : decode cX1_countOaths 38 = .ok (.iload 6, 2) := by decide +kernel
theorem dX1_countOaths_40 : decode cX1_countOaths 40 = .ok (.iaload, 1) := by decide +kernel
theorem dX1_countOaths_41 : decode cX1_countOaths 41 = .ok (.istore 7, 2) := by decide +kernel
theorem dX1_countOaths_43 : decode cX1_countOaths 43 = .ok (.iload 7, 2) := by decide +kernel
theorem dX1_countOaths_45 : decode cX1_countOaths 45 = .ok (.iconst (-1), 1) := by decide +kernel
theorem dX1_countOaths_46 : decode cX1_countOaths 46 = .ok (.if_icmp .eq 51, 3) := by decide +kernel
theorem dX1_countOaths_49 : decode cX1_countOaths 49 = .ok (.iload_n 3, 1) := by decide +kernel
theorem dX1_countOaths_50 : decode cX1_countOaths 50 = .ok (.iload 6, 2) := by decide +kernel
theorem dX1_countOaths_52 : decode cX1_countOaths 52 = .ok (.ishr, 1) := by decide +kernel
theorem dX1_countOaths_53 : decode cX1_countOaths 53 = .ok (.iconst 1, 1) := by decide +kernel
theorem dX1_countOaths_54 : decode cX1_countOaths 54 = .ok (.iand, 1) := by decide +kernel
theorem dX1_countOaths_55 : decode cX1_countOaths 55 = .ok (.ifCond .ne 6, 3) := by decide +kernel
theorem dX1_countOaths_58 : decode cX1_countOaths 58 = .ok (.goto 39, 3) := by decide +kernel
theorem dX1_countOaths_61 : decode cX1_countOaths 61 = .ok (.iload 4, 2) := by decide +kernel
theorem dX1_countOaths_63 : decode cX1_countOaths 63 = .ok (.iconst (-1), 1) := by decide +kernel
theorem dX1_countOaths_64 : decode cX1_countOaths 64 = .ok (.if_icmp .eq 10, 3) := by decide +kernel
theorem dX1_countOaths_67 : decode cX1_countOaths 67 = .ok (.iload 7, 2) := by decide +kernel
theorem dX1_countOaths_69 : decode cX1_countOaths 69 = .ok (.iload 4, 2) := by decide +kernel
theorem dX1_countOaths_71 : decode cX1_countOaths 71 = .ok (.if_icmp .ge 10, 3) := by decide +kernel
theorem dX1_countOaths_74 : decode cX1_countOaths 74 = .ok (.iload 7, 2) := by decide +kernel
theorem dX1_countOaths_76 : decode cX1_countOaths 76 = .ok (.istore 4, 2) := by decide +kernel
theorem dX1_countOaths_78 : decode cX1_countOaths 78 = .ok (.iconst 0, 1) := by decide +kernel
theorem dX1_countOaths_79 : decode cX1_countOaths 79 = .ok (.istore 5, 2) := by decide +kernel
theorem dX1_countOaths_81 : decode cX1_countOaths 81 = .ok (.iload 7, 2) := by decide +kernel
theorem dX1_countOaths_83 : decode cX1_countOaths 83 = .ok (.iload 4, 2) := by decide +kernel
theorem dX1_countOaths_85 : decode cX1_countOaths 85 = .ok (.if_icmp .ne 12, 3) := by decide +kernel
theorem dX1_countOaths_88 : decode cX1_countOaths 88 = .ok (.iload 5, 2) := by decide +kernel
theorem dX1_countOaths_90 : decode cX1_countOaths 90 = .ok (.iconst 1, 1) := by decide +kernel
theorem dX1_countOaths_91 : decode cX1_countOaths 91 = .ok (.iload 6, 2) := by decide +kernel
theorem dX1_countOaths_93 : decode cX1_countOaths 93 = .ok (.ishl, 1) := by decide +kernel
theorem dX1_countOaths_94 : decode cX1_countOaths 94 = .ok (.ior, 1) := by decide +kernel
theorem dX1_countOaths_95 : decode cX1_countOaths 95 = .ok (.istore 5, 2) := by decide +kernel
theorem dX1_countOaths_97 : decode cX1_countOaths 97 = .ok (.iinc 6 1, 3) := by decide +kernel
theorem dX1_countOaths_100 : decode cX1_countOaths 100 = .ok (.goto (-78), 3) := by decide +kernel
theorem dX1_countOaths_103 : decode cX1_countOaths 103 = .ok (.aload_n 0, 1) := by decide +kernel
theorem dX1_countOaths_104 : decode cX1_countOaths 104 = .ok (.iload_n 2, 1) := by decide +kernel
theorem dX1_countOaths_105 : decode cX1_countOaths 105 = .ok (.iload 4, 2) := by decide +kernel
theorem dX1_countOaths_107 : decode cX1_countOaths 107 = .ok (.iload 5, 2) := by decide +kernel
theorem dX1_countOaths_109 : decode cX1_countOaths 109 = .ok (.invokevirtual 117, 3) := by decide +kernel
theorem dX1_countOaths_112 : decode cX1_countOaths 112 = .ok (.iinc 2 1, 3) := by decide +kernel
theorem dX1_countOaths_115 : decode cX1_countOaths 115 = .ok (.goto (-113), 3) := by decide +kernel
theorem dX1_countOaths_118 : decode cX1_countOaths 118 = .ok (.return_, 1) := by decide +kernel
set_option maxRecDepth 20000 in
theorem ggX1_noteSharers_X9_weight : GoodIn wsX1_noteSharers wsX9_weight := goodIn_r _ [9, 10, 20, 21, 22, 23, 24, 25, 26, 27, 28, 29, 30, 31, 32, 33] rfl (by decide +kernel)
set_option maxRecDepth 20000 in
theorem gX1_noteSharers_X9_weight : GoodIn wsX1_noteSharers (wsV RX1 124 RX9 yX9_weight wsX9_weight) := goodIn_app (goodIn_of _ (by decide +kernel)) ggX1_noteSharers_X9_weight
theorem dX1_noteSharers_0 : decode cX1_noteSharers 0 = .ok (.aload_n 0, 1) := by decide +kernel
theorem dX1_noteSharers_1 : decode cX1_noteSharers 1 = .ok (.getfield 27, 3) := by decide +kernel
theorem dX1_noteSharers_4 : decode cX1_noteSharers 4 = .ok (.iload_n 1, 1) := by decide +kernel
theorem dX1_noteSharers_5 : decode cX1_noteSharers 5 = .ok (.iload_n 2, 1) := by decide +kernel
theorem dX1_noteSharers_6 : decode cX1_noteSharers 6 = .ok (.iastore, 1) := by decide +kernel
theorem dX1_noteSharers_7 : decode cX1_noteSharers 7 = .ok (.aload_n 0, 1) := by decide +kernel
theorem dX1_noteSharers_8 : decode cX1_noteSharers 8 = .ok (.getfield 30, 3) := by decide +kernel
theorem dX1_noteSharers_11 : decode cX1_noteSharers 11 = .ok (.iload_n 1, 1) := by decide +kernel
theorem dX1_noteSharers_12 : decode cX1_noteSharers 12 = .ok (.iload_n 3, 1) := by decide +kernel
theorem dX1_noteSharers_13 : decode cX1_noteSharers 13 = .ok (.iastore, 1) := by decide +kernel
theorem dX1_noteSharers_14 : decode cX1_noteSharers 14 = .ok (.aload_n 0, 1) := by decide +kernel
theorem dX1_noteSharers_15 : decode cX1_noteSharers 15 = .ok (.getfield 33, 3) := by decide +kernel
theorem dX1_noteSharers_18 : decode cX1_noteSharers 18 = .ok (.iload_n 1, 1) := by decide +kernel
theorem dX1_noteSharers_19 : decode cX1_noteSharers 19 = .ok (.iconst 0, 1) := by decide +kernel
theorem dX1_noteSharers_20 : decode cX1_noteSharers 20 = .ok (.iastore, 1) := by decide +kernel
theorem dX1_noteSharers_21 : decode cX1_noteSharers 21 = .ok (.iconst 0, 1) := by decide +kernel
theorem dX1_noteSharers_22 : decode cX1_noteSharers 22 = .ok (.istore 4, 2) := by decide +kernel
theorem dX1_noteSharers_24 : decode cX1_noteSharers 24 = .ok (.iload 4, 2) := by decide +kernel
theorem dX1_noteSharers_26 : decode cX1_noteSharers 26 = .ok (.aload_n 0, 1) := by decide +kernel
theorem dX1_noteSharers_27 : decode cX1_noteSharers 27 = .ok (.getfield 36, 3) := by decide +kernel
theorem dX1_noteSharers_30 : decode cX1_noteSharers 30 = .ok (.getfield 40, 3) := by decide +kernel
theorem dX1_noteSharers_33 : decode cX1_noteSharers 33 = .ok (.if_icmp .ge 37, 3) := by decide +kernel
theorem dX1_noteSharers_36 : decode cX1_noteSharers 36 = .ok (.iload_n 3, 1) := by decide +kernel
theorem dX1_noteSharers_37 : decode cX1_noteSharers 37 = .ok (.iload 4, 2) := by decide +kernel
theorem dX1_noteSharers_39 : decode cX1_noteSharers 39 = .ok (.ishr, 1) := by decide +kernel
theorem dX1_noteSharers_40 : decode cX1_noteSharers 40 = .ok (.iconst 1, 1) := by decide +kernel
theorem dX1_noteSharers_41 : decode cX1_noteSharers 41 = .ok (.iand, 1) := by decide +kernel
theorem dX1_noteSharers_42 : decode cX1_noteSharers 42 = .ok (.iconst 1, 1) := by decide +kernel
theorem dX1_noteSharers_43 : decode cX1_noteSharers 43 = .ok (.if_icmp .ne 21, 3) := by decide +kernel
theorem dX1_noteSharers_46 : decode cX1_noteSharers 46 = .ok (.aload_n 0, 1) := by decide +kernel
theorem dX1_noteSharers_47 : decode cX1_noteSharers 47 = .ok (.getfield 33, 3) := by decide +kernel
theorem dX1_noteSharers_50 : decode cX1_noteSharers 50 = .ok (.iload_n 1, 1) := by decide +kernel
theorem dX1_noteSharers_51 : decode cX1_noteSharers 51 = .ok (.dup2, 1) := by decide +kernel
theorem dX1_noteSharers_52 : decode cX1_noteSharers 52 = .ok (.iaload, 1) := by decide +kernel
theorem dX1_noteSharers_53 : decode cX1_noteSharers 53 = .ok (.aload_n 0, 1) := by decide +kernel
theorem dX1_noteSharers_54 : decode cX1_noteSharers 54 = .ok (.getfield 36, 3) := by decide +kernel
theorem dX1_noteSharers_57 : decode cX1_noteSharers 57 = .ok (.iload 4, 2) := by decide +kernel
theorem dX1_noteSharers_59 : decode cX1_noteSharers 59 = .ok (.invokevirtual 124, 3) := by decide +kernel
theorem dX1_noteSharers_62 : decode cX1_noteSharers 62 = .ok (.iadd, 1) := by decide +kernel
theorem dX1_noteSharers_63 : decode cX1_noteSharers 63 = .ok (.iastore, 1) := by decide +kernel
theorem dX1_noteSharers_64 : decode cX1_noteSharers 64 = .ok (.iinc 4 1, 3) := by decide +kernel
theorem dX1_noteSharers_67 : decode cX1_noteSharers 67 = .ok (.goto (-43), 3) := by decide +kernel
theorem dX1_noteSharers_70 : decode cX1_noteSharers 70 = .ok (.return_, 1) := by decide +kernel
theorem dX1_allSharers_0 : decode cX1_allSharers 0 = .ok (.aload_n 0, 1) := by decide +kernel
theorem dX1_allSharers_1 : decode cX1_allSharers 1 = .ok (.getfield 30, 3) := by decide +kernel
theorem dX1_allSharers_4 : decode cX1_allSharers 4 = .ok (.iconst 0, 1) := by decide +kernel
theorem dX1_allSharers_5 : decode cX1_allSharers 5 = .ok (.iaload, 1) := by decide +kernel
theorem dX1_allSharers_6 : decode cX1_allSharers 6 = .ok (.aload_n 0, 1) := by decide +kernel
theorem dX1_allSharers_7 : decode cX1_allSharers 7 = .ok (.getfield 30, 3) := by decide +kernel
theorem dX1_allSharers_10 : decode cX1_allSharers 10 = .ok (.iconst 1, 1) := by decide +kernel
theorem dX1_allSharers_11 : decode cX1_allSharers 11 = .ok (.iaload, 1) := by decide +kernel
theorem dX1_allSharers_12 : decode cX1_allSharers 12 = .ok (.ior, 1) := by decide +kernel
theorem dX1_allSharers_13 : decode cX1_allSharers 13 = .ok (.ireturn, 1) := by decide +kernel
theorem dX1_sideOfShare_0 : decode cX1_sideOfShare 0 = .ok (.aload_n 0, 1) := by decide +kernel
theorem dX1_sideOfShare_1 : decode cX1_sideOfShare 1 = .ok (.getfield 30, 3) := by decide +kernel
theorem dX1_sideOfShare_4 : decode cX1_sideOfShare 4 = .ok (.iconst 0, 1) := by decide +kernel
theorem dX1_sideOfShare_5 : decode cX1_sideOfShare 5 = .ok (.iaload, 1) := by decide +kernel
theorem dX1_sideOfShare_6 : decode cX1_sideOfShare 6 = .ok (.iload_n 1, 1) := by decide +kernel
theorem dX1_sideOfShare_7 : decode cX1_sideOfShare 7 = .ok (.ishr, 1) := by decide +kernel
theorem dX1_sideOfShare_8 : decode cX1_sideOfShare 8 = .ok (.iconst 1, 1) := by decide +kernel
theorem dX1_sideOfShare_9 : decode cX1_sideOfShare 9 = .ok (.iand, 1) := by decide +kernel
theorem dX1_sideOfShare_10 : decode cX1_sideOfShare 10 = .ok (.iconst 1, 1) := by decide +kernel
theorem dX1_sideOfShare_11 : decode cX1_sideOfShare 11 = .ok (.if_icmp .ne 5, 3) := by decide +kernel
theorem dX1_sideOfShare_14 : decode cX1_sideOfShare 14 = .ok (.iconst 0, 1) := by decide +kernel
theorem dX1_sideOfShare_15 : decode cX1_sideOfShare 15 = .ok (.ireturn, 1) := by decide +kernel
theorem dX1_sideOfShare_16 : decode cX1_sideOfShare 16 = .ok (.aload_n 0, 1) := by decide +kernel
theorem dX1_sideOfShare_17 : decode cX1_sideOfShare 17 = .ok (.getfield 30, 3) := by decide +kernel
theorem dX1_sideOfShare_20 : decode cX1_sideOfShare 20 = .ok (.iconst 1, 1) := by decide +kernel
theorem dX1_sideOfShare_21 : decode cX1_sideOfShare 21 = .ok (.iaload, 1) := by decide +kernel
theorem dX1_sideOfShare_22 : decode cX1_sideOfShare 22 = .ok (.iload_n 1, 1) := by decide +kernel
theorem dX1_sideOfShare_23 : decode cX1_sideOfShare 23 = .ok (.ishr, 1) := by decide +kernel
theorem dX1_sideOfShare_24 : decode cX1_sideOfShare 24 = .ok (.iconst 1, 1) := by decide +kernel
theorem dX1_sideOfShare_25 : decode cX1_sideOfShare 25 = .ok (.iand, 1) := by decide +kernel
theorem dX1_sideOfShare_26 : decode cX1_sideOfShare 26 = .ok (.iconst 1, 1) := by decide +kernel
theorem dX1_sideOfShare_27 : decode cX1_sideOfShare 27 = .ok (.if_icmp .ne 7, 3) := by decide +kernel
theorem dX1_sideOfShare_30 : decode cX1_sideOfShare 30 = .ok (.iconst 1, 1) := by decide +kernel
theorem dX1_sideOfShare_31 : decode cX1_sideOfShare 31 = .ok (.goto 4, 3) := by decide +kernel
theorem dX1_sideOfShare_34 : decode cX1_sideOfShare 34 = .ok (.iconst (-1), 1) := by decide +kernel
theorem dX1_sideOfShare_35 : decode cX1_sideOfShare 35 = .ok (.ireturn, 1) := by decide +kernel
set_option maxRecDepth 20000 in
theorem ggX1_portion_X1_sideOfShare : GoodIn wsX1_portion wsX1_sideOfShare := goodIn_r _ [8, 9, 16, 17, 18, 19, 20, 21, 22, 23, 24] rfl (by decide +kernel)
set_option maxRecDepth 20000 in
theorem gX1_portion_X1_sideOfShare : GoodIn wsX1_portion (wsV RX1 127 RX1 yX1_sideOfShare wsX1_sideOfShare) := goodIn_app (goodIn_of _ (by decide +kernel)) ggX1_portion_X1_sideOfShare
set_option maxRecDepth 20000 in
theorem ggX1_portion_X9_weight : GoodIn wsX1_portion wsX9_weight := goodIn_r _ [14, 15, 25, 26, 27, 28, 29, 30, 31, 32, 33, 34, 35, 36, 37, 38] rfl (by decide +kernel)
set_option maxRecDepth 20000 in
theorem gX1_portion_X9_weight : GoodIn wsX1_portion (wsV RX1 124 RX9 yX9_weight wsX9_weight) := goodIn_app (goodIn_of _ (by decide +kernel)) ggX1_portion_X9_weight
theorem dX1_portion_0 : decode cX1_portion 0 = .ok (.aload_n 0, 1) := by decide +kernel
theorem dX1_portion_1 : decode cX1_portion 1 = .ok (.iload_n 1, 1) := by decide +kernel
theorem dX1_portion_2 : decode cX1_portion 2 = .ok (.invokevirtual 127, 3) := by decide +kernel
theorem dX1_portion_5 : decode cX1_portion 5 = .ok (.istore_n 3, 1) := by decide +kernel
theorem dX1_portion_6 : decode cX1_portion 6 = .ok (.iload_n 3, 1) := by decide +kernel
theorem dX1_portion_7 : decode cX1_portion 7 = .ok (.iconst (-1), 1) := by decide +kernel
theorem dX1_portion_8 : decode cX1_portion 8 = .ok (.if_icmp .eq 12, 3) := by decide +kernel
theorem dX1_portion_11 : decode cX1_portion 11 = .ok (.aload_n 0, 1) := by decide +kernel
theorem dX1_portion_12 : decode cX1_portion 12 = .ok (.getfield 33, 3) := by decide +kernel
theorem dX1_portion_15 : decode cX1_portion 15 = .ok (.iload_n 3, 1) := by decide +kernel
theorem dX1_portion_16 : decode cX1_portion 16 = .ok (.iaload, 1) := by decide +kernel
theorem dX1_portion_17 : decode cX1_portion 17 = .ok (.ifCond .ne 5, 3) := by decide +kernel
theorem dX1_portion_20 : decode cX1_portion 20 = .ok (.iconst 0, 1) := by decide +kernel
theorem dX1_portion_21 : decode cX1_portion 21 = .ok (.ireturn, 1) := by decide +kernel
theorem dX1_portion_22 : decode cX1_portion 22 = .ok (.aload_n 0, 1) := by decide +kernel
theorem dX1_portion_23 : decode cX1_portion 23 = .ok (.getfield 27, 3) := by decide +kernel
theorem dX1_portion_26 : decode cX1_portion 26 = .ok (.iload_n 3, 1) := by decide +kernel
theorem dX1_portion_27 : decode cX1_portion 27 = .ok (.iaload, 1) := by decide +kernel
theorem dX1_portion_28 : decode cX1_portion 28 = .ok (.bipush 8, 2) := by decide +kernel
theorem dX1_portion_30 : decode cX1_portion 30 = .ok (.if_icmp .ne 9, 3) := by decide +kernel
theorem dX1_portion_33 : decode cX1_portion 33 = .ok (.iload_n 2, 1) := by decide +kernel
theorem dX1_portion_34 : decode cX1_portion 34 = .ok (.iconst 2, 1) := by decide +kernel
theorem dX1_portion_35 : decode cX1_portion 35 = .ok (.idiv, 1) := by decide +kernel
theorem dX1_portion_36 : decode cX1_portion 36 = .ok (.goto 4, 3) := by decide +kernel
theorem dX1_portion_39 : decode cX1_portion 39 = .ok (.iload_n 2, 1) := by decide +kernel
theorem dX1_portion_40 : decode cX1_portion 40 = .ok (.istore 4, 2) := by decide +kernel
theorem dX1_portion_42 : decode cX1_portion 42 = .ok (.iload 4, 2) := by decide +kernel
theorem dX1_portion_44 : decode cX1_portion 44 = .ok (.aload_n 0, 1) := by decide +kernel
theorem dX1_portion_45 : decode cX1_portion 45 = .ok (.getfield 36, 3) := by decide +kernel
theorem dX1_portion_48 : decode cX1_portion 48 = .ok (.iload_n 1, 1) := by decide +kernel
theorem dX1_portion_49 : decode cX1_portion 49 = .ok (.invokevirtual 124, 3) := by decide +kernel
theorem dX1_portion_52 : decode cX1_portion 52 = .ok (.imul, 1) := by decide +kernel
theorem dX1_portion_53 : decode cX1_portion 53 = .ok (.aload_n 0, 1) := by decide +kernel
theorem dX1_portion_54 : decode cX1_portion 54 = .ok (.getfield 33, 3) := by decide +kernel
theorem dX1_portion_57 : decode cX1_portion 57 = .ok (.iload_n 3, 1) := by decide +kernel
theorem dX1_portion_58 : decode cX1_portion 58 = .ok (.iaload, 1) := by decide +kernel
theorem dX1_portion_59 : decode cX1_portion 59 = .ok (.idiv, 1) := by decide +kernel
theorem dX1_portion_60 : decode cX1_portion 60 = .ok (.ireturn, 1) := by decide +kernel
set_option maxRecDepth 20000 in
theorem ggX1_wheatFor_X1_sideOfShare : GoodIn wsX1_wheatFor wsX1_sideOfShare := goodIn_r _ [8, 9, 16, 17, 18, 19, 20, 21, 22, 23, 24] rfl (by decide +kernel)
set_option maxRecDepth 20000 in
theorem gX1_wheatFor_X1_sideOfShare : GoodIn wsX1_wheatFor (wsV RX1 127 RX1 yX1_sideOfShare wsX1_sideOfShare) := goodIn_app (goodIn_of _ (by decide +kernel)) ggX1_wheatFor_X1_sideOfShare
set_option maxRecDepth 20000 in
theorem ggX1_wheatFor_X9_weight : GoodIn wsX1_wheatFor wsX9_weight := goodIn_r _ [14, 15, 25, 26, 27, 28, 29, 30, 31, 32, 33, 34, 35, 36, 37, 38] rfl (by decide +kernel)
set_option maxRecDepth 20000 in
theorem gX1_wheatFor_X9_weight : GoodIn wsX1_wheatFor (wsV RX1 124 RX9 yX9_weight wsX9_weight) := goodIn_app (goodIn_of _ (by decide +kernel)) ggX1_wheatFor_X9_weight
theorem dX1_wheatFor_0 : decode cX1_wheatFor 0 = .ok (.aload_n 0, 1) := by decide +kernel
theorem dX1_wheatFor_1 : decode cX1_wheatFor 1 = .ok (.iload_n 1, 1) := by decide +kernel
theorem dX1_wheatFor_2 : decode cX1_wheatFor 2 = .ok (.invokevirtual 127, 3) := by decide +kernel
theorem dX1_wheatFor_5 : decode cX1_wheatFor 5 = .ok (.istore_n 3, 1) := by decide +kernel
theorem dX1_wheatFor_6 : decode cX1_wheatFor 6 = .ok (.iload_n 3, 1) := by decide +kernel
theorem dX1_wheatFor_7 : decode cX1_wheatFor 7 = .ok (.iconst (-1), 1) := by decide +kernel
theorem dX1_wheatFor_8 : decode cX1_wheatFor 8 = .ok (.if_icmp .ne 5, 3) := by decide +kernel
theorem dX1_wheatFor_11 : decode cX1_wheatFor 11 = .ok (.iconst 0, 1) := by decide +kernel
theorem dX1_wheatFor_12 : decode cX1_wheatFor 12 = .ok (.ireturn, 1) := by decide +kernel
theorem dX1_wheatFor_13 : decode cX1_wheatFor 13 = .ok (.aload_n 0, 1) := by decide +kernel
theorem dX1_wheatFor_14 : decode cX1_wheatFor 14 = .ok (.getfield 36, 3) := by decide +kernel
theorem dX1_wheatFor_17 : decode cX1_wheatFor 17 = .ok (.iload_n 1, 1) := by decide +kernel
theorem dX1_wheatFor_18 : decode cX1_wheatFor 18 = .ok (.invokevirtual 124, 3) := by decide +kernel
theorem dX1_wheatFor_21 : decode cX1_wheatFor 21 = .ok (.istore 4, 2) := by decide +kernel
theorem dX1_wheatFor_23 : decode cX1_wheatFor 23 = .ok (.iload_n 2, 1) := by decide +kernel
theorem dX1_wheatFor_24 : decode cX1_wheatFor 24 = .ok (.aload_n 0, 1) := by decide +kernel
theorem dX1_wheatFor_25 : decode cX1_wheatFor 25 = .ok (.getfield 33, 3) := by decide +kernel
theorem dX1_wheatFor_28 : decode cX1_wheatFor 28 = .ok (.iload_n 3, 1) := by decide +kernel
theorem dX1_wheatFor_29 : decode cX1_wheatFor 29 = .ok (.iaload, 1) := by decide +kernel
theorem dX1_wheatFor_30 : decode cX1_wheatFor 30 = .ok (.imul, 1) := by decide +kernel
theorem dX1_wheatFor_31 : decode cX1_wheatFor 31 = .ok (.iload 4, 2) := by decide +kernel
theorem dX1_wheatFor_33 : decode cX1_wheatFor 33 = .ok (.iadd, 1) := by decide +kernel
theorem dX1_wheatFor_34 : decode cX1_wheatFor 34 = .ok (.iconst 1, 1) := by decide +kernel
theorem dX1_wheatFor_35 : decode cX1_wheatFor 35 = .ok (.isub, 1) := by decide +kernel
theorem dX1_wheatFor_36 : decode cX1_wheatFor 36 = .ok (.iload 4, 2) := by decide +kernel
theorem dX1_wheatFor_38 : decode cX1_wheatFor 38 = .ok (.idiv, 1) := by decide +kernel
theorem dX1_wheatFor_39 : decode cX1_wheatFor 39 = .ok (.istore 5, 2) := by decide +kernel
theorem dX1_wheatFor_41 : decode cX1_wheatFor 41 = .ok (.aload_n 0, 1) := by decide +kernel
theorem dX1_wheatFor_42 : decode cX1_wheatFor 42 = .ok (.getfield 27, 3) := by decide +kernel
theorem dX1_wheatFor_45 : decode cX1_wheatFor 45 = .ok (.iload_n 3, 1) := by decide +kernel
theorem dX1_wheatFor_46 : decode cX1_wheatFor 46 = .ok (.iaload, 1) := by decide +kernel
theorem dX1_wheatFor_47 : decode cX1_wheatFor 47 = .ok (.bipush 8, 2) := by decide +kernel
theorem dX1_wheatFor_49 : decode cX1_wheatFor 49 = .ok (.if_icmp .ne 10, 3) := by decide +kernel
theorem dX1_wheatFor_52 : decode cX1_wheatFor 52 = .ok (.iconst 2, 1) := by decide +kernel
theorem dX1_wheatFor_53 : decode cX1_wheatFor 53 = .ok (.iload 5, 2) := by decide +kernel
theorem dX1_wheatFor_55 : decode cX1_wheatFor 55 = .ok (.imul, 1) := by decide +kernel
theorem dX1_wheatFor_56 : decode cX1_wheatFor 56 = .ok (.goto 5, 3) := by decide +kernel
theorem dX1_wheatFor_59 : decode cX1_wheatFor 59 = .ok (.iload 5, 2) := by decide +kernel
theorem dX1_wheatFor_61 : decode cX1_wheatFor 61 = .ok (.ireturn, 1) := by decide +kernel
set_option maxRecDepth 20000 in
theorem ggX1_weighedShare_X1_countHonest : GoodIn wsX1_weighedShare wsX1_countHonest := goodIn_r _ [6, 7, 8, 9, 10, 5, 11, 1, 12, 13, 14, 15, 16, 17, 18, 19, 20, 21, 22, 23, 24, 25, 26, 27, 28, 29, 30, 31, 32, 33, 34, 43, 44, 45, 46, 47, 48, 49, 50, 51, 52, 53, 54, 55, 56, 57, 58, 59, 60, 61, 62, 63, 64, 65] rfl (by decide +kernel)
set_option maxRecDepth 20000 in
theorem gX1_weighedShare_X1_countHonest : GoodIn wsX1_weighedShare (wsV RX1 130 RX1 yX1_countHonest wsX1_countHonest) := goodIn_app (goodIn_of _ (by decide +kernel)) ggX1_weighedShare_X1_countHonest
set_option maxRecDepth 20000 in
theorem ggX1_weighedShare_X1_portion : GoodIn wsX1_weighedShare wsX1_portion := goodIn_r _ [38, 29, 27, 1, 39, 40, 41, 5, 42, 28, 30, 31, 32, 20, 33, 34, 43, 44, 45, 46, 47, 48, 49, 50, 51, 52, 53, 54, 55, 56, 57, 58, 59, 60, 61, 62, 63, 64, 65] rfl (by decide +kernel)
set_option maxRecDepth 20000 in
theorem gX1_weighedShare_X1_portion : GoodIn wsX1_weighedShare (wsV RX1 136 RX1 yX1_portion wsX1_portion) := goodIn_app (goodIn_of _ (by decide +kernel)) ggX1_weighedShare_X1_portion
theorem dX1_weighedShare_0 : decode cX1_weighedShare 0 = .ok (.iconst 0, 1) := by decide +kernel
theorem dX1_weighedShare_1 : decode cX1_weighedShare 1 = .ok (.istore_n 2, 1) := by decide +kernel
theorem dX1_weighedShare_2 : decode cX1_weighedShare 2 = .ok (.iconst 0, 1) := by decide +kernel
theorem dX1_weighedShare_3 : decode cX1_weighedShare 3 = .ok (.istore_n 3, 1) := by decide +kernel
theorem dX1_weighedShare_4 : decode cX1_weighedShare 4 = .ok (.iload_n 3, 1) := by decide +kernel
theorem dX1_weighedShare_5 : decode cX1_weighedShare 5 = .ok (.aload_n 0, 1) := by decide +kernel
theorem dX1_weighedShare_6 : decode cX1_weighedShare 6 = .ok (.getfield 36, 3) := by decide +kernel
theorem dX1_weighedShare_9 : decode cX1_weighedShare 9 = .ok (.getfield 104, 3) := by decide +kernel
theorem dX1_weighedShare_12 : decode cX1_weighedShare 12 = .ok (.if_icmp .ge 41, 3) := by decide +kernel
theorem dX1_weighedShare_15 : decode cX1_weighedShare 15 = .ok (.aload_n 0, 1) := by decide +kernel
theorem dX1_weighedShare_16 : decode cX1_weighedShare 16 = .ok (.iload_n 3, 1) := by decide +kernel
theorem dX1_weighedShare_17 : decode cX1_weighedShare 17 = .ok (.invokevirtual 130, 3) := by decide +kernel
theorem dX1_weighedShare_20 : decode cX1_weighedShare 20 = .ok (.iload_n 2, 1) := by decide +kernel
theorem dX1_weighedShare_21 : decode cX1_weighedShare 21 = .ok (.aload_n 0, 1) := by decide +kernel
theorem dX1_weighedShare_22 : decode cX1_weighedShare 22 = .ok (.getfield 36, 3) := by decide +kernel
theorem dX1_weighedShare_25 : decode cX1_weighedShare 25 = .ok (.getfield 79, 3) := by decide +kernel
theorem dX1_weighedShare_28 : decode cX1_weighedShare 28 = .ok (.iload_n 3, 1) := by decide +kernel
theorem dX1_weighedShare_29 : decode cX1_weighedShare 29 = .ok (.aaload, 1) := by decide +kernel
theorem dX1_weighedShare_30 : decode cX1_weighedShare 30 = .ok (.iconst 0, 1) := by decide +kernel
theorem dX1_weighedShare_31 : decode cX1_weighedShare 31 = .ok (.iaload, 1) := by decide +kernel
theorem dX1_weighedShare_32 : decode cX1_weighedShare 32 = .ok (.aload_n 0, 1) := by decide +kernel
theorem dX1_weighedShare_33 : decode cX1_weighedShare 33 = .ok (.iload_n 1, 1) := by decide +kernel
theorem dX1_weighedShare_34 : decode cX1_weighedShare 34 = .ok (.aload_n 0, 1) := by decide +kernel
theorem dX1_weighedShare_35 : decode cX1_weighedShare 35 = .ok (.getfield 36, 3) := by decide +kernel
theorem dX1_weighedShare_38 : decode cX1_weighedShare 38 = .ok (.getfield 133, 3) := by decide +kernel
theorem dX1_weighedShare_41 : decode cX1_weighedShare 41 = .ok (.invokevirtual 136, 3) := by decide +kernel
theorem dX1_weighedShare_44 : decode cX1_weighedShare 44 = .ok (.imul, 1) := by decide +kernel
theorem dX1_weighedShare_45 : decode cX1_weighedShare 45 = .ok (.iadd, 1) := by decide +kernel
theorem dX1_weighedShare_46 : decode cX1_weighedShare 46 = .ok (.istore_n 2, 1) := by decide +kernel
theorem dX1_weighedShare_47 : decode cX1_weighedShare 47 = .ok (.iinc 3 1, 3) := by decide +kernel
theorem dX1_weighedShare_50 : decode cX1_weighedShare 50 = .ok (.goto (-46), 3) := by decide +kernel
theorem dX1_weighedShare_53 : decode cX1_weighedShare 53 = .ok (.iload_n 2, 1) := by decide +kernel
theorem dX1_weighedShare_54 : decode cX1_weighedShare 54 = .ok (.ireturn, 1) := by decide +kernel
set_option maxRecDepth 20000 in
theorem ggX1_shareHeardAnew_X1_listenAgain : GoodIn wsX1_shareHeardAnew wsX1_listenAgain := goodIn_r _ [5, 6, 7, 8, 9, 10, 4, 11, 12, 13, 14, 15, 16, 17, 18, 19, 20, 21, 22, 23, 24, 25, 26, 27, 28, 29, 30, 31, 32, 33, 34, 35, 36, 37, 38, 39, 76, 77, 78, 79, 80, 81, 82, 83, 84, 85, 86, 87, 88, 89, 90, 91, 92, 93, 94, 95, 96, 97, 98] rfl (by decide +kernel)
set_option maxRecDepth 20000 in
theorem gX1_shareHeardAnew_X1_listenAgain : GoodIn wsX1_shareHeardAnew (wsV RX1 139 RX1 yX1_listenAgain wsX1_listenAgain) := goodIn_app (goodIn_of _ (by decide +kernel)) ggX1_shareHeardAnew_X1_listenAgain
set_option maxRecDepth 20000 in
theorem ggX1_shareHeardAnew_X1_weighedShare : GoodIn wsX1_shareHeardAnew wsX1_weighedShare := goodIn_r _ [43, 6, 44, 45, 46, 4, 47, 7, 48, 49, 50, 51, 52, 53, 54, 55, 13, 27, 28, 29, 18, 30, 31, 56, 57, 58, 59, 60, 61, 62, 63, 64, 65, 66, 67, 68, 69, 70, 71, 72, 73, 74, 75, 76, 77, 78, 79, 80, 81, 82, 83, 84, 85, 86, 87, 88, 89, 90, 91, 92, 93, 94, 95, 96, 97, 98] rfl (by decide +kernel)
set_option maxRecDepth 20000 in
theorem gX1_shareHeardAnew_X1_weighedShare : GoodIn wsX1_shareHeardAnew (wsV RX1 142 RX1 yX1_weighedShare wsX1_weighedShare) := goodIn_app (goodIn_of _ (by decide +kernel)) ggX1_shareHeardAnew_X1_weighedShare
theorem dX1_shareHeardAnew_0 : decode cX1_shareHeardAnew 0 = .ok (.aload_n 0, 1) := by decide +kernel
theorem dX1_shareHeardAnew_1 : decode cX1_shareHeardAnew 1 = .ok (.iload_n 1, 1) := by decide +kernel
theorem dX1_shareHeardAnew_2 : decode cX1_shareHeardAnew 2 = .ok (.invokevirtual 139, 3) := by decide +kernel
theorem dX1_shareHeardAnew_5 : decode cX1_shareHeardAnew 5 = .ok (.aload_n 0, 1) := by decide +kernel
theorem dX1_shareHeardAnew_6 : decode cX1_shareHeardAnew 6 = .ok (.iload_n 1, 1) := by decide +kernel
theorem dX1_shareHeardAnew_7 : decode cX1_shareHeardAnew 7 = .ok (.invokevirtual 142, 3) := by decide +kernel
theorem dX1_shareHeardAnew_10 : decode cX1_shareHeardAnew 10 = .ok (.ireturn, 1) := by decide +kernel
set_option maxRecDepth 20000 in
theorem ggX1_noteShares_X1_weighedShare : GoodIn wsX1_noteShares wsX1_weighedShare := goodIn_r _ [7, 1, 8, 9, 10, 6, 11, 12, 13, 14, 15, 16, 17, 18, 19, 20, 21, 22, 23, 24, 25, 26, 27, 28, 29, 30, 31, 32, 33, 34, 35, 36, 37, 38, 39, 40, 41, 42, 43, 44, 45, 46, 47, 48, 49, 50, 51, 52, 53, 54, 55, 56, 57, 58, 59, 60, 61, 62, 63, 64, 65, 66, 67, 68, 69, 70] rfl (by decide +kernel)
set_option maxRecDepth 20000 in
theorem gX1_noteShares_X1_weighedShare : GoodIn wsX1_noteShares (wsV RX1 142 RX1 yX1_weighedShare wsX1_weighedShare) := goodIn_app (goodIn_of _ (by decide +kernel)) ggX1_noteShares_X1_weighedShare
theorem dX1_noteShares_0 : decode cX1_noteShares 0 = .ok (.iconst 0, 1) := by decide +kernel
theorem dX1_noteShares_1 : decode cX1_noteShares 1 = .ok (.istore_n 1, 1) := by decide +kernel
theorem dX1_noteShares_2 : decode cX1_noteShares 2 = .ok (.iload_n 1, 1) := by decide +kernel
theorem dX1_noteShares_3 : decode cX1_noteShares 3 = .ok (.aload_n 0, 1) := by decide +kernel
theorem dX1_noteShares_4 : decode cX1_noteShares 4 = .ok (.getfield 36, 3) := by decide +kernel
theorem dX1_noteShares_7 : decode cX1_noteShares 7 = .ok (.getfield 40, 3) := by decide +kernel
theorem dX1_noteShares_10 : decode cX1_noteShares 10 = .ok (.if_icmp .ge 20, 3) := by decide +kernel
theorem dX1_noteShares_13 : decode cX1_noteShares 13 = .ok (.aload_n 0, 1) := by decide +kernel
theorem dX1_noteShares_14 : decode cX1_noteShares 14 = .ok (.getfield 24, 3) := by decide +kernel
theorem dX1_noteShares_17 : decode cX1_noteShares 17 = .ok (.iload_n 1, 1) := by decide +kernel
theorem dX1_noteShares_18 : decode cX1_noteShares 18 = .ok (.aload_n 0, 1) := by decide +kernel
theorem dX1_noteShares_19 : decode cX1_noteShares 19 = .ok (.iload_n 1, 1) := by decide +kernel
theorem dX1_noteShares_20 : decode cX1_noteShares 20 = .ok (.invokevirtual 142, 3) := by decide +kernel
theorem dX1_noteShares_23 : decode cX1_noteShares 23 = .ok (.iastore, 1) := by decide +kernel
theorem dX1_noteShares_24 : decode cX1_noteShares 24 = .ok (.iinc 1 1, 3) := by decide +kernel
theorem dX1_noteShares_27 : decode cX1_noteShares 27 = .ok (.goto (-25), 3) := by decide +kernel
theorem dX1_noteShares_30 : decode cX1_noteShares 30 = .ok (.return_, 1) := by decide +kernel
set_option maxRecDepth 20000 in
theorem ggX1_bothGain_X1_putBoth : GoodIn wsX1_bothGain wsX1_putBoth := goodIn_r _ [6, 7, 8, 9, 5, 10, 11, 12, 13, 14, 15, 16, 17, 18, 19, 20, 21, 22, 23, 24, 25, 26, 27, 28, 29, 30, 31, 32, 33, 34, 35, 36, 37, 38, 39, 40, 41, 42, 43, 44, 45, 46, 47, 48, 49, 50, 51, 52, 53, 54, 55, 56, 57, 101, 102, 103, 104, 105, 106, 107, 108, 109, 110, 111, 112, 113, 114, 115, 116, 117, 118, 119, 120, 121, 122, 123] rfl (by decide +kernel)
set_option maxRecDepth 20000 in
theorem gX1_bothGain_X1_putBoth : GoodIn wsX1_bothGain (wsV RX1 145 RX1 yX1_putBoth wsX1_putBoth) := goodIn_app (goodIn_of _ (by decide +kernel)) ggX1_bothGain_X1_putBoth
set_option maxRecDepth 20000 in
theorem ggX1_bothGain_X1_weighedShare : GoodIn wsX1_bothGain wsX1_weighedShare := goodIn_r _ [61, 11, 62, 63, 64, 5, 65, 29, 66, 67, 68, 69, 70, 71, 72, 73, 22, 45, 46, 47, 15, 48, 49, 74, 75, 76, 77, 78, 79, 80, 81, 82, 83, 84, 85, 86, 87, 88, 89, 90, 91, 92, 93, 101, 102, 103, 104, 105, 106, 107, 108, 109, 110, 111, 112, 113, 114, 115, 116, 117, 118, 119, 120, 121, 122, 123] rfl (by decide +kernel)
set_option maxRecDepth 20000 in
theorem gX1_bothGain_X1_weighedShare : GoodIn wsX1_bothGain (wsV RX1 142 RX1 yX1_weighedShare wsX1_weighedShare) := goodIn_app (goodIn_of _ (by decide +kernel)) ggX1_bothGain_X1_weighedShare
theorem dX1_bothGain_0 : decode cX1_bothGain 0 = .ok (.aload_n 3, 1) := by decide +kernel
theorem dX1_bothGain_1 : decode cX1_bothGain 1 = .ok (.getfield 46, 3) := by decide +kernel
theorem dX1_bothGain_4 : decode cX1_bothGain 4 = .ok (.iload_n 1, 1) := by decide +kernel
theorem dX1_bothGain_5 : decode cX1_bothGain 5 = .ok (.iaload, 1) := by decide +kernel
theorem dX1_bothGain_6 : decode cX1_bothGain 6 = .ok (.aload_n 3, 1) := by decide +kernel
theorem dX1_bothGain_7 : decode cX1_bothGain 7 = .ok (.getfield 46, 3) := by decide +kernel
theorem dX1_bothGain_10 : decode cX1_bothGain 10 = .ok (.iload_n 2, 1) := by decide +kernel
theorem dX1_bothGain_11 : decode cX1_bothGain 11 = .ok (.iaload, 1) := by decide +kernel
theorem dX1_bothGain_12 : decode cX1_bothGain 12 = .ok (.if_icmp .ne 5, 3) := by decide +kernel
theorem dX1_bothGain_15 : decode cX1_bothGain 15 = .ok (.iconst 0, 1) := by decide +kernel
theorem dX1_bothGain_16 : decode cX1_bothGain 16 = .ok (.ireturn, 1) := by decide +kernel
theorem dX1_bothGain_17 : decode cX1_bothGain 17 = .ok (.aload_n 0, 1) := by decide +kernel
theorem dX1_bothGain_18 : decode cX1_bothGain 18 = .ok (.iload_n 1, 1) := by decide +kernel
theorem dX1_bothGain_19 : decode cX1_bothGain 19 = .ok (.aload_n 3, 1) := by decide +kernel
theorem dX1_bothGain_20 : decode cX1_bothGain 20 = .ok (.getfield 46, 3) := by decide +kernel
theorem dX1_bothGain_23 : decode cX1_bothGain 23 = .ok (.iload_n 2, 1) := by decide +kernel
theorem dX1_bothGain_24 : decode cX1_bothGain 24 = .ok (.iaload, 1) := by decide +kernel
theorem dX1_bothGain_25 : decode cX1_bothGain 25 = .ok (.iload_n 2, 1) := by decide +kernel
theorem dX1_bothGain_26 : decode cX1_bothGain 26 = .ok (.aload_n 3, 1) := by decide +kernel
theorem dX1_bothGain_27 : decode cX1_bothGain 27 = .ok (.getfield 46, 3) := by decide +kernel
theorem dX1_bothGain_30 : decode cX1_bothGain 30 = .ok (.iload_n 1, 1) := by decide +kernel
theorem dX1_bothGain_31 : decode cX1_bothGain 31 = .ok (.iaload, 1) := by decide +kernel
theorem dX1_bothGain_32 : decode cX1_bothGain 32 = .ok (.invokevirtual 145, 3) := by decide +kernel
theorem dX1_bothGain_35 : decode cX1_bothGain 35 = .ok (.aload_n 0, 1) := by decide +kernel
theorem dX1_bothGain_36 : decode cX1_bothGain 36 = .ok (.iload_n 1, 1) := by decide +kernel
theorem dX1_bothGain_37 : decode cX1_bothGain 37 = .ok (.invokevirtual 142, 3) := by decide +kernel
theorem dX1_bothGain_40 : decode cX1_bothGain 40 = .ok (.aload_n 0, 1) := by decide +kernel
theorem dX1_bothGain_41 : decode cX1_bothGain 41 = .ok (.getfield 24, 3) := by decide +kernel
theorem dX1_bothGain_44 : decode cX1_bothGain 44 = .ok (.iload_n 1, 1) := by decide +kernel
theorem dX1_bothGain_45 : decode cX1_bothGain 45 = .ok (.iaload, 1) := by decide +kernel
theorem dX1_bothGain_46 : decode cX1_bothGain 46 = .ok (.if_icmp .le 21, 3) := by decide +kernel
theorem dX1_bothGain_49 : decode cX1_bothGain 49 = .ok (.aload_n 0, 1) := by decide +kernel
theorem dX1_bothGain_50 : decode cX1_bothGain 50 = .ok (.iload_n 2, 1) := by decide +kernel
theorem dX1_bothGain_51 : decode cX1_bothGain 51 = .ok (.invokevirtual 142, 3) := by decide +kernel
theorem dX1_bothGain_54 : decode cX1_bothGain 54 = .ok (.aload_n 0, 1) := by decide +kernel
theorem dX1_bothGain_55 : decode cX1_bothGain 55 = .ok (.getfield 24, 3) := by decide +kernel
theorem dX1_bothGain_58 : decode cX1_bothGain 58 = .ok (.iload_n 2, 1) := by decide +kernel
theorem dX1_bothGain_59 : decode cX1_bothGain 59 = .ok (.iaload, 1) := by decide +kernel
theorem dX1_bothGain_60 : decode cX1_bothGain 60 = .ok (.if_icmp .le 7, 3) := by decide +kernel
theorem dX1_bothGain_63 : decode cX1_bothGain 63 = .ok (.iconst 1, 1) := by decide +kernel
theorem dX1_bothGain_64 : decode cX1_bothGain 64 = .ok (.goto 4, 3) := by decide +kernel
theorem dX1_bothGain_67 : decode cX1_bothGain 67 = .ok (.iconst 0, 1) := by decide +kernel
theorem dX1_bothGain_68 : decode cX1_bothGain 68 = .ok (.istore 4, 2) := by decide +kernel
theorem dX1_bothGain_70 : decode cX1_bothGain 70 = .ok (.aload_n 0, 1) := by decide +kernel
theorem dX1_bothGain_71 : decode cX1_bothGain 71 = .ok (.iload_n 1, 1) := by decide +kernel
theorem dX1_bothGain_72 : decode cX1_bothGain 72 = .ok (.aload_n 3, 1) := by decide +kernel
theorem dX1_bothGain_73 : decode cX1_bothGain 73 = .ok (.getfield 46, 3) := by decide +kernel
theorem dX1_bothGain_76 : decode cX1_bothGain 76 = .ok (.iload_n 1, 1) := by decide +kernel
theorem dX1_bothGain_77 : decode cX1_bothGain 77 = .ok (.iaload, 1) := by decide +kernel
theorem dX1_bothGain_78 : decode cX1_bothGain 78 = .ok (.iload_n 2, 1) := by decide +kernel
theorem dX1_bothGain_79 : decode cX1_bothGain 79 = .ok (.aload_n 3, 1) := by decide +kernel
theorem dX1_bothGain_80 : decode cX1_bothGain 80 = .ok (.getfield 46, 3) := by decide +kernel
theorem dX1_bothGain_83 : decode cX1_bothGain 83 = .ok (.iload_n 2, 1) := by decide +kernel
theorem dX1_bothGain_84 : decode cX1_bothGain 84 = .ok (.iaload, 1) := by decide +kernel
theorem dX1_bothGain_85 : decode cX1_bothGain 85 = .ok (.invokevirtual 145, 3) := by decide +kernel
theorem dX1_bothGain_88 : decode cX1_bothGain 88 = .ok (.iload 4, 2) := by decide +kernel
theorem dX1_bothGain_90 : decode cX1_bothGain 90 = .ok (.ireturn, 1) := by decide +kernel
set_option maxRecDepth 20000 in
theorem ggX1_putBoth_X1_putOnHill : GoodIn wsX1_putBoth wsX1_putOnHill := goodIn_r _ [5, 6, 7, 8, 9, 10, 11, 12, 13, 14, 15, 4, 16, 17, 18, 19, 53, 54, 55, 56, 57, 58, 59, 60, 61, 62, 63, 64, 65, 66, 67, 68, 69, 70, 71, 72, 73, 74, 75] rfl (by decide +kernel)
set_option maxRecDepth 20000 in
theorem gX1_putBoth_X1_putOnHill : GoodIn wsX1_putBoth (wsV RX1 51 RX1 yX1_putOnHill wsX1_putOnHill) := goodIn_app (goodIn_of _ (by decide +kernel)) ggX1_putBoth_X1_putOnHill
set_option maxRecDepth 20000 in
theorem ggX1_putBoth_X1_listenAgain : GoodIn wsX1_putBoth wsX1_listenAgain := goodIn_r _ [23, 6, 24, 25, 26, 27, 4, 28, 19, 17, 18, 29, 30, 31, 10, 32, 33, 34, 35, 36, 37, 38, 39, 40, 41, 42, 43, 44, 45, 46, 47, 48, 49, 50, 51, 52, 53, 54, 55, 56, 57, 58, 59, 60, 61, 62, 63, 64, 65, 66, 67, 68, 69, 70, 71, 72, 73, 74, 75] rfl (by decide +kernel)
set_option maxRecDepth 20000 in
theorem gX1_putBoth_X1_listenAgain : GoodIn wsX1_putBoth (wsV RX1 139 RX1 yX1_listenAgain wsX1_listenAgain) := goodIn_app (goodIn_of _ (by decide +kernel)) ggX1_putBoth_X1_listenAgain
theorem dX1_putBoth_0 : decode cX1_putBoth 0 = .ok (.aload_n 0, 1) := by decide +kernel
theorem dX1_putBoth_1 : decode cX1_putBoth 1 = .ok (.iload_n 1, 1) := by decide +kernel
theorem dX1_putBoth_2 : decode cX1_putBoth 2 = .ok (.iload_n 2, 1) := by decide +kernel
theorem dX1_putBoth_3 : decode cX1_putBoth 3 = .ok (.invokevirtual 51, 3) := by decide +kernel
theorem dX1_putBoth_6 : decode cX1_putBoth 6 = .ok (.aload_n 0, 1) := by decide +kernel
theorem dX1_putBoth_7 : decode cX1_putBoth 7 = .ok (.iload_n 3, 1) := by decide +kernel
theorem dX1_putBoth_8 : decode cX1_putBoth 8 = .ok (.iload 4, 2) := by decide +kernel
theorem dX1_putBoth_10 : decode cX1_putBoth 10 = .ok (.invokevirtual 51, 3) := by decide +kernel
theorem dX1_putBoth_13 : decode cX1_putBoth 13 = .ok (.aload_n 0, 1) := by decide +kernel
theorem dX1_putBoth_14 : decode cX1_putBoth 14 = .ok (.iload_n 1, 1) := by decide +kernel
theorem dX1_putBoth_15 : decode cX1_putBoth 15 = .ok (.invokevirtual 139, 3) := by decide +kernel
theorem dX1_putBoth_18 : decode cX1_putBoth 18 = .ok (.aload_n 0, 1) := by decide +kernel
theorem dX1_putBoth_19 : decode cX1_putBoth 19 = .ok (.iload_n 3, 1) := by decide +kernel
theorem dX1_putBoth_20 : decode cX1_putBoth 20 = .ok (.invokevirtual 139, 3) := by decide +kernel
theorem dX1_putBoth_23 : decode cX1_putBoth 23 = .ok (.return_, 1) := by decide +kernel
set_option maxRecDepth 20000 in
theorem ggX3_init_X2_init : GoodIn wsX3_init wsX2_init := goodIn_r _ [10, 11, 2, 3, 12, 13, 14, 15, 16, 17, 21, 22, 23, 24, 25, 26, 27] rfl (by decide +kernel)
set_option maxRecDepth 20000 in
theorem gX3_init_X2_init : GoodIn wsX3_init (wsX2_init) := ggX3_init_X2_init
theorem dX3_init_0 : decode cX3_init 0 = .ok (.aload_n 0, 1) := by decide +kernel
theorem dX3_init_1 : decode cX3_init 1 = .ok (.invokespecial 3, 3) := by decide +kernel
theorem dX3_init_4 : decode cX3_init 4 = .ok (.aload_n 0, 1) := by decide +kernel
theorem dX3_init_5 : decode cX3_init 5 = .ok (.bipush 8, 2) := by decide +kernel
theorem dX3_init_7 : decode cX3_init 7 = .ok (.anewarray 9, 3) := by decide +kernel
theorem dX3_init_10 : decode cX3_init 10 = .ok (.putfield 11, 3) := by decide +kernel
theorem dX3_init_13 : decode cX3_init 13 = .ok (.iconst 0, 1) := by decide +kernel
theorem dX3_init_14 : decode cX3_init 14 = .ok (.istore_n 1, 1) := by decide +kernel
theorem dX3_init_15 : decode cX3_init 15 = .ok (.iload_n 1, 1) := by decide +kernel
theorem dX3_init_16 : decode cX3_init 16 = .ok (.bipush 8, 2) := by decide +kernel
theorem dX3_init_18 : decode cX3_init 18 = .ok (.if_icmp .ge 22, 3) := by decide +kernel
theorem dX3_init_21 : decode cX3_init 21 = .ok (.aload_n 0, 1) := by decide +kernel
theorem dX3_init_22 : decode cX3_init 22 = .ok (.getfield 11, 3) := by decide +kernel
theorem dX3_init_25 : decode cX3_init 25 = .ok (.iload_n 1, 1) := by decide +kernel
theorem dX3_init_26 : decode cX3_init 26 = .ok (.new 9, 3) := by decide +kernel
theorem dX3_init_29 : decode cX3_init 29 = .ok (.dup, 1) := by decide +kernel
theorem dX3_init_30 : decode cX3_init 30 = .ok (.invokespecial 17, 3) := by decide +kernel
theorem dX3_init_33 : decode cX3_init 33 = .ok (.aastore, 1) := by decide +kernel
theorem dX3_init_34 : decode cX3_init 34 = .ok (.iinc 1 1, 3) := by decide +kernel
theorem dX3_init_37 : decode cX3_init 37 = .ok (.goto (-22), 3) := by decide +kernel
theorem dX3_init_40 : decode cX3_init 40 = .ok (.return_, 1) := by decide +kernel
theorem dX3_clear_0 : decode cX3_clear 0 = .ok (.aload_n 0, 1) := by decide +kernel
theorem dX3_clear_1 : decode cX3_clear 1 = .ok (.iconst 0, 1) := by decide +kernel
theorem dX3_clear_2 : decode cX3_clear 2 = .ok (.putfield 18, 3) := by decide +kernel
theorem dX3_clear_5 : decode cX3_clear 5 = .ok (.return_, 1) := by decide +kernel
set_option maxRecDepth 20000 in
theorem ggX3_push_X2_copyFrom : GoodIn wsX3_push wsX2_copyFrom := goodIn_r _ [8, 9, 10, 11, 12, 13, 14, 15, 16, 17, 18, 19, 23, 24, 25, 26, 27, 28, 29] rfl (by decide +kernel)
set_option maxRecDepth 20000 in
theorem gX3_push_X2_copyFrom : GoodIn wsX3_push (wsV RX3 25 RX2 yX2_copyFrom wsX2_copyFrom) := goodIn_app (goodIn_of _ (by decide +kernel)) ggX3_push_X2_copyFrom
theorem dX3_push_0 : decode cX3_push 0 = .ok (.aload_n 0, 1) := by decide +kernel
theorem dX3_push_1 : decode cX3_push 1 = .ok (.getfield 11, 3) := by decide +kernel
theorem dX3_push_4 : decode cX3_push 4 = .ok (.aload_n 0, 1) := by decide +kernel
theorem dX3_push_5 : decode cX3_push 5 = .ok (.getfield 22, 3) := by decide +kernel
theorem dX3_push_8 : decode cX3_push 8 = .ok (.aload_n 0, 1) := by decide +kernel
theorem dX3_push_9 : decode cX3_push 9 = .ok (.getfield 18, 3) := by decide +kernel
theorem dX3_push_12 : decode cX3_push 12 = .ok (.iadd, 1) := by decide +kernel
theorem dX3_push_13 : decode cX3_push 13 = .ok (.bipush 8, 2) := by decide +kernel
theorem dX3_push_15 : decode cX3_push 15 = .ok (.irem, 1) := by decide +kernel
theorem dX3_push_16 : decode cX3_push 16 = .ok (.aaload, 1) := by decide +kernel
theorem dX3_push_17 : decode cX3_push 17 = .ok (.aload_n 1, 1) := by decide +kernel
theorem dX3_push_18 : decode cX3_push 18 = .ok (.invokevirtual 25, 3) := by decide +kernel
theorem dX3_push_21 : decode cX3_push 21 = .ok (.aload_n 0, 1) := by decide +kernel
theorem dX3_push_22 : decode cX3_push 22 = .ok (.getfield 18, 3) := by decide +kernel
theorem dX3_push_25 : decode cX3_push 25 = .ok (.bipush 8, 2) := by decide +kernel
theorem dX3_push_27 : decode cX3_push 27 = .ok (.if_icmp .ge 16, 3) := by decide +kernel
theorem dX3_push_30 : decode cX3_push 30 = .ok (.aload_n 0, 1) := by decide +kernel
theorem dX3_push_31 : decode cX3_push 31 = .ok (.dup, 1) := by decide +kernel
theorem dX3_push_32 : decode cX3_push 32 = .ok (.getfield 18, 3) := by decide +kernel
theorem dX3_push_35 : decode cX3_push 35 = .ok (.iconst 1, 1) := by decide +kernel
theorem dX3_push_36 : decode cX3_push 36 = .ok (.iadd, 1) := by decide +kernel
theorem dX3_push_37 : decode cX3_push 37 = .ok (.putfield 18, 3) := by decide +kernel
theorem dX3_push_40 : decode cX3_push 40 = .ok (.goto 16, 3) := by decide +kernel
theorem dX3_push_43 : decode cX3_push 43 = .ok (.aload_n 0, 1) := by decide +kernel
theorem dX3_push_44 : decode cX3_push 44 = .ok (.aload_n 0, 1) := by decide +kernel
theorem dX3_push_45 : decode cX3_push 45 = .ok (.getfield 22, 3) := by decide +kernel
theorem dX3_push_48 : decode cX3_push 48 = .ok (.iconst 1, 1) := by decide +kernel
theorem dX3_push_49 : decode cX3_push 49 = .ok (.iadd, 1) := by decide +kernel
theorem dX3_push_50 : decode cX3_push 50 = .ok (.bipush 8, 2) := by decide +kernel
theorem dX3_push_52 : decode cX3_push 52 = .ok (.irem, 1) := by decide +kernel
theorem dX3_push_53 : decode cX3_push 53 = .ok (.putfield 22, 3) := by decide +kernel
theorem dX3_push_56 : decode cX3_push 56 = .ok (.return_, 1) := by decide +kernel
set_option maxRecDepth 20000 in
theorem ggX3_pop_X2_copyFrom : GoodIn wsX3_pop wsX2_copyFrom := goodIn_r _ [8, 9, 10, 11, 12, 13, 14, 15, 16, 17, 18, 19, 23, 24, 25, 26, 27, 28, 29] rfl (by decide +kernel)
set_option maxRecDepth 20000 in
theorem gX3_pop_X2_copyFrom : GoodIn wsX3_pop (wsV RX3 25 RX2 yX2_copyFrom wsX2_copyFrom) := goodIn_app (goodIn_of _ (by decide +kernel)) ggX3_pop_X2_copyFrom
theorem dX3_pop_0 : decode cX3_pop 0 = .ok (.aload_n 0, 1) := by decide +kernel
theorem dX3_pop_1 : decode cX3_pop 1 = .ok (.getfield 18, 3) := by decide +kernel
theorem dX3_pop_4 : decode cX3_pop 4 = .ok (.ifCond .ne 5, 3) := by decide +kernel
theorem dX3_pop_7 : decode cX3_pop 7 = .ok (.iconst (-1), 1) := by decide +kernel
theorem dX3_pop_8 : decode cX3_pop 8 = .ok (.ireturn, 1) := by decide +kernel
theorem dX3_pop_9 : decode cX3_pop 9 = .ok (.aload_n 0, 1) := by decide +kernel
theorem dX3_pop_10 : decode cX3_pop 10 = .ok (.dup, 1) := by decide +kernel
theorem dX3_pop_11 : decode cX3_pop 11 = .ok (.getfield 18, 3) := by decide +kernel
theorem dX3_pop_14 : decode cX3_pop 14 = .ok (.iconst 1, 1) := by decide +kernel
theorem dX3_pop_15 : decode cX3_pop 15 = .ok (.isub, 1) := by decide +kernel
theorem dX3_pop_16 : decode cX3_pop 16 = .ok (.putfield 18, 3) := by decide +kernel
theorem dX3_pop_19 : decode cX3_pop 19 = .ok (.aload_n 1, 1) := by decide +kernel
theorem dX3_pop_20 : decode cX3_pop 20 = .ok (.aload_n 0, 1) := by decide +kernel
theorem dX3_pop_21 : decode cX3_pop 21 = .ok (.getfield 11, 3) := by decide +kernel
theorem dX3_pop_24 : decode cX3_pop 24 = .ok (.aload_n 0, 1) := by decide +kernel
theorem dX3_pop_25 : decode cX3_pop 25 = .ok (.getfield 22, 3) := by decide +kernel
theorem dX3_pop_28 : decode cX3_pop 28 = .ok (.aload_n 0, 1) := by decide +kernel
theorem dX3_pop_29 : decode cX3_pop 29 = .ok (.getfield 18, 3) := by decide +kernel
theorem dX3_pop_32 : decode cX3_pop 32 = .ok (.iadd, 1) := by decide +kernel
theorem dX3_pop_33 : decode cX3_pop 33 = .ok (.bipush 8, 2) := by decide +kernel
theorem dX3_pop_35 : decode cX3_pop 35 = .ok (.irem, 1) := by decide +kernel
theorem dX3_pop_36 : decode cX3_pop 36 = .ok (.aaload, 1) := by decide +kernel
theorem dX3_pop_37 : decode cX3_pop 37 = .ok (.invokevirtual 25, 3) := by decide +kernel
theorem dX3_pop_40 : decode cX3_pop 40 = .ok (.aload_n 0, 1) := by decide +kernel
theorem dX3_pop_41 : decode cX3_pop 41 = .ok (.getfield 18, 3) := by decide +kernel
theorem dX3_pop_44 : decode cX3_pop 44 = .ok (.ireturn, 1) := by decide +kernel
theorem dX8_init_0 : decode cX8_init 0 = .ok (.aload_n 0, 1) := by decide +kernel
theorem dX8_init_1 : decode cX8_init 1 = .ok (.invokespecial 3, 3) := by decide +kernel
theorem dX8_init_4 : decode cX8_init 4 = .ok (.aload_n 0, 1) := by decide +kernel
theorem dX8_init_5 : decode cX8_init 5 = .ok (.sipush 940, 3) := by decide +kernel
theorem dX8_init_8 : decode cX8_init 8 = .ok (.newarray .byte, 2) := by decide +kernel
theorem dX8_init_10 : decode cX8_init 10 = .ok (.putfield 9, 3) := by decide +kernel
theorem dX8_init_13 : decode cX8_init 13 = .ok (.aload_n 0, 1) := by decide +kernel
theorem dX8_init_14 : decode cX8_init 14 = .ok (.sipush 941, 3) := by decide +kernel
theorem dX8_init_17 : decode cX8_init 17 = .ok (.newarray .int, 2) := by decide +kernel
theorem dX8_init_19 : decode cX8_init 19 = .ok (.putfield 15, 3) := by decide +kernel
theorem dX8_init_22 : decode cX8_init 22 = .ok (.aload_n 0, 1) := by decide +kernel
theorem dX8_init_23 : decode cX8_init 23 = .ok (.sipush 941, 3) := by decide +kernel
theorem dX8_init_26 : decode cX8_init 26 = .ok (.newarray .int, 2) := by decide +kernel
theorem dX8_init_28 : decode cX8_init 28 = .ok (.putfield 19, 3) := by decide +kernel
theorem dX8_init_31 : decode cX8_init 31 = .ok (.aload_n 0, 1) := by decide +kernel
theorem dX8_init_32 : decode cX8_init 32 = .ok (.sipush 941, 3) := by decide +kernel
theorem dX8_init_35 : decode cX8_init 35 = .ok (.newarray .int, 2) := by decide +kernel
theorem dX8_init_37 : decode cX8_init 37 = .ok (.putfield 22, 3) := by decide +kernel
theorem dX8_init_40 : decode cX8_init 40 = .ok (.aload_n 0, 1) := by decide +kernel
theorem dX8_init_41 : decode cX8_init 41 = .ok (.sipush 941, 3) := by decide +kernel
theorem dX8_init_44 : decode cX8_init 44 = .ok (.newarray .long, 2) := by decide +kernel
theorem dX8_init_46 : decode cX8_init 46 = .ok (.putfield 25, 3) := by decide +kernel
theorem dX8_init_49 : decode cX8_init 49 = .ok (.return_, 1) := by decide +kernel
theorem dX8_append_0 : decode cX8_append 0 = .ok (.bipush 24, 2) := by decide +kernel
theorem dX8_append_2 : decode cX8_append 2 = .ok (.istore_n 2, 1) := by decide +kernel
theorem dX8_append_3 : decode cX8_append 3 = .ok (.iload_n 2, 1) := by decide +kernel
theorem dX8_append_4 : decode cX8_append 4 = .ok (.ifCond .lt 42, 3) := by decide +kernel
theorem dX8_append_7 : decode cX8_append 7 = .ok (.aload_n 0, 1) := by decide +kernel
theorem dX8_append_8 : decode cX8_append 8 = .ok (.getfield 29, 3) := by decide +kernel
theorem dX8_append_11 : decode cX8_append 11 = .ok (.sipush 940, 3) := by decide +kernel
theorem dX8_append_14 : decode cX8_append 14 = .ok (.if_icmp .ge 26, 3) := by decide +kernel
theorem dX8_append_17 : decode cX8_append 17 = .ok (.aload_n 0, 1) := by decide +kernel
theorem dX8_append_18 : decode cX8_append 18 = .ok (.getfield 9, 3) := by decide +kernel
theorem dX8_append_21 : decode cX8_append 21 = .ok (.aload_n 0, 1) := by decide +kernel
theorem dX8_append_22 : decode cX8_append 22 = .ok (.getfield 29, 3) := by decide +kernel
theorem dX8_append_25 : decode cX8_append 25 = .ok (.iload_n 1, 1) := by decide +kernel
theorem dX8_append_26 : decode cX8_append 26 = .ok (.iload_n 2, 1) := by decide +kernel
theorem dX8_append_27 : decode cX8_append 27 = .ok (.ishr, 1) := by decide +kernel
theorem dX8_append_28 : decode cX8_append 28 = .ok (.i2b, 1) := by decide +kernel
theorem dX8_append_29 : decode cX8_append 29 = .ok (.bastore, 1) := by decide +kernel
theorem dX8_append_30 : decode cX8_append 30 = .ok (.aload_n 0, 1) := by decide +kernel
theorem dX8_append_31 : decode cX8_append 31 = .ok (.dup, 1) := by decide +kernel
theorem dX8_append_32 : decode cX8_append 32 = .ok (.getfield 29, 3) := by decide +kernel
theorem dX8_append_35 : decode cX8_append 35 = .ok (.iconst 1, 1) := by decide +kernel
theorem dX8_append_36 : decode cX8_append 36 = .ok (.iadd, 1) := by decide +kernel
theorem dX8_append_37 : decode cX8_append 37 = .ok (.putfield 29, 3) := by decide +kernel
theorem dX8_append_40 : decode cX8_append 40 = .ok (.iinc 2 (-8), 3) := by decide +kernel
theorem dX8_append_43 : decode cX8_append 43 = .ok (.goto (-40), 3) := by decide +kernel
theorem dX8_append_46 : decode cX8_append 46 = .ok (.return_, 1) := by decide +kernel
theorem dX8_byteAt_0 : decode cX8_byteAt 0 = .ok (.iload_n 1, 1) := by decide +kernel
theorem dX8_byteAt_1 : decode cX8_byteAt 1 = .ok (.ifCond .lt 23, 3) := by decide +kernel
theorem dX8_byteAt_4 : decode cX8_byteAt 4 = .ok (.iload_n 1, 1) := by decide +kernel
theorem dX8_byteAt_5 : decode cX8_byteAt 5 = .ok (.sipush 940, 3) := by decide +kernel
theorem dX8_byteAt_8 : decode cX8_byteAt 8 = .ok (.if_icmp .ge 16, 3) := by decide +kernel
theorem dX8_byteAt_11 : decode cX8_byteAt 11 = .ok (.aload_n 0, 1) := by decide +kernel
theorem dX8_byteAt_12 : decode cX8_byteAt 12 = .ok (.getfield 9, 3) := by decide +kernel
theorem dX8_byteAt_15 : decode cX8_byteAt 15 = .ok (.iload_n 1, 1) := by decide +kernel
theorem dX8_byteAt_16 : decode cX8_byteAt 16 = .ok (.baload, 1) := by decide +kernel
theorem dX8_byteAt_17 : decode cX8_byteAt 17 = .ok (.sipush 255, 3) := by decide +kernel
theorem dX8_byteAt_20 : decode cX8_byteAt 20 = .ok (.iand, 1) := by decide +kernel
theorem dX8_byteAt_21 : decode cX8_byteAt 21 = .ok (.goto 4, 3) := by decide +kernel
theorem dX8_byteAt_24 : decode cX8_byteAt 24 = .ok (.iconst 0, 1) := by decide +kernel
theorem dX8_byteAt_25 : decode cX8_byteAt 25 = .ok (.ireturn, 1) := by decide +kernel
set_option maxRecDepth 20000 in
theorem ggX8_scan_X8_byteAt : GoodIn wsX8_scan wsX8_byteAt := goodIn_r _ [14, 15, 111, 112, 113, 114, 115, 116, 117, 118, 119, 120, 121, 122, 123, 124, 125] rfl (by decide +kernel)
set_option maxRecDepth 20000 in
theorem gX8_scan_X8_byteAt : GoodIn wsX8_scan (wsV RX8 42 RX8 yX8_byteAt wsX8_byteAt) := goodIn_app (goodIn_of _ (by decide +kernel)) ggX8_scan_X8_byteAt
set_option maxRecDepth 20000 in
theorem ggX8_scan_X8_isInRun : GoodIn wsX8_scan wsX8_isInRun := goodIn_r _ [18, 19, 20, 13, 21] rfl (by decide +kernel)
set_option maxRecDepth 20000 in
theorem gX8_scan_X8_isInRun : GoodIn wsX8_scan (va_wsS RX8 46 yX8_isInRun wsX8_isInRun) := goodIn_app (goodIn_of _ (by decide +kernel)) ggX8_scan_X8_isInRun
set_option maxRecDepth 20000 in
theorem ggX8_scan_X8_scanRun : GoodIn wsX8_scan wsX8_scanRun := goodIn_r _ [25, 4, 26, 27, 10, 11, 12, 13, 14, 15, 16, 17, 18, 19, 20, 21, 28, 29, 30, 31, 32, 33, 34, 35, 36, 37, 38, 39, 40, 41, 42, 43, 44, 45, 46, 47, 48, 49, 50, 51, 52, 53, 54, 55, 56, 57, 58, 59, 60, 61, 62, 63, 64, 65, 66, 67, 68, 69, 70, 71, 72, 73, 74, 75, 76, 77, 78, 79, 80, 81, 82, 83, 84, 85, 86, 87, 88, 89, 90, 91, 92, 3, 93, 94, 95, 96, 111, 112, 113, 114, 115, 116, 117, 118, 119, 120, 121, 122, 123, 124, 125] rfl (by decide +kernel)
set_option maxRecDepth 20000 in
theorem gX8_scan_X8_scanRun : GoodIn wsX8_scan (wsV RX8 50 RX8 yX8_scanRun wsX8_scanRun) := goodIn_app (goodIn_of _ (by decide +kernel)) ggX8_scan_X8_scanRun
set_option maxRecDepth 20000 in
theorem ggX8_scan_X8_isBlank : GoodIn wsX8_scan wsX8_isBlank := goodIn_r _ [99] rfl (by decide +kernel)
set_option maxRecDepth 20000 in
theorem gX8_scan_X8_isBlank : GoodIn wsX8_scan (va_wsS RX8 53 yX8_isBlank wsX8_isBlank) := goodIn_app (goodIn_of _ (by decide +kernel)) ggX8_scan_X8_isBlank
set_option maxRecDepth 20000 in
theorem ggX8_scan_X8_signToken : GoodIn wsX8_scan wsX8_signToken := goodIn_r _ [102] rfl (by decide +kernel)
set_option maxRecDepth 20000 in
theorem gX8_scan_X8_signToken : GoodIn wsX8_scan (va_wsS RX8 56 yX8_signToken wsX8_signToken) := goodIn_app (goodIn_of _ (by decide +kernel)) ggX8_scan_X8_signToken
set_option maxRecDepth 20000 in
theorem ggX8_scan_X8_note : GoodIn wsX8_scan wsX8_note := goodIn_r _ [92, 3, 93, 94, 95, 96, 111, 112, 113, 114, 115, 116, 117, 118, 119, 120, 121, 122, 123, 124, 125] rfl (by decide +kernel)
set_option maxRecDepth 20000 in
theorem gX8_scan_X8_note : GoodIn wsX8_scan (wsV RX8 59 RX8 yX8_note wsX8_note) := goodIn_app (goodIn_of _ (by decide +kernel)) ggX8_scan_X8_note
set_option maxRecDepth 20000 in
theorem ggX8_scan_X8_next : GoodIn wsX8_scan wsX8_next := goodIn_r _ [106, 9, 3, 93, 107, 94, 108, 95, 109, 96, 110, 111, 112, 113, 114, 115, 116, 117, 118, 119, 120, 121, 122, 123, 124, 125] rfl (by decide +kernel)
set_option maxRecDepth 20000 in
theorem gX8_scan_X8_next : GoodIn wsX8_scan (wsV RX8 72 RX8 yX8_next wsX8_next) := goodIn_app (goodIn_of _ (by decide +kernel)) ggX8_scan_X8_next
theorem dX8_scan_0 : decode cX8_scan 0 = .ok (.aload_n 0, 1) := by decide +kernel
theorem dX8_scan_1 : decode cX8_scan 1 = .ok (.iconst 0, 1) := by decide +kernel
theorem dX8_scan_2 : decode cX8_scan 2 = .ok (.putfield 33, 3) := by decide +kernel
theorem dX8_scan_5 : decode cX8_scan 5 = .ok (.aload_n 0, 1) := by decide +kernel
theorem dX8_scan_6 : decode cX8_scan 6 = .ok (.iconst 0, 1) := by decide +kernel
theorem dX8_scan_7 : decode cX8_scan 7 = .ok (.putfield 36, 3) := by decide +kernel
theorem dX8_scan_10 : decode cX8_scan 10 = .ok (.aload_n 0, 1) := by decide +kernel
theorem dX8_scan_11 : decode cX8_scan 11 = .ok (.iconst 0, 1) := by decide +kernel
theorem dX8_scan_12 : decode cX8_scan 12 = .ok (.putfield 39, 3) := by decide +kernel
theorem dX8_scan_15 : decode cX8_scan 15 = .ok (.iconst 0, 1) := by decide +kernel
theorem dX8_scan_16 : decode cX8_scan 16 = .ok (.istore_n 2, 1) := by decide +kernel
theorem dX8_scan_17 : decode cX8_scan 17 = .ok (.iconst 0, 1) := by decide +kernel
theorem dX8_scan_18 : decode cX8_scan 18 = .ok (.istore_n 3, 1) := by decide +kernel
theorem dX8_scan_19 : decode cX8_scan 19 = .ok (.iload_n 3, 1) := by decide +kernel
theorem dX8_scan_20 : decode cX8_scan 20 = .ok (.sipush 940, 3) := by decide +kernel
theorem dX8_scan_23 : decode cX8_scan 23 = .ok (.if_icmp .ge 69, 3) := by decide +kernel
theorem dX8_scan_26 : decode cX8_scan 26 = .ok (.iload_n 2, 1) := by decide +kernel
theorem dX8_scan_27 : decode cX8_scan 27 = .ok (.aload_n 0, 1) := by decide +kernel
theorem dX8_scan_28 : decode cX8_scan 28 = .ok (.getfield 29, 3) := by decide +kernel
theorem dX8_scan_31 : decode cX8_scan 31 = .ok (.if_icmp .ge 61, 3) := by decide +kernel
theorem dX8_scan_34 : decode cX8_scan 34 = .ok (.iload_n 2, 1) := by decide +kernel
theorem dX8_scan_35 : decode cX8_scan 35 = .ok (.iload_n 1, 1) := by decide +kernel
theorem dX8_scan_36 : decode cX8_scan 36 = .ok (.if_icmp .ge 56, 3) := by decide +kernel
theorem dX8_scan_39 : decode cX8_scan 39 = .ok (.aload_n 0, 1) := by decide +kernel
theorem dX8_scan_40 : decode cX8_scan 40 = .ok (.iload_n 2, 1) := by decide +kernel
theorem dX8_scan_41 : decode cX8_scan 41 = .ok (.invokevirtual 42, 3) := by decide +kernel
theorem dX8_scan_44 : decode cX8_scan 44 = .ok (.istore 4, 2) := by decide +kernel
theorem dX8_scan_46 : decode cX8_scan 46 = .ok (.iload 4, 2) := by decide +kernel
theorem dX8_scan_48 : decode cX8_scan 48 = .ok (.invokestatic 46, 3) := by decide +kernel
theorem dX8_scan_51 : decode cX8_scan 51 = .ok (.ifCond .eq 12, 3) := by decide +kernel
theorem dX8_scan_54 : decode cX8_scan 54 = .ok (.aload_n 0, 1) := by decide +kernel
theorem dX8_scan_55 : decode cX8_scan 55 = .ok (.iload_n 2, 1) := by decide +kernel
theorem dX8_scan_56 : decode cX8_scan 56 = .ok (.invokevirtual 50, 3) := by decide +kernel
theorem dX8_scan_59 : decode cX8_scan 59 = .ok (.istore_n 2, 1) := by decide +kernel
theorem dX8_scan_60 : decode cX8_scan 60 = .ok (.goto 26, 3) := by decide +kernel
theorem dX8_scan_63 : decode cX8_scan 63 = .ok (.iload 4, 2) := by decide +kernel
theorem dX8_scan_65 : decode cX8_scan 65 = .ok (.invokestatic 53, 3) := by decide +kernel
theorem dX8_scan_68 : decode cX8_scan 68 = .ok (.ifCond .ne 15, 3) := by decide +kernel
theorem dX8_scan_71 : decode cX8_scan 71 = .ok (.aload_n 0, 1) := by decide +kernel
theorem dX8_scan_72 : decode cX8_scan 72 = .ok (.iload 4, 2) := by decide +kernel
theorem dX8_scan_74 : decode cX8_scan 74 = .ok (.invokestatic 56, 3) := by decide +kernel
theorem dX8_scan_77 : decode cX8_scan 77 = .ok (.iload_n 2, 1) := by decide +kernel
theorem dX8_scan_78 : decode cX8_scan 78 = .ok (.iconst 0, 1) := by decide +kernel
theorem dX8_scan_79 : decode cX8_scan 79 = .ok (.lconst 0, 1) := by decide +kernel
theorem dX8_scan_80 : decode cX8_scan 80 = .ok (.invokevirtual 59, 3) := by decide +kernel
theorem dX8_scan_83 : decode cX8_scan 83 = .ok (.iinc 2 1, 3) := by decide +kernel
theorem dX8_scan_86 : decode cX8_scan 86 = .ok (.iinc 3 1, 3) := by decide +kernel
theorem dX8_scan_89 : decode cX8_scan 89 = .ok (.goto (-70), 3) := by decide +kernel
theorem dX8_scan_92 : decode cX8_scan 92 = .ok (.aload_n 0, 1) := by decide +kernel
theorem dX8_scan_93 : decode cX8_scan 93 = .ok (.aload_n 0, 1) := by decide +kernel
theorem dX8_scan_94 : decode cX8_scan 94 = .ok (.getfield 29, 3) := by decide +kernel
theorem dX8_scan_97 : decode cX8_scan 97 = .ok (.iload_n 1, 1) := by decide +kernel
theorem dX8_scan_98 : decode cX8_scan 98 = .ok (.if_icmp .le 8, 3) := by decide +kernel
theorem dX8_scan_101 : decode cX8_scan 101 = .ok (.bipush 49, 2) := by decide +kernel
theorem dX8_scan_103 : decode cX8_scan 103 = .ok (.goto 5, 3) := by decide +kernel
theorem dX8_scan_106 : decode cX8_scan 106 = .ok (.bipush 48, 2) := by decide +kernel
theorem dX8_scan_108 : decode cX8_scan 108 = .ok (.aload_n 0, 1) := by decide +kernel
theorem dX8_scan_109 : decode cX8_scan 109 = .ok (.getfield 29, 3) := by decide +kernel
theorem dX8_scan_112 : decode cX8_scan 112 = .ok (.iload_n 1, 1) := by decide +kernel
theorem dX8_scan_113 : decode cX8_scan 113 = .ok (.invokestatic 63, 3) := by decide +kernel
theorem dX8_scan_116 : decode cX8_scan 116 = .ok (.iconst 0, 1) := by decide +kernel
theorem dX8_scan_117 : decode cX8_scan 117 = .ok (.lconst 0, 1) := by decide +kernel
theorem dX8_scan_118 : decode cX8_scan 118 = .ok (.invokevirtual 59, 3) := by decide +kernel
theorem dX8_scan_121 : decode cX8_scan 121 = .ok (.aload_n 0, 1) := by decide +kernel
theorem dX8_scan_122 : decode cX8_scan 122 = .ok (.iconst 0, 1) := by decide +kernel
theorem dX8_scan_123 : decode cX8_scan 123 = .ok (.putfield 69, 3) := by decide +kernel
theorem dX8_scan_126 : decode cX8_scan 126 = .ok (.aload_n 0, 1) := by decide +kernel
theorem dX8_scan_127 : decode cX8_scan 127 = .ok (.invokevirtual 72, 3) := by decide +kernel
theorem dX8_scan_130 : decode cX8_scan 130 = .ok (.return_, 1) := by decide +kernel
set_option maxRecDepth 20000 in
theorem ggX8_scanRun_X8_byteAt : GoodIn wsX8_scanRun wsX8_byteAt := goodIn_r _ [8, 9, 86, 87, 88, 89, 90, 91, 92, 93, 94, 95, 96, 97, 98, 99, 100] rfl (by decide +kernel)
set_option maxRecDepth 20000 in
theorem gX8_scanRun_X8_byteAt : GoodIn wsX8_scanRun (wsV RX8 42 RX8 yX8_byteAt wsX8_byteAt) := goodIn_app (goodIn_of _ (by decide +kernel)) ggX8_scanRun_X8_byteAt
set_option maxRecDepth 20000 in
theorem ggX8_scanRun_X8_isInRun : GoodIn wsX8_scanRun wsX8_isInRun := goodIn_r _ [12, 13, 14, 7, 15] rfl (by decide +kernel)
set_option maxRecDepth 20000 in
theorem gX8_scanRun_X8_isInRun : GoodIn wsX8_scanRun (va_wsS RX8 46 yX8_isInRun wsX8_isInRun) := goodIn_app (goodIn_of _ (by decide +kernel)) ggX8_scanRun_X8_isInRun
set_option maxRecDepth 20000 in
theorem ggX8_scanRun_X8_isDigit : GoodIn wsX8_scanRun wsX8_isDigit := goodIn_r _ [15] rfl (by decide +kernel)
set_option maxRecDepth 20000 in
theorem gX8_scanRun_X8_isDigit : GoodIn wsX8_scanRun (va_wsS RX8 75 yX8_isDigit wsX8_isDigit) := goodIn_app (goodIn_of _ (by decide +kernel)) ggX8_scanRun_X8_isDigit
set_option maxRecDepth 20000 in
theorem ggX8_scanRun_X8_wordToken : GoodIn wsX8_scanRun wsX8_wordToken := goodIn_r _ [19, 20, 21, 22, 7, 23, 24, 25, 26, 27, 28, 29, 30, 31, 32, 33, 34, 35, 36, 37, 38, 39, 4, 5, 6, 8, 9, 40, 41, 42, 43, 44, 45, 46, 47, 48, 49, 50, 51, 52, 53, 54, 55, 56, 57, 58, 59, 60, 61, 62, 63, 64, 65, 66, 67, 68, 69, 70, 71, 72, 73, 74, 75, 76, 86, 87, 88, 89, 90, 91, 92, 93, 94, 95, 96, 97, 98, 99, 100] rfl (by decide +kernel)
set_option maxRecDepth 20000 in
theorem gX8_scanRun_X8_wordToken : GoodIn wsX8_scanRun (wsV RX8 82 RX8 yX8_wordToken wsX8_wordToken) := goodIn_app (goodIn_of _ (by decide +kernel)) ggX8_scanRun_X8_wordToken
set_option maxRecDepth 20000 in
theorem ggX8_scanRun_X8_note : GoodIn wsX8_scanRun wsX8_note := goodIn_r _ [80, 81, 82, 83, 84, 85, 86, 87, 88, 89, 90, 91, 92, 93, 94, 95, 96, 97, 98, 99, 100] rfl (by decide +kernel)
set_option maxRecDepth 20000 in
theorem gX8_scanRun_X8_note : GoodIn wsX8_scanRun (wsV RX8 59 RX8 yX8_note wsX8_note) := goodIn_app (goodIn_of _ (by decide +kernel)) ggX8_scanRun_X8_note
theorem dX8_scanRun_0 : decode cX8_scanRun 0 = .ok (.iconst 0, 1) := by decide +kernel
theorem dX8_scanRun_1 : decode cX8_scanRun 1 = .ok (.istore_n 2, 1) := by decide +kernel
theorem dX8_scanRun_2 : decode cX8_scanRun 2 = .ok (.iconst 0, 1) := by decide +kernel
theorem dX8_scanRun_3 : decode cX8_scanRun 3 = .ok (.istore_n 3, 1) := by decide +kernel
theorem dX8_scanRun_4 : decode cX8_scanRun 4 = .ok (.iconst 0, 1) := by decide +kernel
theorem dX8_scanRun_5 : decode cX8_scanRun 5 = .ok (.istore 4, 2) := by decide +kernel
theorem dX8_scanRun_7 : decode cX8_scanRun 7 = .ok (.lconst 0, 1) := by decide +kernel
theorem dX8_scanRun_8 : decode cX8_scanRun 8 = .ok (.lstore 5, 2) := by decide +kernel
theorem dX8_scanRun_10 : decode cX8_scanRun 10 = .ok (.iload_n 1, 1) := by decide +kernel
theorem dX8_scanRun_11 : decode cX8_scanRun 11 = .ok (.istore 7, 2) := by decide +kernel
theorem dX8_scanRun_13 : decode cX8_scanRun 13 = .ok (.iload 7, 2) := by decide +kernel
theorem dX8_scanRun_15 : decode cX8_scanRun 15 = .ok (.aload_n 0, 1) := by decide +kernel
theorem dX8_scanRun_16 : decode cX8_scanRun 16 = .ok (.getfield 29, 3) := by decide +kernel
theorem dX8_scanRun_19 : decode cX8_scanRun 19 = .ok (.if_icmp .ge 77, 3) := by decide +kernel
theorem dX8_scanRun_22 : decode cX8_scanRun 22 = .ok (.aload_n 0, 1) := by decide +kernel
theorem dX8_scanRun_23 : decode cX8_scanRun 23 = .ok (.iload 7, 2) := by decide +kernel
theorem dX8_scanRun_25 : decode cX8_scanRun 25 = .ok (.invokevirtual 42, 3) := by decide +kernel
theorem dX8_scanRun_28 : decode cX8_scanRun 28 = .ok (.invokestatic 46, 3) := by decide +kernel
theorem dX8_scanRun_31 : decode cX8_scanRun 31 = .ok (.ifCond .eq 65, 3) := by decide +kernel
theorem dX8_scanRun_34 : decode cX8_scanRun 34 = .ok (.aload_n 0, 1) := by decide +kernel
theorem dX8_scanRun_35 : decode cX8_scanRun 35 = .ok (.iload 7, 2) := by decide +kernel
theorem dX8_scanRun_37 : decode cX8_scanRun 37 = .ok (.invokevirtual 42, 3) := by decide +kernel
theorem dX8_scanRun_40 : decode cX8_scanRun 40 = .ok (.istore 8, 2) := by decide +kernel
theorem dX8_scanRun_42 : decode cX8_scanRun 42 = .ok (.iload 8, 2) := by decide +kernel
theorem dX8_scanRun_44 : decode cX8_scanRun 44 = .ok (.invokestatic 75, 3) := by decide +kernel
theorem dX8_scanRun_47 : decode cX8_scanRun 47 = .ok (.ifCond .eq 22, 3) := by decide +kernel
theorem dX8_scanRun_50 : decode cX8_scanRun 50 = .ok (.iinc 3 1, 3) := by decide +kernel
theorem dX8_scanRun_53 : decode cX8_scanRun 53 = .ok (.iload 4, 2) := by decide +kernel
theorem dX8_scanRun_55 : decode cX8_scanRun 55 = .ok (.bipush 10, 2) := by decide +kernel
theorem dX8_scanRun_57 : decode cX8_scanRun 57 = .ok (.imul, 1) := by decide +kernel
theorem dX8_scanRun_58 : decode cX8_scanRun 58 = .ok (.iload 8, 2) := by decide +kernel
theorem dX8_scanRun_60 : decode cX8_scanRun 60 = .ok (.iadd, 1) := by decide +kernel
theorem dX8_scanRun_61 : decode cX8_scanRun 61 = .ok (.bipush 48, 2) := by decide +kernel
theorem dX8_scanRun_63 : decode cX8_scanRun 63 = .ok (.isub, 1) := by decide +kernel
theorem dX8_scanRun_64 : decode cX8_scanRun 64 = .ok (.istore 4, 2) := by decide +kernel
theorem dX8_scanRun_66 : decode cX8_scanRun 66 = .ok (.goto 24, 3) := by decide +kernel
theorem dX8_scanRun_69 : decode cX8_scanRun 69 = .ok (.iinc 2 1, 3) := by decide +kernel
theorem dX8_scanRun_72 : decode cX8_scanRun 72 = .ok (.lload 5, 2) := by decide +kernel
theorem dX8_scanRun_74 : decode cX8_scanRun 74 = .ok (.ldc2_w 78, 3) := by decide +kernel
theorem dX8_scanRun_77 : decode cX8_scanRun 77 = .ok (.lmul, 1) := by decide +kernel
theorem dX8_scanRun_78 : decode cX8_scanRun 78 = .ok (.iload 8, 2) := by decide +kernel
theorem dX8_scanRun_80 : decode cX8_scanRun 80 = .ok (.i2l, 1) := by decide +kernel
theorem dX8_scanRun_81 : decode cX8_scanRun 81 = .ok (.ladd, 1) := by decide +kernel
theorem dX8_scanRun_82 : decode cX8_scanRun 82 = .ok (.ldc2_w 80, 3) := by decide +kernel
theorem dX8_scanRun_85 : decode cX8_scanRun 85 = .ok (.lsub, 1) := by decide +kernel
theorem dX8_scanRun_86 : decode cX8_scanRun 86 = .ok (.lconst 1, 1) := by decide +kernel
theorem dX8_scanRun_87 : decode cX8_scanRun 87 = .ok (.ladd, 1) := by decide +kernel
theorem dX8_scanRun_88 : decode cX8_scanRun 88 = .ok (.lstore 5, 2) := by decide +kernel
theorem dX8_scanRun_90 : decode cX8_scanRun 90 = .ok (.iinc 7 1, 3) := by decide +kernel
theorem dX8_scanRun_93 : decode cX8_scanRun 93 = .ok (.goto (-80), 3) := by decide +kernel
theorem dX8_scanRun_96 : decode cX8_scanRun 96 = .ok (.bipush 49, 2) := by decide +kernel
theorem dX8_scanRun_98 : decode cX8_scanRun 98 = .ok (.istore 8, 2) := by decide +kernel
theorem dX8_scanRun_100 : decode cX8_scanRun 100 = .ok (.iload_n 2, 1) := by decide +kernel
theorem dX8_scanRun_101 : decode cX8_scanRun 101 = .ok (.ifCond .ne 15, 3) := by decide +kernel
theorem dX8_scanRun_104 : decode cX8_scanRun 104 = .ok (.iload_n 3, 1) := by decide +kernel
theorem dX8_scanRun_105 : decode cX8_scanRun 105 = .ok (.iconst 3, 1) := by decide +kernel
theorem dX8_scanRun_106 : decode cX8_scanRun 106 = .ok (.if_icmp .gt 10, 3) := by decide +kernel
theorem dX8_scanRun_109 : decode cX8_scanRun 109 = .ok (.bipush 46, 2) := by decide +kernel
theorem dX8_scanRun_111 : decode cX8_scanRun 111 = .ok (.istore 8, 2) := by decide +kernel
theorem dX8_scanRun_113 : decode cX8_scanRun 113 = .ok (.goto 22, 3) := by decide +kernel
theorem dX8_scanRun_116 : decode cX8_scanRun 116 = .ok (.iload_n 3, 1) := by decide +kernel
theorem dX8_scanRun_117 : decode cX8_scanRun 117 = .ok (.ifCond .ne 18, 3) := by decide +kernel
theorem dX8_scanRun_120 : decode cX8_scanRun 120 = .ok (.iload_n 2, 1) := by decide +kernel
theorem dX8_scanRun_121 : decode cX8_scanRun 121 = .ok (.bipush 7, 2) := by decide +kernel
theorem dX8_scanRun_123 : decode cX8_scanRun 123 = .ok (.if_icmp .gt 12, 3) := by decide +kernel
theorem dX8_scanRun_126 : decode cX8_scanRun 126 = .ok (.aload_n 0, 1) := by decide +kernel
theorem dX8_scanRun_127 : decode cX8_scanRun 127 = .ok (.iload_n 1, 1) := by decide +kernel
theorem dX8_scanRun_128 : decode cX8_scanRun 128 = .ok (.iload 7, 2) := by decide +kernel
theorem dX8_scanRun_130 : decode cX8_scanRun 130 = .ok (.invokevirtual 82, 3) := by decide +kernel
theorem dX8_scanRun_133 : decode cX8_scanRun 133 = .ok (.istore 8, 2) := by decide +kernel
theorem dX8_scanRun_135 : decode cX8_scanRun 135 = .ok (.aload_n 0, 1) := by decide +kernel
theorem dX8_scanRun_136 : decode cX8_scanRun 136 = .ok (.iload 8, 2) := by decide +kernel
theorem dX8_scanRun_138 : decode cX8_scanRun 138 = .ok (.iload_n 1, 1) := by decide +kernel
theorem dX8_scanRun_139 : decode cX8_scanRun 139 = .ok (.iload 4, 2) := by decide +kernel
theorem dX8_scanRun_141 : decode cX8_scanRun 141 = .ok (.lload 5, 2) := by decide +kernel
theorem dX8_scanRun_143 : decode cX8_scanRun 143 = .ok (.invokevirtual 59, 3) := by decide +kernel
theorem dX8_scanRun_146 : decode cX8_scanRun 146 = .ok (.iload 7, 2) := by decide +kernel
theorem dX8_scanRun_148 : decode cX8_scanRun 148 = .ok (.ireturn, 1) := by decide +kernel
theorem dX8_note_0 : decode cX8_note 0 = .ok (.aload_n 0, 1) := by decide +kernel
theorem dX8_note_1 : decode cX8_note 1 = .ok (.getfield 39, 3) := by decide +kernel
theorem dX8_note_4 : decode cX8_note 4 = .ok (.aload_n 0, 1) := by decide +kernel
theorem dX8_note_5 : decode cX8_note 5 = .ok (.getfield 15, 3) := by decide +kernel
theorem dX8_note_8 : decode cX8_note 8 = .ok (.arraylength, 1) := by decide +kernel
theorem dX8_note_9 : decode cX8_note 9 = .ok (.if_icmp .ge 54, 3) := by decide +kernel
theorem dX8_note_12 : decode cX8_note 12 = .ok (.aload_n 0, 1) := by decide +kernel
theorem dX8_note_13 : decode cX8_note 13 = .ok (.getfield 15, 3) := by decide +kernel
theorem dX8_note_16 : decode cX8_note 16 = .ok (.aload_n 0, 1) := by decide +kernel
theorem dX8_note_17 : decode cX8_note 17 = .ok (.getfield 39, 3) := by decide +kernel
theorem dX8_note_20 : decode cX8_note 20 = .ok (.iload_n 1, 1) := by decide +kernel
theorem dX8_note_21 : decode cX8_note 21 = .ok (.iastore, 1) := by decide +kernel
theorem dX8_note_22 : decode cX8_note 22 = .ok (.aload_n 0, 1) := by decide +kernel
theorem dX8_note_23 : decode cX8_note 23 = .ok (.getfield 19, 3) := by decide +kernel
theorem dX8_note_26 : decode cX8_note 26 = .ok (.aload_n 0, 1) := by decide +kernel
theorem dX8_note_27 : decode cX8_note 27 = .ok (.getfield 39, 3) := by decide +kernel
theorem dX8_note_30 : decode cX8_note 30 = .ok (.iload_n 2, 1) := by decide +kernel
theorem dX8_note_31 : decode cX8_note 31 = .ok (.iastore, 1) := by decide +kernel
theorem dX8_note_32 : decode cX8_note 32 = .ok (.aload_n 0, 1) := by decide +kernel
theorem dX8_note_33 : decode cX8_note 33 = .ok (.getfield 22, 3) := by decide +kernel
theorem dX8_note_36 : decode cX8_note 36 = .ok (.aload_n 0, 1) := by decide +kernel
theorem dX8_note_37 : decode cX8_note 37 = .ok (.getfield 39, 3) := by decide +kernel
theorem dX8_note_40 : decode cX8_note 40 = .ok (.iload_n 3, 1) := by decide +kernel
theorem dX8_note_41 : decode cX8_note 41 = .ok (.iastore, 1) := by decide +kernel
theorem dX8_note_42 : decode cX8_note 42 = .ok (.aload_n 0, 1) := by decide +kernel
theorem dX8_note_43 : decode cX8_note 43 = .ok (.getfield 25, 3) := by decide +kernel
theorem dX8_note_46 : decode cX8_note 46 = .ok (.aload_n 0, 1) := by decide +kernel
theorem dX8_note_47 : decode cX8_note 47 = .ok (.getfield 39, 3) := by decide +kernel
theorem dX8_note_50 : decode cX8_note 50 = .ok (.lload 4, 2) := by decide +kernel
theorem dX8_note_52 : decode cX8_note 52 = .ok (.lastore, 1) := by decide +kernel
theorem dX8_note_53 : decode cX8_note 53 = .ok (.aload_n 0, 1) := by decide +kernel
theorem dX8_note_54 : decode cX8_note 54 = .ok (.dup, 1) := by decide +kernel
theorem dX8_note_55 : decode cX8_note 55 = .ok (.getfield 39, 3) := by decide +kernel
theorem dX8_note_58 : decode cX8_note 58 = .ok (.iconst 1, 1) := by decide +kernel
theorem dX8_note_59 : decode cX8_note 59 = .ok (.iadd, 1) := by decide +kernel
theorem dX8_note_60 : decode cX8_note 60 = .ok (.putfield 39, 3) := by decide +kernel
theorem dX8_note_63 : decode cX8_note 63 = .ok (.return_, 1) := by decide +kernel
theorem dX8_next_0 : decode cX8_next 0 = .ok (.aload_n 0, 1) := by decide +kernel
theorem dX8_next_1 : decode cX8_next 1 = .ok (.getfield 69, 3) := by decide +kernel
theorem dX8_next_4 : decode cX8_next 4 = .ok (.aload_n 0, 1) := by decide +kernel
theorem dX8_next_5 : decode cX8_next 5 = .ok (.getfield 39, 3) := by decide +kernel
theorem dX8_next_8 : decode cX8_next 8 = .ok (.if_icmp .ge 77, 3) := by decide +kernel
theorem dX8_next_11 : decode cX8_next 11 = .ok (.aload_n 0, 1) := by decide +kernel
theorem dX8_next_12 : decode cX8_next 12 = .ok (.getfield 69, 3) := by decide +kernel
theorem dX8_next_15 : decode cX8_next 15 = .ok (.aload_n 0, 1) := by decide +kernel
theorem dX8_next_16 : decode cX8_next 16 = .ok (.getfield 15, 3) := by decide +kernel
theorem dX8_next_19 : decode cX8_next 19 = .ok (.arraylength, 1) := by decide +kernel
theorem dX8_next_20 : decode cX8_next 20 = .ok (.if_icmp .ge 65, 3) := by decide +kernel
theorem dX8_next_23 : decode cX8_next 23 = .ok (.aload_n 0, 1) := by decide +kernel
theorem dX8_next_24 : decode cX8_next 24 = .ok (.aload_n 0, 1) := by decide +kernel
theorem dX8_next_25 : decode cX8_next 25 = .ok (.getfield 15, 3) := by decide +kernel
theorem dX8_next_28 : decode cX8_next 28 = .ok (.aload_n 0, 1) := by decide +kernel
theorem dX8_next_29 : decode cX8_next 29 = .ok (.getfield 69, 3) := by decide +kernel
theorem dX8_next_32 : decode cX8_next 32 = .ok (.iaload, 1) := by decide +kernel
theorem dX8_next_33 : decode cX8_next 33 = .ok (.putfield 85, 3) := by decide +kernel
theorem dX8_next_36 : decode cX8_next 36 = .ok (.aload_n 0, 1) := by decide +kernel
theorem dX8_next_37 : decode cX8_next 37 = .ok (.aload_n 0, 1) := by decide +kernel
theorem dX8_next_38 : decode cX8_next 38 = .ok (.getfield 19, 3) := by decide +kernel
theorem dX8_next_41 : decode cX8_next 41 = .ok (.aload_n 0, 1) := by decide +kernel
theorem dX8_next_42 : decode cX8_next 42 = .ok (.getfield 69, 3) := by decide +kernel
theorem dX8_next_45 : decode cX8_next 45 = .ok (.iaload, 1) := by decide +kernel
theorem dX8_next_46 : decode cX8_next 46 = .ok (.putfield 88, 3) := by decide +kernel
theorem dX8_next_49 : decode cX8_next 49 = .ok (.aload_n 0, 1) := by decide +kernel
theorem dX8_next_50 : decode cX8_next 50 = .ok (.aload_n 0, 1) := by decide +kernel
theorem dX8_next_51 : decode cX8_next 51 = .ok (.getfield 22, 3) := by decide +kernel
theorem dX8_next_54 : decode cX8_next 54 = .ok (.aload_n 0, 1) := by decide +kernel
theorem dX8_next_55 : decode cX8_next 55 = .ok (.getfield 69, 3) := by decide +kernel
theorem dX8_next_58 : decode cX8_next 58 = .ok (.iaload, 1) := by decide +kernel
theorem dX8_next_59 : decode cX8_next 59 = .ok (.putfield 91, 3) := by decide +kernel
theorem dX8_next_62 : decode cX8_next 62 = .ok (.aload_n 0, 1) := by decide +kernel
theorem dX8_next_63 : decode cX8_next 63 = .ok (.aload_n 0, 1) := by decide +kernel
theorem dX8_next_64 : decode cX8_next 64 = .ok (.getfield 25, 3) := by decide +kernel
theorem dX8_next_67 : decode cX8_next 67 = .ok (.aload_n 0, 1) := by decide +kernel
theorem dX8_next_68 : decode cX8_next 68 = .ok (.getfield 69, 3) := by decide +kernel
theorem dX8_next_71 : decode cX8_next 71 = .ok (.laload, 1) := by decide +kernel
theorem dX8_next_72 : decode cX8_next 72 = .ok (.putfield 94, 3) := by decide +kernel
theorem dX8_next_75 : decode cX8_next 75 = .ok (.aload_n 0, 1) := by decide +kernel
theorem dX8_next_76 : decode cX8_next 76 = .ok (.dup, 1) := by decide +kernel
theorem dX8_next_77 : decode cX8_next 77 = .ok (.getfield 69, 3) := by decide +kernel
theorem dX8_next_80 : decode cX8_next 80 = .ok (.iconst 1, 1) := by decide +kernel
theorem dX8_next_81 : decode cX8_next 81 = .ok (.iadd, 1) := by decide +kernel
theorem dX8_next_82 : decode cX8_next 82 = .ok (.putfield 69, 3) := by decide +kernel
theorem dX8_next_85 : decode cX8_next 85 = .ok (.return_, 1) := by decide +kernel
set_option maxRecDepth 20000 in
theorem ggX8_wordToken_X8_wordIn : GoodIn wsX8_wordToken wsX8_wordIn := goodIn_r _ [5, 6, 7, 8, 9, 10, 11, 12, 13, 14, 15, 16, 17, 18, 19, 20, 4, 21, 22, 23, 24, 25, 26, 27, 28, 29, 30, 31, 32, 33, 34, 35, 36, 37, 38, 39, 40, 41, 42, 43, 44, 45, 46, 47, 48, 49, 50, 51, 52, 53, 54, 55, 56, 57, 58, 59, 60, 61, 62, 63, 64, 65, 66, 67, 68, 69, 70, 71, 72, 73, 74, 75, 76, 77, 78] rfl (by decide +kernel)
set_option maxRecDepth 20000 in
theorem gX8_wordToken_X8_wordIn : GoodIn wsX8_wordToken (wsV RX8 100 RX8 yX8_wordIn wsX8_wordIn) := goodIn_app (goodIn_of _ (by decide +kernel)) ggX8_wordToken_X8_wordIn
theorem dX8_wordToken_0 : decode cX8_wordToken 0 = .ok (.aload_n 0, 1) := by decide +kernel
theorem dX8_wordToken_1 : decode cX8_wordToken 1 = .ok (.ldc 98, 2) := by decide +kernel
theorem dX8_wordToken_3 : decode cX8_wordToken 3 = .ok (.iload_n 1, 1) := by decide +kernel
theorem dX8_wordToken_4 : decode cX8_wordToken 4 = .ok (.iload_n 2, 1) := by decide +kernel
theorem dX8_wordToken_5 : decode cX8_wordToken 5 = .ok (.invokevirtual 100, 3) := by decide +kernel
theorem dX8_wordToken_8 : decode cX8_wordToken 8 = .ok (.istore_n 3, 1) := by decide +kernel
theorem dX8_wordToken_9 : decode cX8_wordToken 9 = .ok (.iload_n 3, 1) := by decide +kernel
theorem dX8_wordToken_10 : decode cX8_wordToken 10 = .ok (.iconst (-1), 1) := by decide +kernel
theorem dX8_wordToken_11 : decode cX8_wordToken 11 = .ok (.if_icmp .eq 5, 3) := by decide +kernel
theorem dX8_wordToken_14 : decode cX8_wordToken 14 = .ok (.iload_n 3, 1) := by decide +kernel
theorem dX8_wordToken_15 : decode cX8_wordToken 15 = .ok (.ireturn, 1) := by decide +kernel
theorem dX8_wordToken_16 : decode cX8_wordToken 16 = .ok (.aload_n 0, 1) := by decide +kernel
theorem dX8_wordToken_17 : decode cX8_wordToken 17 = .ok (.ldc 104, 2) := by decide +kernel
theorem dX8_wordToken_19 : decode cX8_wordToken 19 = .ok (.iload_n 1, 1) := by decide +kernel
theorem dX8_wordToken_20 : decode cX8_wordToken 20 = .ok (.iload_n 2, 1) := by decide +kernel
theorem dX8_wordToken_21 : decode cX8_wordToken 21 = .ok (.invokevirtual 100, 3) := by decide +kernel
theorem dX8_wordToken_24 : decode cX8_wordToken 24 = .ok (.istore_n 3, 1) := by decide +kernel
theorem dX8_wordToken_25 : decode cX8_wordToken 25 = .ok (.iload_n 3, 1) := by decide +kernel
theorem dX8_wordToken_26 : decode cX8_wordToken 26 = .ok (.iconst (-1), 1) := by decide +kernel
theorem dX8_wordToken_27 : decode cX8_wordToken 27 = .ok (.if_icmp .eq 8, 3) := by decide +kernel
theorem dX8_wordToken_30 : decode cX8_wordToken 30 = .ok (.bipush 14, 2) := by decide +kernel
theorem dX8_wordToken_32 : decode cX8_wordToken 32 = .ok (.iload_n 3, 1) := by decide +kernel
theorem dX8_wordToken_33 : decode cX8_wordToken 33 = .ok (.iadd, 1) := by decide +kernel
theorem dX8_wordToken_34 : decode cX8_wordToken 34 = .ok (.ireturn, 1) := by decide +kernel
theorem dX8_wordToken_35 : decode cX8_wordToken 35 = .ok (.aload_n 0, 1) := by decide +kernel
theorem dX8_wordToken_36 : decode cX8_wordToken 36 = .ok (.ldc 106, 2) := by decide +kernel
theorem dX8_wordToken_38 : decode cX8_wordToken 38 = .ok (.iload_n 1, 1) := by decide +kernel
theorem dX8_wordToken_39 : decode cX8_wordToken 39 = .ok (.iload_n 2, 1) := by decide +kernel
theorem dX8_wordToken_40 : decode cX8_wordToken 40 = .ok (.invokevirtual 100, 3) := by decide +kernel
theorem dX8_wordToken_43 : decode cX8_wordToken 43 = .ok (.istore_n 3, 1) := by decide +kernel
theorem dX8_wordToken_44 : decode cX8_wordToken 44 = .ok (.iload_n 3, 1) := by decide +kernel
theorem dX8_wordToken_45 : decode cX8_wordToken 45 = .ok (.iconst (-1), 1) := by decide +kernel
theorem dX8_wordToken_46 : decode cX8_wordToken 46 = .ok (.if_icmp .ne 8, 3) := by decide +kernel
theorem dX8_wordToken_49 : decode cX8_wordToken 49 = .ok (.bipush 47, 2) := by decide +kernel
theorem dX8_wordToken_51 : decode cX8_wordToken 51 = .ok (.goto 7, 3) := by decide +kernel
theorem dX8_wordToken_54 : decode cX8_wordToken 54 = .ok (.bipush 20, 2) := by decide +kernel
theorem dX8_wordToken_56 : decode cX8_wordToken 56 = .ok (.iload_n 3, 1) := by decide +kernel
theorem dX8_wordToken_57 : decode cX8_wordToken 57 = .ok (.iadd, 1) := by decide +kernel
theorem dX8_wordToken_58 : decode cX8_wordToken 58 = .ok (.ireturn, 1) := by decide +kernel
set_option maxRecDepth 20000 in
theorem ggX8_wordIn_J0_length_8abf5 : GoodIn wsX8_wordIn wsJ0_length_8abf5 := goodIn_r _ [5, 6, 7, 8, 9, 4, 10, 11, 12] rfl (by decide +kernel)
set_option maxRecDepth 20000 in
theorem gX8_wordIn_J0_length_8abf5 : GoodIn wsX8_wordIn (wsV RX8 108 RJ0 yJ0_length_8abf5 wsJ0_length_8abf5) := goodIn_app (goodIn_of _ (by decide +kernel)) ggX8_wordIn_J0_length_8abf5
set_option maxRecDepth 20000 in
theorem ggX8_wordIn_X8_isWord : GoodIn wsX8_wordIn wsX8_isWord := goodIn_r _ [17, 18, 19, 20, 16, 21, 22, 23, 24, 25, 4, 26, 6, 27, 28, 29, 30, 11, 12, 31, 32, 33, 34, 35, 36, 37, 38, 39, 40, 41, 42, 43, 44, 45, 46, 47, 48, 49, 50, 51, 52, 53, 54, 55, 56, 57, 58, 59, 60, 61, 62, 63, 64, 65, 66, 67, 68, 69, 70, 71, 72, 73, 74] rfl (by decide +kernel)
set_option maxRecDepth 20000 in
theorem gX8_wordIn_X8_isWord : GoodIn wsX8_wordIn (wsV RX8 114 RX8 yX8_isWord wsX8_isWord) := goodIn_app (goodIn_of _ (by decide +kernel)) ggX8_wordIn_X8_isWord
theorem dX8_wordIn_0 : decode cX8_wordIn 0 = .ok (.iconst 0, 1) := by decide +kernel
theorem dX8_wordIn_1 : decode cX8_wordIn 1 = .ok (.istore 4, 2) := by decide +kernel
theorem dX8_wordIn_3 : decode cX8_wordIn 3 = .ok (.iload 4, 2) := by decide +kernel
theorem dX8_wordIn_5 : decode cX8_wordIn 5 = .ok (.iconst 1, 1) := by decide +kernel
theorem dX8_wordIn_6 : decode cX8_wordIn 6 = .ok (.iadd, 1) := by decide +kernel
theorem dX8_wordIn_7 : decode cX8_wordIn 7 = .ok (.bipush 7, 2) := by decide +kernel
theorem dX8_wordIn_9 : decode cX8_wordIn 9 = .ok (.imul, 1) := by decide +kernel
theorem dX8_wordIn_10 : decode cX8_wordIn 10 = .ok (.aload_n 1, 1) := by decide +kernel
theorem dX8_wordIn_11 : decode cX8_wordIn 11 = .ok (.invokevirtual 108, 3) := by decide +kernel
theorem dX8_wordIn_14 : decode cX8_wordIn 14 = .ok (.if_icmp .gt 24, 3) := by decide +kernel
theorem dX8_wordIn_17 : decode cX8_wordIn 17 = .ok (.aload_n 0, 1) := by decide +kernel
theorem dX8_wordIn_18 : decode cX8_wordIn 18 = .ok (.aload_n 1, 1) := by decide +kernel
theorem dX8_wordIn_19 : decode cX8_wordIn 19 = .ok (.iload 4, 2) := by decide +kernel
theorem dX8_wordIn_21 : decode cX8_wordIn 21 = .ok (.iload_n 2, 1) := by decide +kernel
theorem dX8_wordIn_22 : decode cX8_wordIn 22 = .ok (.iload_n 3, 1) := by decide +kernel
theorem dX8_wordIn_23 : decode cX8_wordIn 23 = .ok (.invokevirtual 114, 3) := by decide +kernel
theorem dX8_wordIn_26 : decode cX8_wordIn 26 = .ok (.ifCond .eq 6, 3) := by decide +kernel
theorem dX8_wordIn_29 : decode cX8_wordIn 29 = .ok (.iload 4, 2) := by decide +kernel
theorem dX8_wordIn_31 : decode cX8_wordIn 31 = .ok (.ireturn, 1) := by decide +kernel
theorem dX8_wordIn_32 : decode cX8_wordIn 32 = .ok (.iinc 4 1, 3) := by decide +kernel
theorem dX8_wordIn_35 : decode cX8_wordIn 35 = .ok (.goto (-32), 3) := by decide +kernel
theorem dX8_wordIn_38 : decode cX8_wordIn 38 = .ok (.iconst (-1), 1) := by decide +kernel
theorem dX8_wordIn_39 : decode cX8_wordIn 39 = .ok (.ireturn, 1) := by decide +kernel
set_option maxRecDepth 20000 in
theorem ggX8_isWord_X8_byteAt : GoodIn wsX8_isWord wsX8_byteAt := goodIn_r _ [5, 6, 48, 49, 50, 51, 52, 53, 54, 55, 56, 57, 58, 59, 60, 61, 62] rfl (by decide +kernel)
set_option maxRecDepth 20000 in
theorem gX8_isWord_X8_byteAt : GoodIn wsX8_isWord (wsV RX8 42 RX8 yX8_byteAt wsX8_byteAt) := goodIn_app (goodIn_of _ (by decide +kernel)) ggX8_isWord_X8_byteAt
set_option maxRecDepth 20000 in
theorem ggX8_isWord_J0_charAt_5068e : GoodIn wsX8_isWord wsJ0_charAt_5068e := goodIn_r _ [11, 12, 13, 14, 15, 10, 16, 17, 18, 19, 20, 21, 22, 23, 24, 25, 26, 27, 28, 29, 30, 31, 32, 33, 34, 35, 36, 37, 38, 39, 40, 41, 42, 43, 44, 45, 46, 47] rfl (by decide +kernel)
set_option maxRecDepth 20000 in
theorem gX8_isWord_J0_charAt_5068e : GoodIn wsX8_isWord (wsV RX8 118 RJ0 yJ0_charAt_5068e wsJ0_charAt_5068e) := goodIn_app (goodIn_of _ (by decide +kernel)) ggX8_isWord_J0_charAt_5068e
theorem dX8_isWord_0 : decode cX8_isWord 0 = .ok (.iconst 0, 1) := by decide +kernel
theorem dX8_isWord_1 : decode cX8_isWord 1 = .ok (.istore 5, 2) := by decide +kernel
theorem dX8_isWord_3 : decode cX8_isWord 3 = .ok (.iload 5, 2) := by decide +kernel
theorem dX8_isWord_5 : decode cX8_isWord 5 = .ok (.bipush 7, 2) := by decide +kernel
theorem dX8_isWord_7 : decode cX8_isWord 7 = .ok (.if_icmp .ge 51, 3) := by decide +kernel
theorem dX8_isWord_10 : decode cX8_isWord 10 = .ok (.iload_n 3, 1) := by decide +kernel
theorem dX8_isWord_11 : decode cX8_isWord 11 = .ok (.iload 5, 2) := by decide +kernel
theorem dX8_isWord_13 : decode cX8_isWord 13 = .ok (.iadd, 1) := by decide +kernel
theorem dX8_isWord_14 : decode cX8_isWord 14 = .ok (.iload 4, 2) := by decide +kernel
theorem dX8_isWord_16 : decode cX8_isWord 16 = .ok (.if_icmp .ge 14, 3) := by decide +kernel
theorem dX8_isWord_19 : decode cX8_isWord 19 = .ok (.aload_n 0, 1) := by decide +kernel
theorem dX8_isWord_20 : decode cX8_isWord 20 = .ok (.iload_n 3, 1) := by decide +kernel
theorem dX8_isWord_21 : decode cX8_isWord 21 = .ok (.iload 5, 2) := by decide +kernel
theorem dX8_isWord_23 : decode cX8_isWord 23 = .ok (.iadd, 1) := by decide +kernel
theorem dX8_isWord_24 : decode cX8_isWord 24 = .ok (.invokevirtual 42, 3) := by decide +kernel
theorem dX8_isWord_27 : decode cX8_isWord 27 = .ok (.goto 5, 3) := by decide +kernel
theorem dX8_isWord_30 : decode cX8_isWord 30 = .ok (.bipush 32, 2) := by decide +kernel
theorem dX8_isWord_32 : decode cX8_isWord 32 = .ok (.istore 6, 2) := by decide +kernel
theorem dX8_isWord_34 : decode cX8_isWord 34 = .ok (.aload_n 1, 1) := by decide +kernel
theorem dX8_isWord_35 : decode cX8_isWord 35 = .ok (.iload_n 2, 1) := by decide +kernel
theorem dX8_isWord_36 : decode cX8_isWord 36 = .ok (.bipush 7, 2) := by decide +kernel
theorem dX8_isWord_38 : decode cX8_isWord 38 = .ok (.imul, 1) := by decide +kernel
theorem dX8_isWord_39 : decode cX8_isWord 39 = .ok (.iload 5, 2) := by decide +kernel
theorem dX8_isWord_41 : decode cX8_isWord 41 = .ok (.iadd, 1) := by decide +kernel
theorem dX8_isWord_42 : decode cX8_isWord 42 = .ok (.invokevirtual 118, 3) := by decide +kernel
theorem dX8_isWord_45 : decode cX8_isWord 45 = .ok (.iload 6, 2) := by decide +kernel
theorem dX8_isWord_47 : decode cX8_isWord 47 = .ok (.if_icmp .eq 5, 3) := by decide +kernel
theorem dX8_isWord_50 : decode cX8_isWord 50 = .ok (.iconst 0, 1) := by decide +kernel
theorem dX8_isWord_51 : decode cX8_isWord 51 = .ok (.ireturn, 1) := by decide +kernel
theorem dX8_isWord_52 : decode cX8_isWord 52 = .ok (.iinc 5 1, 3) := by decide +kernel
theorem dX8_isWord_55 : decode cX8_isWord 55 = .ok (.goto (-52), 3) := by decide +kernel
theorem dX8_isWord_58 : decode cX8_isWord 58 = .ok (.iconst 1, 1) := by decide +kernel
theorem dX8_isWord_59 : decode cX8_isWord 59 = .ok (.ireturn, 1) := by decide +kernel
theorem dX8_blame_0 : decode cX8_blame 0 = .ok (.aload_n 0, 1) := by decide +kernel
theorem dX8_blame_1 : decode cX8_blame 1 = .ok (.iload_n 1, 1) := by decide +kernel
theorem dX8_blame_2 : decode cX8_blame 2 = .ok (.putfield 33, 3) := by decide +kernel
theorem dX8_blame_5 : decode cX8_blame 5 = .ok (.aload_n 0, 1) := by decide +kernel
theorem dX8_blame_6 : decode cX8_blame 6 = .ok (.aload_n 0, 1) := by decide +kernel
theorem dX8_blame_7 : decode cX8_blame 7 = .ok (.getfield 88, 3) := by decide +kernel
theorem dX8_blame_10 : decode cX8_blame 10 = .ok (.putfield 36, 3) := by decide +kernel
theorem dX8_blame_13 : decode cX8_blame 13 = .ok (.iconst 0, 1) := by decide +kernel
theorem dX8_blame_14 : decode cX8_blame 14 = .ok (.ireturn, 1) := by decide +kernel
set_option maxRecDepth 20000 in
theorem ggX8_take_X8_blame : GoodIn wsX8_take wsX8_blame := goodIn_r _ [6, 7, 8, 9, 22, 23, 24, 25, 26, 27, 28, 29, 30, 31, 32, 33, 34, 35, 36] rfl (by decide +kernel)
set_option maxRecDepth 20000 in
theorem gX8_take_X8_blame : GoodIn wsX8_take (wsV RX8 122 RX8 yX8_blame wsX8_blame) := goodIn_app (goodIn_of _ (by decide +kernel)) ggX8_take_X8_blame
set_option maxRecDepth 20000 in
theorem ggX8_take_X8_next : GoodIn wsX8_take wsX8_next := goodIn_r _ [13, 14, 15, 16, 1, 17, 8, 18, 19, 20, 21, 22, 23, 24, 25, 26, 27, 28, 29, 30, 31, 32, 33, 34, 35, 36] rfl (by decide +kernel)
set_option maxRecDepth 20000 in
theorem gX8_take_X8_next : GoodIn wsX8_take (wsV RX8 72 RX8 yX8_next wsX8_next) := goodIn_app (goodIn_of _ (by decide +kernel)) ggX8_take_X8_next
theorem dX8_take_0 : decode cX8_take 0 = .ok (.aload_n 0, 1) := by decide +kernel
theorem dX8_take_1 : decode cX8_take 1 = .ok (.getfield 85, 3) := by decide +kernel
theorem dX8_take_4 : decode cX8_take 4 = .ok (.iload_n 1, 1) := by decide +kernel
theorem dX8_take_5 : decode cX8_take 5 = .ok (.if_icmp .eq 9, 3) := by decide +kernel
theorem dX8_take_8 : decode cX8_take 8 = .ok (.aload_n 0, 1) := by decide +kernel
theorem dX8_take_9 : decode cX8_take 9 = .ok (.iconst 1, 1) := by decide +kernel
theorem dX8_take_10 : decode cX8_take 10 = .ok (.invokevirtual 122, 3) := by decide +kernel
theorem dX8_take_13 : decode cX8_take 13 = .ok (.ireturn, 1) := by decide +kernel
theorem dX8_take_14 : decode cX8_take 14 = .ok (.aload_n 0, 1) := by decide +kernel
theorem dX8_take_15 : decode cX8_take 15 = .ok (.invokevirtual 72, 3) := by decide +kernel
theorem dX8_take_18 : decode cX8_take 18 = .ok (.iconst 1, 1) := by decide +kernel
theorem dX8_take_19 : decode cX8_take 19 = .ok (.ireturn, 1) := by decide +kernel
set_option maxRecDepth 20000 in
theorem ggX8_takeNumber_X8_blame : GoodIn wsX8_takeNumber wsX8_blame := goodIn_r _ [8, 9, 10, 11, 23, 24, 25, 26, 27, 28, 29, 30, 31, 32, 33, 34, 35, 36, 37] rfl (by decide +kernel)
set_option maxRecDepth 20000 in
theorem gX8_takeNumber_X8_blame : GoodIn wsX8_takeNumber (wsV RX8 122 RX8 yX8_blame wsX8_blame) := goodIn_app (goodIn_of _ (by decide +kernel)) ggX8_takeNumber_X8_blame
set_option maxRecDepth 20000 in
theorem ggX8_takeNumber_X8_next : GoodIn wsX8_takeNumber wsX8_next := goodIn_r _ [15, 16, 17, 18, 1, 19, 10, 20, 2, 21, 22, 23, 24, 25, 26, 27, 28, 29, 30, 31, 32, 33, 34, 35, 36, 37] rfl (by decide +kernel)
set_option maxRecDepth 20000 in
theorem gX8_takeNumber_X8_next : GoodIn wsX8_takeNumber (wsV RX8 72 RX8 yX8_next wsX8_next) := goodIn_app (goodIn_of _ (by decide +kernel)) ggX8_takeNumber_X8_next
theorem dX8_takeNumber_0 : decode cX8_takeNumber 0 = .ok (.aload_n 0, 1) := by decide +kernel
theorem dX8_takeNumber_1 : decode cX8_takeNumber 1 = .ok (.getfield 85, 3) := by decide +kernel
theorem dX8_takeNumber_4 : decode cX8_takeNumber 4 = .ok (.bipush 46, 2) := by decide +kernel
theorem dX8_takeNumber_6 : decode cX8_takeNumber 6 = .ok (.if_icmp .eq 9, 3) := by decide +kernel
theorem dX8_takeNumber_9 : decode cX8_takeNumber 9 = .ok (.aload_n 0, 1) := by decide +kernel
theorem dX8_takeNumber_10 : decode cX8_takeNumber 10 = .ok (.iconst 1, 1) := by decide +kernel
theorem dX8_takeNumber_11 : decode cX8_takeNumber 11 = .ok (.invokevirtual 122, 3) := by decide +kernel
theorem dX8_takeNumber_14 : decode cX8_takeNumber 14 = .ok (.ireturn, 1) := by decide +kernel
theorem dX8_takeNumber_15 : decode cX8_takeNumber 15 = .ok (.aload_n 0, 1) := by decide +kernel
theorem dX8_takeNumber_16 : decode cX8_takeNumber 16 = .ok (.getfield 91, 3) := by decide +kernel
theorem dX8_takeNumber_19 : decode cX8_takeNumber 19 = .ok (.iload_n 1, 1) := by decide +kernel
theorem dX8_takeNumber_20 : decode cX8_takeNumber 20 = .ok (.if_icmp .lt 11, 3) := by decide +kernel
theorem dX8_takeNumber_23 : decode cX8_takeNumber 23 = .ok (.aload_n 0, 1) := by decide +kernel
theorem dX8_takeNumber_24 : decode cX8_takeNumber 24 = .ok (.getfield 91, 3) := by decide +kernel
theorem dX8_takeNumber_27 : decode cX8_takeNumber 27 = .ok (.iload_n 2, 1) := by decide +kernel
theorem dX8_takeNumber_28 : decode cX8_takeNumber 28 = .ok (.if_icmp .le 9, 3) := by decide +kernel
theorem dX8_takeNumber_31 : decode cX8_takeNumber 31 = .ok (.aload_n 0, 1) := by decide +kernel
theorem dX8_takeNumber_32 : decode cX8_takeNumber 32 = .ok (.iconst 2, 1) := by decide +kernel
theorem dX8_takeNumber_33 : decode cX8_takeNumber 33 = .ok (.invokevirtual 122, 3) := by decide +kernel
theorem dX8_takeNumber_36 : decode cX8_takeNumber 36 = .ok (.ireturn, 1) := by decide +kernel
theorem dX8_takeNumber_37 : decode cX8_takeNumber 37 = .ok (.aload_n 0, 1) := by decide +kernel
theorem dX8_takeNumber_38 : decode cX8_takeNumber 38 = .ok (.aload_n 0, 1) := by decide +kernel
theorem dX8_takeNumber_39 : decode cX8_takeNumber 39 = .ok (.getfield 91, 3) := by decide +kernel
theorem dX8_takeNumber_42 : decode cX8_takeNumber 42 = .ok (.putfield 125, 3) := by decide +kernel
theorem dX8_takeNumber_45 : decode cX8_takeNumber 45 = .ok (.aload_n 0, 1) := by decide +kernel
theorem dX8_takeNumber_46 : decode cX8_takeNumber 46 = .ok (.invokevirtual 72, 3) := by decide +kernel
theorem dX8_takeNumber_49 : decode cX8_takeNumber 49 = .ok (.iconst 1, 1) := by decide +kernel
theorem dX8_takeNumber_50 : decode cX8_takeNumber 50 = .ok (.ireturn, 1) := by decide +kernel
set_option maxRecDepth 20000 in
theorem ggX8_hillHere_X9_numberOf : GoodIn wsX8_hillHere wsX9_numberOf := goodIn_r _ [6] rfl (by decide +kernel)
set_option maxRecDepth 20000 in
theorem gX8_hillHere_X9_numberOf : GoodIn wsX8_hillHere (wsV RX8 136 RX9 yX9_numberOf wsX9_numberOf) := goodIn_app (goodIn_of _ (by decide +kernel)) ggX8_hillHere_X9_numberOf
set_option maxRecDepth 20000 in
theorem ggX8_hillHere_X8_toldHere : GoodIn wsX8_hillHere wsX8_toldHere := goodIn_r _ [11, 12, 13, 14, 15, 10, 16, 17, 18, 19, 20, 21, 22, 23, 24, 25, 26, 27, 28, 29, 30, 31, 32, 33, 34] rfl (by decide +kernel)
set_option maxRecDepth 20000 in
theorem gX8_hillHere_X8_toldHere : GoodIn wsX8_hillHere (wsV RX8 140 RX8 yX8_toldHere wsX8_toldHere) := goodIn_app (goodIn_of _ (by decide +kernel)) ggX8_hillHere_X8_toldHere
theorem dX8_hillHere_0 : decode cX8_hillHere 0 = .ok (.aload_n 0, 1) := by decide +kernel
theorem dX8_hillHere_1 : decode cX8_hillHere 1 = .ok (.aload_n 1, 1) := by decide +kernel
theorem dX8_hillHere_2 : decode cX8_hillHere 2 = .ok (.aload_n 0, 1) := by decide +kernel
theorem dX8_hillHere_3 : decode cX8_hillHere 3 = .ok (.getfield 94, 3) := by decide +kernel
theorem dX8_hillHere_6 : decode cX8_hillHere 6 = .ok (.aload_n 1, 1) := by decide +kernel
theorem dX8_hillHere_7 : decode cX8_hillHere 7 = .ok (.getfield 128, 3) := by decide +kernel
theorem dX8_hillHere_10 : decode cX8_hillHere 10 = .ok (.aload_n 1, 1) := by decide +kernel
theorem dX8_hillHere_11 : decode cX8_hillHere 11 = .ok (.getfield 133, 3) := by decide +kernel
theorem dX8_hillHere_14 : decode cX8_hillHere 14 = .ok (.invokevirtual 136, 3) := by decide +kernel
theorem dX8_hillHere_17 : decode cX8_hillHere 17 = .ok (.invokevirtual 140, 3) := by decide +kernel
theorem dX8_hillHere_20 : decode cX8_hillHere 20 = .ok (.ireturn, 1) := by decide +kernel
set_option maxRecDepth 20000 in
theorem ggX8_manHere_X9_numberOf : GoodIn wsX8_manHere wsX9_numberOf := goodIn_r _ [6] rfl (by decide +kernel)
set_option maxRecDepth 20000 in
theorem gX8_manHere_X9_numberOf : GoodIn wsX8_manHere (wsV RX8 136 RX9 yX9_numberOf wsX9_numberOf) := goodIn_app (goodIn_of _ (by decide +kernel)) ggX8_manHere_X9_numberOf
set_option maxRecDepth 20000 in
theorem ggX8_manHere_X8_toldHere : GoodIn wsX8_manHere wsX8_toldHere := goodIn_r _ [11, 12, 13, 14, 15, 10, 16, 17, 18, 19, 20, 21, 22, 23, 24, 25, 26, 27, 28, 29, 30, 31, 32, 33, 34] rfl (by decide +kernel)
set_option maxRecDepth 20000 in
theorem gX8_manHere_X8_toldHere : GoodIn wsX8_manHere (wsV RX8 140 RX8 yX8_toldHere wsX8_toldHere) := goodIn_app (goodIn_of _ (by decide +kernel)) ggX8_manHere_X8_toldHere
theorem dX8_manHere_0 : decode cX8_manHere 0 = .ok (.aload_n 0, 1) := by decide +kernel
theorem dX8_manHere_1 : decode cX8_manHere 1 = .ok (.aload_n 1, 1) := by decide +kernel
theorem dX8_manHere_2 : decode cX8_manHere 2 = .ok (.aload_n 0, 1) := by decide +kernel
theorem dX8_manHere_3 : decode cX8_manHere 3 = .ok (.getfield 94, 3) := by decide +kernel
theorem dX8_manHere_6 : decode cX8_manHere 6 = .ok (.aload_n 1, 1) := by decide +kernel
theorem dX8_manHere_7 : decode cX8_manHere 7 = .ok (.getfield 143, 3) := by decide +kernel
theorem dX8_manHere_10 : decode cX8_manHere 10 = .ok (.aload_n 1, 1) := by decide +kernel
theorem dX8_manHere_11 : decode cX8_manHere 11 = .ok (.getfield 146, 3) := by decide +kernel
theorem dX8_manHere_14 : decode cX8_manHere 14 = .ok (.invokevirtual 136, 3) := by decide +kernel
theorem dX8_manHere_17 : decode cX8_manHere 17 = .ok (.invokevirtual 140, 3) := by decide +kernel
theorem dX8_manHere_20 : decode cX8_manHere 20 = .ok (.ireturn, 1) := by decide +kernel
set_option maxRecDepth 20000 in
theorem ggX8_toldHere_X8_blame : GoodIn wsX8_toldHere wsX8_blame := goodIn_r _ [6, 7, 8, 9, 10, 11, 12, 13, 14, 15, 16, 17, 18, 19, 20, 21, 22, 23, 24] rfl (by decide +kernel)
set_option maxRecDepth 20000 in
theorem gX8_toldHere_X8_blame : GoodIn wsX8_toldHere (wsV RX8 122 RX8 yX8_blame wsX8_blame) := goodIn_app (goodIn_of _ (by decide +kernel)) ggX8_toldHere_X8_blame
theorem dX8_toldHere_0 : decode cX8_toldHere 0 = .ok (.aload_n 0, 1) := by decide +kernel
theorem dX8_toldHere_1 : decode cX8_toldHere 1 = .ok (.getfield 85, 3) := by decide +kernel
theorem dX8_toldHere_4 : decode cX8_toldHere 4 = .ok (.bipush 47, 2) := by decide +kernel
theorem dX8_toldHere_6 : decode cX8_toldHere 6 = .ok (.if_icmp .eq 11, 3) := by decide +kernel
theorem dX8_toldHere_9 : decode cX8_toldHere 9 = .ok (.aload_n 0, 1) := by decide +kernel
theorem dX8_toldHere_10 : decode cX8_toldHere 10 = .ok (.iconst 1, 1) := by decide +kernel
theorem dX8_toldHere_11 : decode cX8_toldHere 11 = .ok (.invokevirtual 122, 3) := by decide +kernel
theorem dX8_toldHere_14 : decode cX8_toldHere 14 = .ok (.pop, 1) := by decide +kernel
theorem dX8_toldHere_15 : decode cX8_toldHere 15 = .ok (.iconst (-1), 1) := by decide +kernel
theorem dX8_toldHere_16 : decode cX8_toldHere 16 = .ok (.ireturn, 1) := by decide +kernel
theorem dX8_toldHere_17 : decode cX8_toldHere 17 = .ok (.iload_n 1, 1) := by decide +kernel
theorem dX8_toldHere_18 : decode cX8_toldHere 18 = .ok (.iconst (-1), 1) := by decide +kernel
theorem dX8_toldHere_19 : decode cX8_toldHere 19 = .ok (.if_icmp .ne 9, 3) := by decide +kernel
theorem dX8_toldHere_22 : decode cX8_toldHere 22 = .ok (.aload_n 0, 1) := by decide +kernel
theorem dX8_toldHere_23 : decode cX8_toldHere 23 = .ok (.iconst 3, 1) := by decide +kernel
theorem dX8_toldHere_24 : decode cX8_toldHere 24 = .ok (.invokevirtual 122, 3) := by decide +kernel
theorem dX8_toldHere_27 : decode cX8_toldHere 27 = .ok (.pop, 1) := by decide +kernel
theorem dX8_toldHere_28 : decode cX8_toldHere 28 = .ok (.iload_n 1, 1) := by decide +kernel
theorem dX8_toldHere_29 : decode cX8_toldHere 29 = .ok (.ireturn, 1) := by decide +kernel
theorem dX8_isBlank_0 : decode cX8_isBlank 0 = .ok (.iload_n 0, 1) := by decide +kernel
theorem dX8_isBlank_1 : decode cX8_isBlank 1 = .ok (.bipush 32, 2) := by decide +kernel
theorem dX8_isBlank_3 : decode cX8_isBlank 3 = .ok (.if_icmp .eq 9, 3) := by decide +kernel
theorem dX8_isBlank_6 : decode cX8_isBlank 6 = .ok (.iload_n 0, 1) := by decide +kernel
theorem dX8_isBlank_7 : decode cX8_isBlank 7 = .ok (.bipush 10, 2) := by decide +kernel
theorem dX8_isBlank_9 : decode cX8_isBlank 9 = .ok (.if_icmp .ne 7, 3) := by decide +kernel
theorem dX8_isBlank_12 : decode cX8_isBlank 12 = .ok (.iconst 1, 1) := by decide +kernel
theorem dX8_isBlank_13 : decode cX8_isBlank 13 = .ok (.goto 4, 3) := by decide +kernel
theorem dX8_isBlank_16 : decode cX8_isBlank 16 = .ok (.iconst 0, 1) := by decide +kernel
theorem dX8_isBlank_17 : decode cX8_isBlank 17 = .ok (.ireturn, 1) := by decide +kernel
set_option maxRecDepth 20000 in
theorem ggX8_isInRun_X8_isDigit : GoodIn wsX8_isInRun wsX8_isDigit := goodIn_r _ [4] rfl (by decide +kernel)
set_option maxRecDepth 20000 in
theorem gX8_isInRun_X8_isDigit : GoodIn wsX8_isInRun (va_wsS RX8 75 yX8_isDigit wsX8_isDigit) := goodIn_app (goodIn_of _ (by decide +kernel)) ggX8_isInRun_X8_isDigit
theorem dX8_isInRun_0 : decode cX8_isInRun 0 = .ok (.iload_n 0, 1) := by decide +kernel
theorem dX8_isInRun_1 : decode cX8_isInRun 1 = .ok (.bipush 97, 2) := by decide +kernel
theorem dX8_isInRun_3 : decode cX8_isInRun 3 = .ok (.if_icmp .lt 9, 3) := by decide +kernel
theorem dX8_isInRun_6 : decode cX8_isInRun 6 = .ok (.iload_n 0, 1) := by decide +kernel
theorem dX8_isInRun_7 : decode cX8_isInRun 7 = .ok (.bipush 122, 2) := by decide +kernel
theorem dX8_isInRun_9 : decode cX8_isInRun 9 = .ok (.if_icmp .le 10, 3) := by decide +kernel
theorem dX8_isInRun_12 : decode cX8_isInRun 12 = .ok (.iload_n 0, 1) := by decide +kernel
theorem dX8_isInRun_13 : decode cX8_isInRun 13 = .ok (.invokestatic 75, 3) := by decide +kernel
theorem dX8_isInRun_16 : decode cX8_isInRun 16 = .ok (.ifCond .eq 7, 3) := by decide +kernel
theorem dX8_isInRun_19 : decode cX8_isInRun 19 = .ok (.iconst 1, 1) := by decide +kernel
theorem dX8_isInRun_20 : decode cX8_isInRun 20 = .ok (.goto 4, 3) := by decide +kernel
theorem dX8_isInRun_23 : decode cX8_isInRun 23 = .ok (.iconst 0, 1) := by decide +kernel
theorem dX8_isInRun_24 : decode cX8_isInRun 24 = .ok (.ireturn, 1) := by decide +kernel
theorem dX8_isDigit_0 : decode cX8_isDigit 0 = .ok (.iload_n 0, 1) := by decide +kernel
theorem dX8_isDigit_1 : decode cX8_isDigit 1 = .ok (.bipush 48, 2) := by decide +kernel
theorem dX8_isDigit_3 : decode cX8_isDigit 3 = .ok (.if_icmp .lt 13, 3) := by decide +kernel
theorem dX8_isDigit_6 : decode cX8_isDigit 6 = .ok (.iload_n 0, 1) := by decide +kernel
theorem dX8_isDigit_7 : decode cX8_isDigit 7 = .ok (.bipush 57, 2) := by decide +kernel
theorem dX8_isDigit_9 : decode cX8_isDigit 9 = .ok (.if_icmp .gt 7, 3) := by decide +kernel
theorem dX8_isDigit_12 : decode cX8_isDigit 12 = .ok (.iconst 1, 1) := by decide +kernel
theorem dX8_isDigit_13 : decode cX8_isDigit 13 = .ok (.goto 4, 3) := by decide +kernel
theorem dX8_isDigit_16 : decode cX8_isDigit 16 = .ok (.iconst 0, 1) := by decide +kernel
theorem dX8_isDigit_17 : decode cX8_isDigit 17 = .ok (.ireturn, 1) := by decide +kernel
theorem dX8_signToken_0 : decode cX8_signToken 0 = .ok (.iload_n 0, 1) := by decide +kernel
theorem dX8_signToken_1 : decode cX8_signToken 1 = .ok (.lookupswitch 77 #[(40, 71), (41, 74), (59, 59), (60, 62), (61, 65), (62, 68)], 59) := by decide +kernel
theorem dX8_signToken_60 : decode cX8_signToken 60 = .ok (.bipush 40, 2) := by decide +kernel
theorem dX8_signToken_62 : decode cX8_signToken 62 = .ok (.ireturn, 1) := by decide +kernel
theorem dX8_signToken_63 : decode cX8_signToken 63 = .ok (.bipush 41, 2) := by decide +kernel
theorem dX8_signToken_65 : decode cX8_signToken 65 = .ok (.ireturn, 1) := by decide +kernel
theorem dX8_signToken_66 : decode cX8_signToken 66 = .ok (.bipush 42, 2) := by decide +kernel
theorem dX8_signToken_68 : decode cX8_signToken 68 = .ok (.ireturn, 1) := by decide +kernel
theorem dX8_signToken_69 : decode cX8_signToken 69 = .ok (.bipush 43, 2) := by decide +kernel
theorem dX8_signToken_71 : decode cX8_signToken 71 = .ok (.ireturn, 1) := by decide +kernel
theorem dX8_signToken_72 : decode cX8_signToken 72 = .ok (.bipush 44, 2) := by decide +kernel
theorem dX8_signToken_74 : decode cX8_signToken 74 = .ok (.ireturn, 1) := by decide +kernel
theorem dX8_signToken_75 : decode cX8_signToken 75 = .ok (.bipush 45, 2) := by decide +kernel
theorem dX8_signToken_77 : decode cX8_signToken 77 = .ok (.ireturn, 1) := by decide +kernel
theorem dX8_signToken_78 : decode cX8_signToken 78 = .ok (.bipush 49, 2) := by decide +kernel
theorem dX8_signToken_80 : decode cX8_signToken 80 = .ok (.ireturn, 1) := by decide +kernel
theorem dX0_init_0 : decode cX0_init 0 = .ok (.aload_n 0, 1) := by decide +kernel
theorem dX0_init_1 : decode cX0_init 1 = .ok (.invokespecial 3, 3) := by decide +kernel
theorem dX0_init_4 : decode cX0_init 4 = .ok (.aload_n 0, 1) := by decide +kernel
theorem dX0_init_5 : decode cX0_init 5 = .ok (.aload_n 1, 1) := by decide +kernel
theorem dX0_init_6 : decode cX0_init 6 = .ok (.putfield 9, 3) := by decide +kernel
theorem dX0_init_9 : decode cX0_init 9 = .ok (.aload_n 0, 1) := by decide +kernel
theorem dX0_init_10 : decode cX0_init 10 = .ok (.aload_n 2, 1) := by decide +kernel
theorem dX0_init_11 : decode cX0_init 11 = .ok (.putfield 15, 3) := by decide +kernel
theorem dX0_init_14 : decode cX0_init 14 = .ok (.return_, 1) := by decide +kernel
set_option maxRecDepth 20000 in
theorem ggX0_past_X9_hasFlight : GoodIn wsX0_past wsX9_hasFlight := goodIn_r _ [6, 7, 23, 24, 25, 26, 27, 28, 29, 30, 31, 32, 33, 34, 35, 36] rfl (by decide +kernel)
set_option maxRecDepth 20000 in
theorem gX0_past_X9_hasFlight : GoodIn wsX0_past (wsV RX0 25 RX9 yX9_hasFlight wsX9_hasFlight) := goodIn_app (goodIn_of _ (by decide +kernel)) ggX0_past_X9_hasFlight
set_option maxRecDepth 20000 in
theorem ggX0_past_X9_callRow : GoodIn wsX0_past wsX9_callRow := goodIn_r _ [11, 12, 23, 24, 25, 26, 27, 28, 29, 30, 31, 32, 33, 34, 35, 36] rfl (by decide +kernel)
set_option maxRecDepth 20000 in
theorem gX0_past_X9_callRow : GoodIn wsX0_past (wsV RX0 34 RX9 yX9_callRow wsX9_callRow) := goodIn_app (goodIn_of _ (by decide +kernel)) ggX0_past_X9_callRow
theorem dX0_past_0 : decode cX0_past 0 = .ok (.aload_n 1, 1) := by decide +kernel
theorem dX0_past_1 : decode cX0_past 1 = .ok (.getfield 19, 3) := by decide +kernel
theorem dX0_past_4 : decode cX0_past 4 = .ok (.istore_n 2, 1) := by decide +kernel
theorem dX0_past_5 : decode cX0_past 5 = .ok (.aload_n 0, 1) := by decide +kernel
theorem dX0_past_6 : decode cX0_past 6 = .ok (.getfield 9, 3) := by decide +kernel
theorem dX0_past_9 : decode cX0_past 9 = .ok (.iload_n 2, 1) := by decide +kernel
theorem dX0_past_10 : decode cX0_past 10 = .ok (.invokevirtual 25, 3) := by decide +kernel
theorem dX0_past_13 : decode cX0_past 13 = .ok (.ifCond .ne 5, 3) := by decide +kernel
theorem dX0_past_16 : decode cX0_past 16 = .ok (.iconst 0, 1) := by decide +kernel
theorem dX0_past_17 : decode cX0_past 17 = .ok (.ireturn, 1) := by decide +kernel
theorem dX0_past_18 : decode cX0_past 18 = .ok (.iconst 0, 1) := by decide +kernel
theorem dX0_past_19 : decode cX0_past 19 = .ok (.istore_n 3, 1) := by decide +kernel
theorem dX0_past_20 : decode cX0_past 20 = .ok (.iload_n 3, 1) := by decide +kernel
theorem dX0_past_21 : decode cX0_past 21 = .ok (.aload_n 0, 1) := by decide +kernel
theorem dX0_past_22 : decode cX0_past 22 = .ok (.getfield 9, 3) := by decide +kernel
theorem dX0_past_25 : decode cX0_past 25 = .ok (.getfield 31, 3) := by decide +kernel
theorem dX0_past_28 : decode cX0_past 28 = .ok (.iload_n 2, 1) := by decide +kernel
theorem dX0_past_29 : decode cX0_past 29 = .ok (.aaload, 1) := by decide +kernel
theorem dX0_past_30 : decode cX0_past 30 = .ok (.iconst 2, 1) := by decide +kernel
theorem dX0_past_31 : decode cX0_past 31 = .ok (.iaload, 1) := by decide +kernel
theorem dX0_past_32 : decode cX0_past 32 = .ok (.if_icmp .ge 27, 3) := by decide +kernel
theorem dX0_past_35 : decode cX0_past 35 = .ok (.aload_n 0, 1) := by decide +kernel
theorem dX0_past_36 : decode cX0_past 36 = .ok (.getfield 9, 3) := by decide +kernel
theorem dX0_past_39 : decode cX0_past 39 = .ok (.iload_n 2, 1) := by decide +kernel
theorem dX0_past_40 : decode cX0_past 40 = .ok (.iload_n 3, 1) := by decide +kernel
theorem dX0_past_41 : decode cX0_past 41 = .ok (.invokevirtual 34, 3) := by decide +kernel
theorem dX0_past_44 : decode cX0_past 44 = .ok (.iconst 0, 1) := by decide +kernel
theorem dX0_past_45 : decode cX0_past 45 = .ok (.iaload, 1) := by decide +kernel
theorem dX0_past_46 : decode cX0_past 46 = .ok (.aload_n 1, 1) := by decide +kernel
theorem dX0_past_47 : decode cX0_past 47 = .ok (.getfield 38, 3) := by decide +kernel
theorem dX0_past_50 : decode cX0_past 50 = .ok (.if_icmp .gt 9, 3) := by decide +kernel
theorem dX0_past_53 : decode cX0_past 53 = .ok (.iinc 3 1, 3) := by decide +kernel
theorem dX0_past_56 : decode cX0_past 56 = .ok (.goto (-36), 3) := by decide +kernel
theorem dX0_past_59 : decode cX0_past 59 = .ok (.iload_n 3, 1) := by decide +kernel
theorem dX0_past_60 : decode cX0_past 60 = .ok (.ireturn, 1) := by decide +kernel
theorem dX0_arrive_0 : decode cX0_arrive 0 = .ok (.aload_n 1, 1) := by decide +kernel
theorem dX0_arrive_1 : decode cX0_arrive 1 = .ok (.getfield 19, 3) := by decide +kernel
theorem dX0_arrive_4 : decode cX0_arrive 4 = .ok (.iconst (-1), 1) := by decide +kernel
theorem dX0_arrive_5 : decode cX0_arrive 5 = .ok (.if_icmp .eq 5, 3) := by decide +kernel
theorem dX0_arrive_8 : decode cX0_arrive 8 = .ok (.iconst 1, 1) := by decide +kernel
theorem dX0_arrive_9 : decode cX0_arrive 9 = .ok (.ireturn, 1) := by decide +kernel
theorem dX0_arrive_10 : decode cX0_arrive 10 = .ok (.aload_n 1, 1) := by decide +kernel
theorem dX0_arrive_11 : decode cX0_arrive 11 = .ok (.iload_n 2, 1) := by decide +kernel
theorem dX0_arrive_12 : decode cX0_arrive 12 = .ok (.putfield 19, 3) := by decide +kernel
theorem dX0_arrive_15 : decode cX0_arrive 15 = .ok (.iconst 0, 1) := by decide +kernel
theorem dX0_arrive_16 : decode cX0_arrive 16 = .ok (.ireturn, 1) := by decide +kernel
theorem dX0_passHours_0 : decode cX0_passHours 0 = .ok (.aload_n 1, 1) := by decide +kernel
theorem dX0_passHours_1 : decode cX0_passHours 1 = .ok (.aload_n 1, 1) := by decide +kernel
theorem dX0_passHours_2 : decode cX0_passHours 2 = .ok (.getfield 38, 3) := by decide +kernel
theorem dX0_passHours_5 : decode cX0_passHours 5 = .ok (.iload_n 2, 1) := by decide +kernel
theorem dX0_passHours_6 : decode cX0_passHours 6 = .ok (.iadd, 1) := by decide +kernel
theorem dX0_passHours_7 : decode cX0_passHours 7 = .ok (.bipush 99, 2) := by decide +kernel
theorem dX0_passHours_9 : decode cX0_passHours 9 = .ok (.invokestatic 41, 3) := by decide +kernel
theorem dX0_passHours_12 : decode cX0_passHours 12 = .ok (.putfield 38, 3) := by decide +kernel
theorem dX0_passHours_15 : decode cX0_passHours 15 = .ok (.return_, 1) := by decide +kernel
set_option maxRecDepth 20000 in
theorem ggX0_walk_X0_past : GoodIn wsX0_walk wsX0_past := goodIn_r _ [5, 6, 7, 8, 9, 10, 11, 12, 13, 14, 15, 16, 17, 18, 19, 20, 21, 22, 23, 24, 25, 26, 27, 28, 29, 30, 31, 32, 33, 34, 35, 36, 37, 38, 39, 40, 41] rfl (by decide +kernel)
set_option maxRecDepth 20000 in
theorem gX0_walk_X0_past : GoodIn wsX0_walk (wsV RX0 51 RX0 yX0_past wsX0_past) := goodIn_app (goodIn_of _ (by decide +kernel)) ggX0_walk_X0_past
theorem dX0_walk_0 : decode cX0_walk 0 = .ok (.aload_n 1, 1) := by decide +kernel
theorem dX0_walk_1 : decode cX0_walk 1 = .ok (.getfield 47, 3) := by decide +kernel
theorem dX0_walk_4 : decode cX0_walk 4 = .ok (.iload_n 2, 1) := by decide +kernel
theorem dX0_walk_5 : decode cX0_walk 5 = .ok (.iaload, 1) := by decide +kernel
theorem dX0_walk_6 : decode cX0_walk 6 = .ok (.iload_n 3, 1) := by decide +kernel
theorem dX0_walk_7 : decode cX0_walk 7 = .ok (.if_icmp .ne 5, 3) := by decide +kernel
theorem dX0_walk_10 : decode cX0_walk 10 = .ok (.iconst 1, 1) := by decide +kernel
theorem dX0_walk_11 : decode cX0_walk 11 = .ok (.ireturn, 1) := by decide +kernel
theorem dX0_walk_12 : decode cX0_walk 12 = .ok (.aload_n 0, 1) := by decide +kernel
theorem dX0_walk_13 : decode cX0_walk 13 = .ok (.aload_n 1, 1) := by decide +kernel
theorem dX0_walk_14 : decode cX0_walk 14 = .ok (.invokevirtual 51, 3) := by decide +kernel
theorem dX0_walk_17 : decode cX0_walk 17 = .ok (.ifCond .le 5, 3) := by decide +kernel
theorem dX0_walk_20 : decode cX0_walk 20 = .ok (.iconst 2, 1) := by decide +kernel
theorem dX0_walk_21 : decode cX0_walk 21 = .ok (.ireturn, 1) := by decide +kernel
theorem dX0_walk_22 : decode cX0_walk 22 = .ok (.aload_n 1, 1) := by decide +kernel
theorem dX0_walk_23 : decode cX0_walk 23 = .ok (.getfield 47, 3) := by decide +kernel
theorem dX0_walk_26 : decode cX0_walk 26 = .ok (.iload_n 2, 1) := by decide +kernel
theorem dX0_walk_27 : decode cX0_walk 27 = .ok (.iload_n 3, 1) := by decide +kernel
theorem dX0_walk_28 : decode cX0_walk 28 = .ok (.iastore, 1) := by decide +kernel
theorem dX0_walk_29 : decode cX0_walk 29 = .ok (.iconst 0, 1) := by decide +kernel
theorem dX0_walk_30 : decode cX0_walk 30 = .ok (.ireturn, 1) := by decide +kernel
set_option maxRecDepth 20000 in
theorem ggX0_takeOath_X0_past : GoodIn wsX0_takeOath wsX0_past := goodIn_r _ [5, 6, 7, 8, 9, 10, 11, 12, 13, 14, 15, 16, 17, 18, 19, 20, 21, 22, 23, 24, 25, 26, 27, 28, 29, 30, 31, 32, 33, 34, 35, 36, 37, 38, 39, 40, 41] rfl (by decide +kernel)
set_option maxRecDepth 20000 in
theorem gX0_takeOath_X0_past : GoodIn wsX0_takeOath (wsV RX0 51 RX0 yX0_past wsX0_past) := goodIn_app (goodIn_of _ (by decide +kernel)) ggX0_takeOath_X0_past
theorem dX0_takeOath_0 : decode cX0_takeOath 0 = .ok (.aload_n 1, 1) := by decide +kernel
theorem dX0_takeOath_1 : decode cX0_takeOath 1 = .ok (.getfield 55, 3) := by decide +kernel
theorem dX0_takeOath_4 : decode cX0_takeOath 4 = .ok (.iload_n 2, 1) := by decide +kernel
theorem dX0_takeOath_5 : decode cX0_takeOath 5 = .ok (.iaload, 1) := by decide +kernel
theorem dX0_takeOath_6 : decode cX0_takeOath 6 = .ok (.iconst (-1), 1) := by decide +kernel
theorem dX0_takeOath_7 : decode cX0_takeOath 7 = .ok (.if_icmp .eq 5, 3) := by decide +kernel
theorem dX0_takeOath_10 : decode cX0_takeOath 10 = .ok (.iconst 1, 1) := by decide +kernel
theorem dX0_takeOath_11 : decode cX0_takeOath 11 = .ok (.ireturn, 1) := by decide +kernel
theorem dX0_takeOath_12 : decode cX0_takeOath 12 = .ok (.iload_n 3, 1) := by decide +kernel
theorem dX0_takeOath_13 : decode cX0_takeOath 13 = .ok (.aload_n 0, 1) := by decide +kernel
theorem dX0_takeOath_14 : decode cX0_takeOath 14 = .ok (.aload_n 1, 1) := by decide +kernel
theorem dX0_takeOath_15 : decode cX0_takeOath 15 = .ok (.invokevirtual 51, 3) := by decide +kernel
theorem dX0_takeOath_18 : decode cX0_takeOath 18 = .ok (.if_icmp .lt 5, 3) := by decide +kernel
theorem dX0_takeOath_21 : decode cX0_takeOath 21 = .ok (.iconst 2, 1) := by decide +kernel
theorem dX0_takeOath_22 : decode cX0_takeOath 22 = .ok (.ireturn, 1) := by decide +kernel
theorem dX0_takeOath_23 : decode cX0_takeOath 23 = .ok (.aload_n 1, 1) := by decide +kernel
theorem dX0_takeOath_24 : decode cX0_takeOath 24 = .ok (.getfield 58, 3) := by decide +kernel
theorem dX0_takeOath_27 : decode cX0_takeOath 27 = .ok (.iload_n 2, 1) := by decide +kernel
theorem dX0_takeOath_28 : decode cX0_takeOath 28 = .ok (.iaload, 1) := by decide +kernel
theorem dX0_takeOath_29 : decode cX0_takeOath 29 = .ok (.ifCond .ne 5, 3) := by decide +kernel
theorem dX0_takeOath_32 : decode cX0_takeOath 32 = .ok (.iconst 3, 1) := by decide +kernel
theorem dX0_takeOath_33 : decode cX0_takeOath 33 = .ok (.ireturn, 1) := by decide +kernel
theorem dX0_takeOath_34 : decode cX0_takeOath 34 = .ok (.aload_n 1, 1) := by decide +kernel
theorem dX0_takeOath_35 : decode cX0_takeOath 35 = .ok (.getfield 55, 3) := by decide +kernel
theorem dX0_takeOath_38 : decode cX0_takeOath 38 = .ok (.iload_n 2, 1) := by decide +kernel
theorem dX0_takeOath_39 : decode cX0_takeOath 39 = .ok (.iload_n 3, 1) := by decide +kernel
