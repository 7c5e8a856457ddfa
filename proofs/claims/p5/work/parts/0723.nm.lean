theorem dX12_roll_258 : decode cX12_roll 258 = .ok (.iastore, 1) := by decide +kernel
theorem dX12_roll_259 : decode cX12_roll 259 = .ok (.aload_n 0, 1) := by decide +kernel
theorem dX12_roll_260 : decode cX12_roll 260 = .ok (.getfield 68, 3) := by decide +kernel
theorem dX12_roll_263 : decode cX12_roll 263 = .ok (.iconst 3, 1) := by decide +kernel
theorem dX12_roll_264 : decode cX12_roll 264 = .ok (.aload_n 0, 1) := by decide +kernel
theorem dX12_roll_265 : decode cX12_roll 265 = .ok (.sipush 238, 3) := by decide +kernel
theorem dX12_roll_268 : decode cX12_roll 268 = .ok (.invokevirtual 330, 3) := by decide +kernel
theorem dX12_roll_271 : decode cX12_roll 271 = .ok (.iload_n 2, 1) := by decide +kernel
theorem dX12_roll_272 : decode cX12_roll 272 = .ok (.isub, 1) := by decide +kernel
theorem dX12_roll_273 : decode cX12_roll 273 = .ok (.iastore, 1) := by decide +kernel
theorem dX12_roll_274 : decode cX12_roll 274 = .ok (.aload_n 0, 1) := by decide +kernel
theorem dX12_roll_275 : decode cX12_roll 275 = .ok (.iconst 1, 1) := by decide +kernel
theorem dX12_roll_276 : decode cX12_roll 276 = .ok (.putfield 428, 3) := by decide +kernel
theorem dX12_roll_279 : decode cX12_roll 279 = .ok (.iload_n 1, 1) := by decide +kernel
theorem dX12_roll_280 : decode cX12_roll 280 = .ok (.iconst 1, 1) := by decide +kernel
theorem dX12_roll_281 : decode cX12_roll 281 = .ok (.if_icmp .ne 56, 3) := by decide +kernel
theorem dX12_roll_284 : decode cX12_roll 284 = .ok (.aload_n 0, 1) := by decide +kernel
theorem dX12_roll_285 : decode cX12_roll 285 = .ok (.getfield 68, 3) := by decide +kernel
theorem dX12_roll_288 : decode cX12_roll 288 = .ok (.iconst 1, 1) := by decide +kernel
theorem dX12_roll_289 : decode cX12_roll 289 = .ok (.iaload, 1) := by decide +kernel
theorem dX12_roll_290 : decode cX12_roll 290 = .ok (.ifCond .le 47, 3) := by decide +kernel
theorem dX12_roll_293 : decode cX12_roll 293 = .ok (.aload_n 0, 1) := by decide +kernel
theorem dX12_roll_294 : decode cX12_roll 294 = .ok (.invokevirtual 336, 3) := by decide +kernel
theorem dX12_roll_297 : decode cX12_roll 297 = .ok (.iconst 0, 1) := by decide +kernel
theorem dX12_roll_298 : decode cX12_roll 298 = .ok (.istore 4, 2) := by decide +kernel
theorem dX12_roll_300 : decode cX12_roll 300 = .ok (.iload 4, 2) := by decide +kernel
theorem dX12_roll_302 : decode cX12_roll 302 = .ok (.bipush 35, 2) := by decide +kernel
theorem dX12_roll_304 : decode cX12_roll 304 = .ok (.if_icmp .ge 33, 3) := by decide +kernel
theorem dX12_roll_307 : decode cX12_roll 307 = .ok (.aload_n 0, 1) := by decide +kernel
theorem dX12_roll_308 : decode cX12_roll 308 = .ok (.getfield 62, 3) := by decide +kernel
theorem dX12_roll_311 : decode cX12_roll 311 = .ok (.bipush 35, 2) := by decide +kernel
theorem dX12_roll_313 : decode cX12_roll 313 = .ok (.aload_n 0, 1) := by decide +kernel
theorem dX12_roll_314 : decode cX12_roll 314 = .ok (.getfield 256, 3) := by decide +kernel
theorem dX12_roll_317 : decode cX12_roll 317 = .ok (.iconst 1, 1) := by decide +kernel
theorem dX12_roll_318 : decode cX12_roll 318 = .ok (.isub, 1) := by decide +kernel
theorem dX12_roll_319 : decode cX12_roll 319 = .ok (.imul, 1) := by decide +kernel
theorem dX12_roll_320 : decode cX12_roll 320 = .ok (.iload 4, 2) := by decide +kernel
theorem dX12_roll_322 : decode cX12_roll 322 = .ok (.iadd, 1) := by decide +kernel
theorem dX12_roll_323 : decode cX12_roll 323 = .ok (.aload_n 0, 1) := by decide +kernel
theorem dX12_roll_324 : decode cX12_roll 324 = .ok (.getfield 65, 3) := by decide +kernel
theorem dX12_roll_327 : decode cX12_roll 327 = .ok (.iload 4, 2) := by decide +kernel
theorem dX12_roll_329 : decode cX12_roll 329 = .ok (.iaload, 1) := by decide +kernel
theorem dX12_roll_330 : decode cX12_roll 330 = .ok (.iastore, 1) := by decide +kernel
theorem dX12_roll_331 : decode cX12_roll 331 = .ok (.iinc 4 1, 3) := by decide +kernel
theorem dX12_roll_334 : decode cX12_roll 334 = .ok (.goto (-34), 3) := by decide +kernel
theorem dX12_roll_337 : decode cX12_roll 337 = .ok (.iload_n 1, 1) := by decide +kernel
theorem dX12_roll_338 : decode cX12_roll 338 = .ok (.ifCond .ne 7, 3) := by decide +kernel
theorem dX12_roll_341 : decode cX12_roll 341 = .ok (.aload_n 0, 1) := by decide +kernel
theorem dX12_roll_342 : decode cX12_roll 342 = .ok (.invokevirtual 413, 3) := by decide +kernel
theorem dX12_roll_345 : decode cX12_roll 345 = .ok (.iload_n 3, 1) := by decide +kernel
theorem dX12_roll_346 : decode cX12_roll 346 = .ok (.ireturn, 1) := by decide +kernel
set_option maxRecDepth 20000 in
theorem ggX12_rolled_X12_isIn : GoodIn wsX12_rolled wsX12_isIn := goodIn_r _ [7] rfl (by decide +kernel)
set_option maxRecDepth 20000 in
theorem gX12_rolled_X12_isIn : GoodIn wsX12_rolled (va_wsS RX12 191 yX12_isIn wsX12_isIn) := goodIn_app (goodIn_of _ (by decide +kernel)) ggX12_rolled_X12_isIn
theorem dX12_rolled_0 : decode cX12_rolled 0 = .ok (.aload_n 0, 1) := by decide +kernel
theorem dX12_rolled_1 : decode cX12_rolled 1 = .ok (.iconst 0, 1) := by decide +kernel
theorem dX12_rolled_2 : decode cX12_rolled 2 = .ok (.putfield 1, 3) := by decide +kernel
theorem dX12_rolled_5 : decode cX12_rolled 5 = .ok (.aload_n 0, 1) := by decide +kernel
theorem dX12_rolled_6 : decode cX12_rolled 6 = .ok (.getfield 428, 3) := by decide +kernel
theorem dX12_rolled_9 : decode cX12_rolled 9 = .ok (.ifCond .eq 21, 3) := by decide +kernel
theorem dX12_rolled_12 : decode cX12_rolled 12 = .ok (.iload_n 1, 1) := by decide +kernel
theorem dX12_rolled_13 : decode cX12_rolled 13 = .ok (.iconst 0, 1) := by decide +kernel
theorem dX12_rolled_14 : decode cX12_rolled 14 = .ok (.iconst 3, 1) := by decide +kernel
theorem dX12_rolled_15 : decode cX12_rolled 15 = .ok (.invokestatic 191, 3) := by decide +kernel
theorem dX12_rolled_18 : decode cX12_rolled 18 = .ok (.ifCond .eq 12, 3) := by decide +kernel
theorem dX12_rolled_21 : decode cX12_rolled 21 = .ok (.aload_n 0, 1) := by decide +kernel
theorem dX12_rolled_22 : decode cX12_rolled 22 = .ok (.getfield 68, 3) := by decide +kernel
theorem dX12_rolled_25 : decode cX12_rolled 25 = .ok (.iload_n 1, 1) := by decide +kernel
theorem dX12_rolled_26 : decode cX12_rolled 26 = .ok (.iaload, 1) := by decide +kernel
theorem dX12_rolled_27 : decode cX12_rolled 27 = .ok (.goto 4, 3) := by decide +kernel
theorem dX12_rolled_30 : decode cX12_rolled 30 = .ok (.iconst (-1), 1) := by decide +kernel
theorem dX12_rolled_31 : decode cX12_rolled 31 = .ok (.ireturn, 1) := by decide +kernel
theorem dX12_code_0 : decode cX12_code 0 = .ok (.aload_n 0, 1) := by decide +kernel
theorem dX12_code_1 : decode cX12_code 1 = .ok (.getfield 40, 3) := by decide +kernel
theorem dX12_code_4 : decode cX12_code 4 = .ok (.iconst 3, 1) := by decide +kernel
theorem dX12_code_5 : decode cX12_code 5 = .ok (.aload_n 0, 1) := by decide +kernel
theorem dX12_code_6 : decode cX12_code 6 = .ok (.getfield 431, 3) := by decide +kernel
theorem dX12_code_9 : decode cX12_code 9 = .ok (.imul, 1) := by decide +kernel
theorem dX12_code_10 : decode cX12_code 10 = .ok (.iload_n 1, 1) := by decide +kernel
theorem dX12_code_11 : decode cX12_code 11 = .ok (.iastore, 1) := by decide +kernel
theorem dX12_code_12 : decode cX12_code 12 = .ok (.aload_n 0, 1) := by decide +kernel
theorem dX12_code_13 : decode cX12_code 13 = .ok (.getfield 40, 3) := by decide +kernel
theorem dX12_code_16 : decode cX12_code 16 = .ok (.iconst 3, 1) := by decide +kernel
theorem dX12_code_17 : decode cX12_code 17 = .ok (.aload_n 0, 1) := by decide +kernel
theorem dX12_code_18 : decode cX12_code 18 = .ok (.getfield 431, 3) := by decide +kernel
theorem dX12_code_21 : decode cX12_code 21 = .ok (.imul, 1) := by decide +kernel
theorem dX12_code_22 : decode cX12_code 22 = .ok (.iconst 1, 1) := by decide +kernel
theorem dX12_code_23 : decode cX12_code 23 = .ok (.iadd, 1) := by decide +kernel
theorem dX12_code_24 : decode cX12_code 24 = .ok (.iload_n 2, 1) := by decide +kernel
theorem dX12_code_25 : decode cX12_code 25 = .ok (.iastore, 1) := by decide +kernel
theorem dX12_code_26 : decode cX12_code 26 = .ok (.aload_n 0, 1) := by decide +kernel
theorem dX12_code_27 : decode cX12_code 27 = .ok (.getfield 40, 3) := by decide +kernel
theorem dX12_code_30 : decode cX12_code 30 = .ok (.iconst 3, 1) := by decide +kernel
theorem dX12_code_31 : decode cX12_code 31 = .ok (.aload_n 0, 1) := by decide +kernel
theorem dX12_code_32 : decode cX12_code 32 = .ok (.getfield 431, 3) := by decide +kernel
theorem dX12_code_35 : decode cX12_code 35 = .ok (.imul, 1) := by decide +kernel
theorem dX12_code_36 : decode cX12_code 36 = .ok (.iconst 2, 1) := by decide +kernel
theorem dX12_code_37 : decode cX12_code 37 = .ok (.iadd, 1) := by decide +kernel
theorem dX12_code_38 : decode cX12_code 38 = .ok (.iload_n 3, 1) := by decide +kernel
theorem dX12_code_39 : decode cX12_code 39 = .ok (.iastore, 1) := by decide +kernel
theorem dX12_code_40 : decode cX12_code 40 = .ok (.aload_n 0, 1) := by decide +kernel
theorem dX12_code_41 : decode cX12_code 41 = .ok (.dup, 1) := by decide +kernel
theorem dX12_code_42 : decode cX12_code 42 = .ok (.getfield 431, 3) := by decide +kernel
theorem dX12_code_45 : decode cX12_code 45 = .ok (.iconst 1, 1) := by decide +kernel
theorem dX12_code_46 : decode cX12_code 46 = .ok (.iadd, 1) := by decide +kernel
theorem dX12_code_47 : decode cX12_code 47 = .ok (.putfield 431, 3) := by decide +kernel
theorem dX12_code_50 : decode cX12_code 50 = .ok (.return_, 1) := by decide +kernel
set_option maxRecDepth 20000 in
theorem ggX12_joins_X12_code : GoodIn wsX12_joins wsX12_code := goodIn_r _ [7, 8, 9, 10, 11, 12, 13, 14, 15, 16, 17, 18, 19, 20, 21, 22, 23, 24, 25, 26, 27, 28, 29, 30, 31, 32, 33, 34, 35, 36, 37, 38, 39, 40, 41, 42, 43, 44, 45, 46, 47, 48, 49, 50, 51, 52, 53, 54, 55, 56] rfl (by decide +kernel)
set_option maxRecDepth 20000 in
theorem gX12_joins_X12_code : GoodIn wsX12_joins (wsV RX12 437 RX12 yX12_code wsX12_code) := goodIn_app (goodIn_of _ (by decide +kernel)) ggX12_joins_X12_code
theorem dX12_joins_0 : decode cX12_joins 0 = .ok (.aload_n 0, 1) := by decide +kernel
theorem dX12_joins_1 : decode cX12_joins 1 = .ok (.getfield 434, 3) := by decide +kernel
theorem dX12_joins_4 : decode cX12_joins 4 = .ok (.ifCond .le 69, 3) := by decide +kernel
theorem dX12_joins_7 : decode cX12_joins 7 = .ok (.aload_n 0, 1) := by decide +kernel
theorem dX12_joins_8 : decode cX12_joins 8 = .ok (.getfield 71, 3) := by decide +kernel
theorem dX12_joins_11 : decode cX12_joins 11 = .ok (.aload_n 0, 1) := by decide +kernel
theorem dX12_joins_12 : decode cX12_joins 12 = .ok (.getfield 434, 3) := by decide +kernel
theorem dX12_joins_15 : decode cX12_joins 15 = .ok (.iconst 1, 1) := by decide +kernel
theorem dX12_joins_16 : decode cX12_joins 16 = .ok (.isub, 1) := by decide +kernel
theorem dX12_joins_17 : decode cX12_joins 17 = .ok (.iaload, 1) := by decide +kernel
theorem dX12_joins_18 : decode cX12_joins 18 = .ok (.bipush 21, 2) := by decide +kernel
theorem dX12_joins_20 : decode cX12_joins 20 = .ok (.if_icmp .eq 25, 3) := by decide +kernel
theorem dX12_joins_23 : decode cX12_joins 23 = .ok (.aload_n 0, 1) := by decide +kernel
theorem dX12_joins_24 : decode cX12_joins 24 = .ok (.getfield 71, 3) := by decide +kernel
theorem dX12_joins_27 : decode cX12_joins 27 = .ok (.aload_n 0, 1) := by decide +kernel
theorem dX12_joins_28 : decode cX12_joins 28 = .ok (.getfield 434, 3) := by decide +kernel
theorem dX12_joins_31 : decode cX12_joins 31 = .ok (.iconst 1, 1) := by decide +kernel
theorem dX12_joins_32 : decode cX12_joins 32 = .ok (.isub, 1) := by decide +kernel
theorem dX12_joins_33 : decode cX12_joins 33 = .ok (.iaload, 1) := by decide +kernel
theorem dX12_joins_34 : decode cX12_joins 34 = .ok (.bipush 22, 2) := by decide +kernel
theorem dX12_joins_36 : decode cX12_joins 36 = .ok (.if_icmp .ne 37, 3) := by decide +kernel
theorem dX12_joins_39 : decode cX12_joins 39 = .ok (.iload_n 1, 1) := by decide +kernel
theorem dX12_joins_40 : decode cX12_joins 40 = .ok (.bipush 22, 2) := by decide +kernel
theorem dX12_joins_42 : decode cX12_joins 42 = .ok (.if_icmp .ne 31, 3) := by decide +kernel
theorem dX12_joins_45 : decode cX12_joins 45 = .ok (.aload_n 0, 1) := by decide +kernel
theorem dX12_joins_46 : decode cX12_joins 46 = .ok (.dup, 1) := by decide +kernel
theorem dX12_joins_47 : decode cX12_joins 47 = .ok (.getfield 434, 3) := by decide +kernel
theorem dX12_joins_50 : decode cX12_joins 50 = .ok (.iconst 1, 1) := by decide +kernel
theorem dX12_joins_51 : decode cX12_joins 51 = .ok (.isub, 1) := by decide +kernel
theorem dX12_joins_52 : decode cX12_joins 52 = .ok (.putfield 434, 3) := by decide +kernel
theorem dX12_joins_55 : decode cX12_joins 55 = .ok (.aload_n 0, 1) := by decide +kernel
theorem dX12_joins_56 : decode cX12_joins 56 = .ok (.aload_n 0, 1) := by decide +kernel
theorem dX12_joins_57 : decode cX12_joins 57 = .ok (.getfield 71, 3) := by decide +kernel
theorem dX12_joins_60 : decode cX12_joins 60 = .ok (.aload_n 0, 1) := by decide +kernel
theorem dX12_joins_61 : decode cX12_joins 61 = .ok (.getfield 434, 3) := by decide +kernel
theorem dX12_joins_64 : decode cX12_joins 64 = .ok (.iaload, 1) := by decide +kernel
theorem dX12_joins_65 : decode cX12_joins 65 = .ok (.iconst 0, 1) := by decide +kernel
theorem dX12_joins_66 : decode cX12_joins 66 = .ok (.iconst 0, 1) := by decide +kernel
theorem dX12_joins_67 : decode cX12_joins 67 = .ok (.invokevirtual 437, 3) := by decide +kernel
theorem dX12_joins_70 : decode cX12_joins 70 = .ok (.goto (-70), 3) := by decide +kernel
theorem dX12_joins_73 : decode cX12_joins 73 = .ok (.return_, 1) := by decide +kernel
set_option maxRecDepth 20000 in
theorem ggX12_nots_X12_code : GoodIn wsX12_nots wsX12_code := goodIn_r _ [8, 9, 10, 11, 12, 13, 14, 15, 16, 17, 18, 19, 20, 21, 22, 23, 24, 25, 26, 27, 28, 29, 30, 31, 32, 33, 34, 35, 36, 37, 38, 39, 40, 41, 42, 43, 44, 45, 46, 47, 48, 49, 50, 51, 52, 53, 54, 55, 56, 57] rfl (by decide +kernel)
set_option maxRecDepth 20000 in
theorem gX12_nots_X12_code : GoodIn wsX12_nots (wsV RX12 437 RX12 yX12_code wsX12_code) := goodIn_app (goodIn_of _ (by decide +kernel)) ggX12_nots_X12_code
theorem dX12_nots_0 : decode cX12_nots 0 = .ok (.aload_n 0, 1) := by decide +kernel
theorem dX12_nots_1 : decode cX12_nots 1 = .ok (.getfield 434, 3) := by decide +kernel
theorem dX12_nots_4 : decode cX12_nots 4 = .ok (.ifCond .le 50, 3) := by decide +kernel
theorem dX12_nots_7 : decode cX12_nots 7 = .ok (.aload_n 0, 1) := by decide +kernel
theorem dX12_nots_8 : decode cX12_nots 8 = .ok (.getfield 71, 3) := by decide +kernel
theorem dX12_nots_11 : decode cX12_nots 11 = .ok (.aload_n 0, 1) := by decide +kernel
theorem dX12_nots_12 : decode cX12_nots 12 = .ok (.getfield 434, 3) := by decide +kernel
theorem dX12_nots_15 : decode cX12_nots 15 = .ok (.iconst 1, 1) := by decide +kernel
theorem dX12_nots_16 : decode cX12_nots 16 = .ok (.isub, 1) := by decide +kernel
theorem dX12_nots_17 : decode cX12_nots 17 = .ok (.iaload, 1) := by decide +kernel
theorem dX12_nots_18 : decode cX12_nots 18 = .ok (.bipush 20, 2) := by decide +kernel
theorem dX12_nots_20 : decode cX12_nots 20 = .ok (.if_icmp .ne 34, 3) := by decide +kernel
theorem dX12_nots_23 : decode cX12_nots 23 = .ok (.aload_n 0, 1) := by decide +kernel
theorem dX12_nots_24 : decode cX12_nots 24 = .ok (.dup, 1) := by decide +kernel
theorem dX12_nots_25 : decode cX12_nots 25 = .ok (.getfield 434, 3) := by decide +kernel
theorem dX12_nots_28 : decode cX12_nots 28 = .ok (.iconst 1, 1) := by decide +kernel
theorem dX12_nots_29 : decode cX12_nots 29 = .ok (.isub, 1) := by decide +kernel
theorem dX12_nots_30 : decode cX12_nots 30 = .ok (.putfield 434, 3) := by decide +kernel
theorem dX12_nots_33 : decode cX12_nots 33 = .ok (.aload_n 0, 1) := by decide +kernel
theorem dX12_nots_34 : decode cX12_nots 34 = .ok (.dup, 1) := by decide +kernel
theorem dX12_nots_35 : decode cX12_nots 35 = .ok (.getfield 440, 3) := by decide +kernel
theorem dX12_nots_38 : decode cX12_nots 38 = .ok (.iconst 1, 1) := by decide +kernel
theorem dX12_nots_39 : decode cX12_nots 39 = .ok (.isub, 1) := by decide +kernel
theorem dX12_nots_40 : decode cX12_nots 40 = .ok (.putfield 440, 3) := by decide +kernel
theorem dX12_nots_43 : decode cX12_nots 43 = .ok (.aload_n 0, 1) := by decide +kernel
theorem dX12_nots_44 : decode cX12_nots 44 = .ok (.bipush 20, 2) := by decide +kernel
theorem dX12_nots_46 : decode cX12_nots 46 = .ok (.iconst 0, 1) := by decide +kernel
theorem dX12_nots_47 : decode cX12_nots 47 = .ok (.iconst 0, 1) := by decide +kernel
theorem dX12_nots_48 : decode cX12_nots 48 = .ok (.invokevirtual 437, 3) := by decide +kernel
theorem dX12_nots_51 : decode cX12_nots 51 = .ok (.goto (-51), 3) := by decide +kernel
theorem dX12_nots_54 : decode cX12_nots 54 = .ok (.return_, 1) := by decide +kernel
set_option maxRecDepth 20000 in
theorem ggX12_leafOf_X12_isWord : GoodIn wsX12_leafOf wsX12_isWord := goodIn_r _ [15, 16, 17, 18, 19, 20, 21, 22, 23, 24, 25, 26, 27, 28, 29, 30, 31, 32, 33, 34, 35, 36, 37, 38, 39, 40, 41, 42, 43, 44, 45, 46, 47, 48, 49, 50, 51, 52, 53, 54, 55, 56, 57, 58, 59, 60, 61, 62, 63, 64] rfl (by decide +kernel)
set_option maxRecDepth 20000 in
theorem gX12_leafOf_X12_isWord : GoodIn wsX12_leafOf (wsV RX12 219 RX12 yX12_isWord wsX12_isWord) := goodIn_app (goodIn_of _ (by decide +kernel)) ggX12_leafOf_X12_isWord
theorem dX12_leafOf_0 : decode cX12_leafOf 0 = .ok (.aload_n 0, 1) := by decide +kernel
theorem dX12_leafOf_1 : decode cX12_leafOf 1 = .ok (.ldc2_w 107, 3) := by decide +kernel
theorem dX12_leafOf_4 : decode cX12_leafOf 4 = .ok (.invokevirtual 219, 3) := by decide +kernel
theorem dX12_leafOf_7 : decode cX12_leafOf 7 = .ok (.ifCond .eq 7, 3) := by decide +kernel
theorem dX12_leafOf_10 : decode cX12_leafOf 10 = .ok (.iconst 0, 1) := by decide +kernel
theorem dX12_leafOf_11 : decode cX12_leafOf 11 = .ok (.goto 134, 3) := by decide +kernel
theorem dX12_leafOf_14 : decode cX12_leafOf 14 = .ok (.aload_n 0, 1) := by decide +kernel
theorem dX12_leafOf_15 : decode cX12_leafOf 15 = .ok (.ldc2_w 109, 3) := by decide +kernel
theorem dX12_leafOf_18 : decode cX12_leafOf 18 = .ok (.invokevirtual 219, 3) := by decide +kernel
theorem dX12_leafOf_21 : decode cX12_leafOf 21 = .ok (.ifCond .eq 7, 3) := by decide +kernel
theorem dX12_leafOf_24 : decode cX12_leafOf 24 = .ok (.iconst 1, 1) := by decide +kernel
theorem dX12_leafOf_25 : decode cX12_leafOf 25 = .ok (.goto 120, 3) := by decide +kernel
theorem dX12_leafOf_28 : decode cX12_leafOf 28 = .ok (.aload_n 0, 1) := by decide +kernel
theorem dX12_leafOf_29 : decode cX12_leafOf 29 = .ok (.ldc2_w 133, 3) := by decide +kernel
theorem dX12_leafOf_32 : decode cX12_leafOf 32 = .ok (.invokevirtual 219, 3) := by decide +kernel
theorem dX12_leafOf_35 : decode cX12_leafOf 35 = .ok (.ifCond .eq 7, 3) := by decide +kernel
theorem dX12_leafOf_38 : decode cX12_leafOf 38 = .ok (.iconst 2, 1) := by decide +kernel
theorem dX12_leafOf_39 : decode cX12_leafOf 39 = .ok (.goto 106, 3) := by decide +kernel
theorem dX12_leafOf_42 : decode cX12_leafOf 42 = .ok (.aload_n 0, 1) := by decide +kernel
theorem dX12_leafOf_43 : decode cX12_leafOf 43 = .ok (.ldc2_w 135, 3) := by decide +kernel
theorem dX12_leafOf_46 : decode cX12_leafOf 46 = .ok (.invokevirtual 219, 3) := by decide +kernel
theorem dX12_leafOf_49 : decode cX12_leafOf 49 = .ok (.ifCond .eq 7, 3) := by decide +kernel
theorem dX12_leafOf_52 : decode cX12_leafOf 52 = .ok (.iconst 3, 1) := by decide +kernel
theorem dX12_leafOf_53 : decode cX12_leafOf 53 = .ok (.goto 92, 3) := by decide +kernel
theorem dX12_leafOf_56 : decode cX12_leafOf 56 = .ok (.aload_n 0, 1) := by decide +kernel
theorem dX12_leafOf_57 : decode cX12_leafOf 57 = .ok (.ldc2_w 139, 3) := by decide +kernel
theorem dX12_leafOf_60 : decode cX12_leafOf 60 = .ok (.invokevirtual 219, 3) := by decide +kernel
theorem dX12_leafOf_63 : decode cX12_leafOf 63 = .ok (.ifCond .eq 7, 3) := by decide +kernel
theorem dX12_leafOf_66 : decode cX12_leafOf 66 = .ok (.iconst 4, 1) := by decide +kernel
theorem dX12_leafOf_67 : decode cX12_leafOf 67 = .ok (.goto 78, 3) := by decide +kernel
theorem dX12_leafOf_70 : decode cX12_leafOf 70 = .ok (.aload_n 0, 1) := by decide +kernel
theorem dX12_leafOf_71 : decode cX12_leafOf 71 = .ok (.ldc2_w 137, 3) := by decide +kernel
theorem dX12_leafOf_74 : decode cX12_leafOf 74 = .ok (.invokevirtual 219, 3) := by decide +kernel
theorem dX12_leafOf_77 : decode cX12_leafOf 77 = .ok (.ifCond .eq 7, 3) := by decide +kernel
