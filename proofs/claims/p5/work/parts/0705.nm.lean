theorem dX12_line_302 : decode cX12_line 302 = .ok (.getfield 195, 3) := by decide +kernel
theorem dX12_line_305 : decode cX12_line 305 = .ok (.invokestatic 216, 3) := by decide +kernel
theorem dX12_line_308 : decode cX12_line 308 = .ok (.ifCond .eq 9, 3) := by decide +kernel
theorem dX12_line_311 : decode cX12_line 311 = .ok (.aload_n 0, 1) := by decide +kernel
theorem dX12_line_312 : decode cX12_line 312 = .ok (.iconst 3, 1) := by decide +kernel
theorem dX12_line_313 : decode cX12_line 313 = .ok (.invokevirtual 185, 3) := by decide +kernel
theorem dX12_line_316 : decode cX12_line 316 = .ok (.ireturn, 1) := by decide +kernel
theorem dX12_line_317 : decode cX12_line 317 = .ok (.aload_n 0, 1) := by decide +kernel
theorem dX12_line_318 : decode cX12_line 318 = .ok (.getfield 195, 3) := by decide +kernel
theorem dX12_line_321 : decode cX12_line 321 = .ok (.istore_n 1, 1) := by decide +kernel
theorem dX12_line_322 : decode cX12_line 322 = .ok (.aload_n 0, 1) := by decide +kernel
theorem dX12_line_323 : decode cX12_line 323 = .ok (.dup, 1) := by decide +kernel
theorem dX12_line_324 : decode cX12_line 324 = .ok (.getfield 232, 3) := by decide +kernel
theorem dX12_line_327 : decode cX12_line 327 = .ok (.iconst 1, 1) := by decide +kernel
theorem dX12_line_328 : decode cX12_line 328 = .ok (.iload_n 1, 1) := by decide +kernel
theorem dX12_line_329 : decode cX12_line 329 = .ok (.ishl, 1) := by decide +kernel
theorem dX12_line_330 : decode cX12_line 330 = .ok (.ior, 1) := by decide +kernel
theorem dX12_line_331 : decode cX12_line 331 = .ok (.putfield 232, 3) := by decide +kernel
theorem dX12_line_334 : decode cX12_line 334 = .ok (.aload_n 0, 1) := by decide +kernel
theorem dX12_line_335 : decode cX12_line 335 = .ok (.invokevirtual 188, 3) := by decide +kernel
theorem dX12_line_338 : decode cX12_line 338 = .ok (.aload_n 0, 1) := by decide +kernel
theorem dX12_line_339 : decode cX12_line 339 = .ok (.bipush 23, 2) := by decide +kernel
theorem dX12_line_341 : decode cX12_line 341 = .ok (.iload_n 1, 1) := by decide +kernel
theorem dX12_line_342 : decode cX12_line 342 = .ok (.iadd, 1) := by decide +kernel
theorem dX12_line_343 : decode cX12_line 343 = .ok (.iconst 0, 1) := by decide +kernel
theorem dX12_line_344 : decode cX12_line 344 = .ok (.bipush 9, 2) := by decide +kernel
theorem dX12_line_346 : decode cX12_line 346 = .ok (.invokevirtual 226, 3) := by decide +kernel
theorem dX12_line_349 : decode cX12_line 349 = .ok (.ireturn, 1) := by decide +kernel
theorem dX12_line_350 : decode cX12_line 350 = .ok (.aload_n 0, 1) := by decide +kernel
theorem dX12_line_351 : decode cX12_line 351 = .ok (.ldc2_w 105, 3) := by decide +kernel
theorem dX12_line_354 : decode cX12_line 354 = .ok (.invokevirtual 219, 3) := by decide +kernel
theorem dX12_line_357 : decode cX12_line 357 = .ok (.ifCond .eq 109, 3) := by decide +kernel
theorem dX12_line_360 : decode cX12_line 360 = .ok (.aload_n 0, 1) := by decide +kernel
theorem dX12_line_361 : decode cX12_line 361 = .ok (.getfield 37, 3) := by decide +kernel
theorem dX12_line_364 : decode cX12_line 364 = .ok (.iconst 1, 1) := by decide +kernel
theorem dX12_line_365 : decode cX12_line 365 = .ok (.iaload, 1) := by decide +kernel
theorem dX12_line_366 : decode cX12_line 366 = .ok (.istore_n 1, 1) := by decide +kernel
theorem dX12_line_367 : decode cX12_line 367 = .ok (.iload_n 1, 1) := by decide +kernel
theorem dX12_line_368 : decode cX12_line 368 = .ok (.bipush 8, 2) := by decide +kernel
theorem dX12_line_370 : decode cX12_line 370 = .ok (.if_icmp .ne 9, 3) := by decide +kernel
theorem dX12_line_373 : decode cX12_line 373 = .ok (.aload_n 0, 1) := by decide +kernel
theorem dX12_line_374 : decode cX12_line 374 = .ok (.iconst 4, 1) := by decide +kernel
theorem dX12_line_375 : decode cX12_line 375 = .ok (.invokevirtual 185, 3) := by decide +kernel
theorem dX12_line_378 : decode cX12_line 378 = .ok (.ireturn, 1) := by decide +kernel
theorem dX12_line_379 : decode cX12_line 379 = .ok (.aload_n 0, 1) := by decide +kernel
theorem dX12_line_380 : decode cX12_line 380 = .ok (.invokevirtual 188, 3) := by decide +kernel
theorem dX12_line_383 : decode cX12_line 383 = .ok (.aload_n 0, 1) := by decide +kernel
theorem dX12_line_384 : decode cX12_line 384 = .ok (.bipush 24, 2) := by decide +kernel
theorem dX12_line_386 : decode cX12_line 386 = .ok (.iload_n 1, 1) := by decide +kernel
theorem dX12_line_387 : decode cX12_line 387 = .ok (.iadd, 1) := by decide +kernel
theorem dX12_line_388 : decode cX12_line 388 = .ok (.invokevirtual 229, 3) := by decide +kernel
theorem dX12_line_391 : decode cX12_line 391 = .ok (.ifCond .eq 18, 3) := by decide +kernel
theorem dX12_line_394 : decode cX12_line 394 = .ok (.aload_n 0, 1) := by decide +kernel
theorem dX12_line_395 : decode cX12_line 395 = .ok (.bipush 16, 2) := by decide +kernel
theorem dX12_line_397 : decode cX12_line 397 = .ok (.aload_n 0, 1) := by decide +kernel
theorem dX12_line_398 : decode cX12_line 398 = .ok (.getfield 37, 3) := by decide +kernel
theorem dX12_line_401 : decode cX12_line 401 = .ok (.iconst 0, 1) := by decide +kernel
theorem dX12_line_402 : decode cX12_line 402 = .ok (.iaload, 1) := by decide +kernel
theorem dX12_line_403 : decode cX12_line 403 = .ok (.invokevirtual 235, 3) := by decide +kernel
theorem dX12_line_406 : decode cX12_line 406 = .ok (.ifCond .ne 5, 3) := by decide +kernel
theorem dX12_line_409 : decode cX12_line 409 = .ok (.iconst 0, 1) := by decide +kernel
theorem dX12_line_410 : decode cX12_line 410 = .ok (.ireturn, 1) := by decide +kernel
theorem dX12_line_411 : decode cX12_line 411 = .ok (.aload_n 0, 1) := by decide +kernel
theorem dX12_line_412 : decode cX12_line 412 = .ok (.getfield 37, 3) := by decide +kernel
theorem dX12_line_415 : decode cX12_line 415 = .ok (.bipush 31, 2) := by decide +kernel
theorem dX12_line_417 : decode cX12_line 417 = .ok (.iload_n 1, 1) := by decide +kernel
theorem dX12_line_418 : decode cX12_line 418 = .ok (.iadd, 1) := by decide +kernel
theorem dX12_line_419 : decode cX12_line 419 = .ok (.aload_n 0, 1) := by decide +kernel
theorem dX12_line_420 : decode cX12_line 420 = .ok (.getfield 195, 3) := by decide +kernel
theorem dX12_line_423 : decode cX12_line 423 = .ok (.iastore, 1) := by decide +kernel
theorem dX12_line_424 : decode cX12_line 424 = .ok (.aload_n 0, 1) := by decide +kernel
theorem dX12_line_425 : decode cX12_line 425 = .ok (.bipush 39, 2) := by decide +kernel
theorem dX12_line_427 : decode cX12_line 427 = .ok (.iload_n 1, 1) := by decide +kernel
theorem dX12_line_428 : decode cX12_line 428 = .ok (.iadd, 1) := by decide +kernel
theorem dX12_line_429 : decode cX12_line 429 = .ok (.iconst 0, 1) := by decide +kernel
theorem dX12_line_430 : decode cX12_line 430 = .ok (.bipush 9, 2) := by decide +kernel
theorem dX12_line_432 : decode cX12_line 432 = .ok (.invokevirtual 226, 3) := by decide +kernel
theorem dX12_line_435 : decode cX12_line 435 = .ok (.ifCond .eq 17, 3) := by decide +kernel
theorem dX12_line_438 : decode cX12_line 438 = .ok (.aload_n 0, 1) := by decide +kernel
theorem dX12_line_439 : decode cX12_line 439 = .ok (.bipush 47, 2) := by decide +kernel
theorem dX12_line_441 : decode cX12_line 441 = .ok (.iload_n 1, 1) := by decide +kernel
theorem dX12_line_442 : decode cX12_line 442 = .ok (.iadd, 1) := by decide +kernel
theorem dX12_line_443 : decode cX12_line 443 = .ok (.iconst 0, 1) := by decide +kernel
theorem dX12_line_444 : decode cX12_line 444 = .ok (.bipush 9, 2) := by decide +kernel
theorem dX12_line_446 : decode cX12_line 446 = .ok (.invokevirtual 226, 3) := by decide +kernel
theorem dX12_line_449 : decode cX12_line 449 = .ok (.ifCond .ne 5, 3) := by decide +kernel
theorem dX12_line_452 : decode cX12_line 452 = .ok (.iconst 0, 1) := by decide +kernel
theorem dX12_line_453 : decode cX12_line 453 = .ok (.ireturn, 1) := by decide +kernel
theorem dX12_line_454 : decode cX12_line 454 = .ok (.aload_n 0, 1) := by decide +kernel
theorem dX12_line_455 : decode cX12_line 455 = .ok (.getfield 37, 3) := by decide +kernel
theorem dX12_line_458 : decode cX12_line 458 = .ok (.iconst 1, 1) := by decide +kernel
theorem dX12_line_459 : decode cX12_line 459 = .ok (.dup2, 1) := by decide +kernel
theorem dX12_line_460 : decode cX12_line 460 = .ok (.iaload, 1) := by decide +kernel
theorem dX12_line_461 : decode cX12_line 461 = .ok (.iconst 1, 1) := by decide +kernel
theorem dX12_line_462 : decode cX12_line 462 = .ok (.iadd, 1) := by decide +kernel
theorem dX12_line_463 : decode cX12_line 463 = .ok (.iastore, 1) := by decide +kernel
theorem dX12_line_464 : decode cX12_line 464 = .ok (.iconst 1, 1) := by decide +kernel
theorem dX12_line_465 : decode cX12_line 465 = .ok (.ireturn, 1) := by decide +kernel
theorem dX12_line_466 : decode cX12_line 466 = .ok (.aload_n 0, 1) := by decide +kernel
theorem dX12_line_467 : decode cX12_line 467 = .ok (.ldc2_w 113, 3) := by decide +kernel
theorem dX12_line_470 : decode cX12_line 470 = .ok (.invokevirtual 219, 3) := by decide +kernel
theorem dX12_line_473 : decode cX12_line 473 = .ok (.ifCond .eq 8, 3) := by decide +kernel
theorem dX12_line_476 : decode cX12_line 476 = .ok (.aload_n 0, 1) := by decide +kernel
theorem dX12_line_477 : decode cX12_line 477 = .ok (.invokevirtual 238, 3) := by decide +kernel
theorem dX12_line_480 : decode cX12_line 480 = .ok (.ireturn, 1) := by decide +kernel
theorem dX12_line_481 : decode cX12_line 481 = .ok (.aload_n 0, 1) := by decide +kernel
theorem dX12_line_482 : decode cX12_line 482 = .ok (.invokevirtual 241, 3) := by decide +kernel
theorem dX12_line_485 : decode cX12_line 485 = .ok (.ireturn, 1) := by decide +kernel
set_option maxRecDepth 20000 in
theorem ggX12_ofMan_X12_isWord : GoodIn wsX12_ofMan wsX12_isWord := goodIn_r _ [10, 11, 12, 61, 62, 63, 64, 65, 66, 67, 68, 69, 70, 71, 72, 73, 74, 75, 76, 77, 78, 79, 80, 81, 82, 83, 84, 85, 86, 87, 88, 89, 90, 91, 92, 93, 94, 95, 96, 97, 98, 99, 100, 101, 102, 103, 104, 105, 106, 107] rfl (by decide +kernel)
set_option maxRecDepth 20000 in
theorem gX12_ofMan_X12_isWord : GoodIn wsX12_ofMan (wsV RX12 219 RX12 yX12_isWord wsX12_isWord) := goodIn_app (goodIn_of _ (by decide +kernel)) ggX12_ofMan_X12_isWord
set_option maxRecDepth 20000 in
theorem ggX12_ofMan_X12_bad : GoodIn wsX12_ofMan wsX12_bad := goodIn_r _ [16, 17, 18, 19, 61, 62, 63, 64, 65, 66, 67, 68, 69, 70, 71, 72, 73, 74, 75, 76, 77, 78, 79, 80, 81, 82, 83, 84, 85, 86, 87, 88, 89, 90, 91, 92, 93, 94, 95, 96, 97, 98, 99, 100, 101, 102, 103, 104, 105, 106, 107] rfl (by decide +kernel)
set_option maxRecDepth 20000 in
theorem gX12_ofMan_X12_bad : GoodIn wsX12_ofMan (wsV RX12 185 RX12 yX12_bad wsX12_bad) := goodIn_app (goodIn_of _ (by decide +kernel)) ggX12_ofMan_X12_bad
set_option maxRecDepth 20000 in
theorem ggX12_ofMan_X12_next : GoodIn wsX12_ofMan wsX12_next := goodIn_r _ [23, 24, 18, 25, 26, 27, 11, 28, 12, 29, 30, 31, 9, 32, 33, 34, 35, 36, 37, 38, 39, 61, 62, 63, 64, 65, 66, 67, 68, 69, 70, 71, 72, 73, 74, 75, 76, 77, 78, 79, 80, 81, 82, 83, 84, 85, 86, 87, 88, 89, 90, 91, 92, 93, 94, 95, 96, 97, 98, 99, 100, 101, 102, 103, 104, 105, 106, 107] rfl (by decide +kernel)
set_option maxRecDepth 20000 in
theorem gX12_ofMan_X12_next : GoodIn wsX12_ofMan (wsV RX12 188 RX12 yX12_next wsX12_next) := goodIn_app (goodIn_of _ (by decide +kernel)) ggX12_ofMan_X12_next
set_option maxRecDepth 20000 in
theorem ggX12_ofMan_X12_looksAt : GoodIn wsX12_ofMan wsX12_looksAt := goodIn_r _ [43, 5, 44, 45, 46, 9, 47, 11, 12, 48, 13, 14, 15, 16, 17, 18, 19, 49, 50, 51, 52, 53, 61, 62, 63, 64, 65, 66, 67, 68, 69, 70, 71, 72, 73, 74, 75, 76, 77, 78, 79, 80, 81, 82, 83, 84, 85, 86, 87, 88, 89, 90, 91, 92, 93, 94, 95, 96, 97, 98, 99, 100, 101, 102, 103, 104, 105, 106, 107] rfl (by decide +kernel)
set_option maxRecDepth 20000 in
theorem gX12_ofMan_X12_looksAt : GoodIn wsX12_ofMan (wsV RX12 210 RX12 yX12_looksAt wsX12_looksAt) := goodIn_app (goodIn_of _ (by decide +kernel)) ggX12_ofMan_X12_looksAt
set_option maxRecDepth 20000 in
theorem ggX12_ofMan_X12_takes : GoodIn wsX12_ofMan wsX12_takes := goodIn_r _ [57, 11, 28, 5, 13, 14, 15, 9, 16, 17, 18, 19, 58, 59, 60, 20, 21, 22, 23, 24, 25, 26, 27, 12, 29, 30, 31, 32, 33, 34, 35, 36, 37, 38, 39, 61, 62, 63, 64, 65, 66, 67, 68, 69, 70, 71, 72, 73, 74, 75, 76, 77, 78, 79, 80, 81, 82, 83, 84, 85, 86, 87, 88, 89, 90, 91, 92, 93, 94, 95, 96, 97, 98, 99, 100, 101, 102, 103, 104, 105, 106, 107] rfl (by decide +kernel)
set_option maxRecDepth 20000 in
theorem gX12_ofMan_X12_takes : GoodIn wsX12_ofMan (wsV RX12 198 RX12 yX12_takes wsX12_takes) := goodIn_app (goodIn_of _ (by decide +kernel)) ggX12_ofMan_X12_takes
theorem dX12_ofMan_0 : decode cX12_ofMan 0 = .ok (.aload_n 0, 1) := by decide +kernel
theorem dX12_ofMan_1 : decode cX12_ofMan 1 = .ok (.ldc2_w 107, 3) := by decide +kernel
theorem dX12_ofMan_4 : decode cX12_ofMan 4 = .ok (.invokevirtual 219, 3) := by decide +kernel
theorem dX12_ofMan_7 : decode cX12_ofMan 7 = .ok (.ifCond .eq 7, 3) := by decide +kernel
theorem dX12_ofMan_10 : decode cX12_ofMan 10 = .ok (.iconst 0, 1) := by decide +kernel
theorem dX12_ofMan_11 : decode cX12_ofMan 11 = .ok (.goto 32, 3) := by decide +kernel
theorem dX12_ofMan_14 : decode cX12_ofMan 14 = .ok (.aload_n 0, 1) := by decide +kernel
theorem dX12_ofMan_15 : decode cX12_ofMan 15 = .ok (.ldc2_w 109, 3) := by decide +kernel
theorem dX12_ofMan_18 : decode cX12_ofMan 18 = .ok (.invokevirtual 219, 3) := by decide +kernel
theorem dX12_ofMan_21 : decode cX12_ofMan 21 = .ok (.ifCond .eq 7, 3) := by decide +kernel
theorem dX12_ofMan_24 : decode cX12_ofMan 24 = .ok (.iconst 1, 1) := by decide +kernel
theorem dX12_ofMan_25 : decode cX12_ofMan 25 = .ok (.goto 18, 3) := by decide +kernel
theorem dX12_ofMan_28 : decode cX12_ofMan 28 = .ok (.aload_n 0, 1) := by decide +kernel
theorem dX12_ofMan_29 : decode cX12_ofMan 29 = .ok (.ldc2_w 111, 3) := by decide +kernel
theorem dX12_ofMan_32 : decode cX12_ofMan 32 = .ok (.invokevirtual 219, 3) := by decide +kernel
theorem dX12_ofMan_35 : decode cX12_ofMan 35 = .ok (.ifCond .eq 7, 3) := by decide +kernel
theorem dX12_ofMan_38 : decode cX12_ofMan 38 = .ok (.iconst 2, 1) := by decide +kernel
theorem dX12_ofMan_39 : decode cX12_ofMan 39 = .ok (.goto 4, 3) := by decide +kernel
theorem dX12_ofMan_42 : decode cX12_ofMan 42 = .ok (.iconst (-1), 1) := by decide +kernel
theorem dX12_ofMan_43 : decode cX12_ofMan 43 = .ok (.istore_n 1, 1) := by decide +kernel
theorem dX12_ofMan_44 : decode cX12_ofMan 44 = .ok (.iload_n 1, 1) := by decide +kernel
theorem dX12_ofMan_45 : decode cX12_ofMan 45 = .ok (.ifCond .ge 9, 3) := by decide +kernel
theorem dX12_ofMan_48 : decode cX12_ofMan 48 = .ok (.aload_n 0, 1) := by decide +kernel
theorem dX12_ofMan_49 : decode cX12_ofMan 49 = .ok (.iconst 1, 1) := by decide +kernel
theorem dX12_ofMan_50 : decode cX12_ofMan 50 = .ok (.invokevirtual 185, 3) := by decide +kernel
theorem dX12_ofMan_53 : decode cX12_ofMan 53 = .ok (.ireturn, 1) := by decide +kernel
theorem dX12_ofMan_54 : decode cX12_ofMan 54 = .ok (.aload_n 0, 1) := by decide +kernel
theorem dX12_ofMan_55 : decode cX12_ofMan 55 = .ok (.invokevirtual 188, 3) := by decide +kernel
theorem dX12_ofMan_58 : decode cX12_ofMan 58 = .ok (.aload_n 0, 1) := by decide +kernel
theorem dX12_ofMan_59 : decode cX12_ofMan 59 = .ok (.bipush 24, 2) := by decide +kernel
theorem dX12_ofMan_61 : decode cX12_ofMan 61 = .ok (.aload_n 0, 1) := by decide +kernel
theorem dX12_ofMan_62 : decode cX12_ofMan 62 = .ok (.getfield 37, 3) := by decide +kernel
theorem dX12_ofMan_65 : decode cX12_ofMan 65 = .ok (.iconst 1, 1) := by decide +kernel
theorem dX12_ofMan_66 : decode cX12_ofMan 66 = .ok (.iaload, 1) := by decide +kernel
theorem dX12_ofMan_67 : decode cX12_ofMan 67 = .ok (.invokevirtual 210, 3) := by decide +kernel
theorem dX12_ofMan_70 : decode cX12_ofMan 70 = .ok (.ifCond .ne 5, 3) := by decide +kernel
theorem dX12_ofMan_73 : decode cX12_ofMan 73 = .ok (.iconst 0, 1) := by decide +kernel
theorem dX12_ofMan_74 : decode cX12_ofMan 74 = .ok (.ireturn, 1) := by decide +kernel
theorem dX12_ofMan_75 : decode cX12_ofMan 75 = .ok (.aload_n 0, 1) := by decide +kernel
theorem dX12_ofMan_76 : decode cX12_ofMan 76 = .ok (.getfield 195, 3) := by decide +kernel
theorem dX12_ofMan_79 : decode cX12_ofMan 79 = .ok (.istore_n 2, 1) := by decide +kernel
theorem dX12_ofMan_80 : decode cX12_ofMan 80 = .ok (.aload_n 0, 1) := by decide +kernel
theorem dX12_ofMan_81 : decode cX12_ofMan 81 = .ok (.getfield 37, 3) := by decide +kernel
theorem dX12_ofMan_84 : decode cX12_ofMan 84 = .ok (.iload_n 1, 1) := by decide +kernel
theorem dX12_ofMan_85 : decode cX12_ofMan 85 = .ok (.ifCond .ne 8, 3) := by decide +kernel
theorem dX12_ofMan_88 : decode cX12_ofMan 88 = .ok (.bipush 55, 2) := by decide +kernel
theorem dX12_ofMan_90 : decode cX12_ofMan 90 = .ok (.goto 15, 3) := by decide +kernel
theorem dX12_ofMan_93 : decode cX12_ofMan 93 = .ok (.iload_n 1, 1) := by decide +kernel
theorem dX12_ofMan_94 : decode cX12_ofMan 94 = .ok (.iconst 1, 1) := by decide +kernel
theorem dX12_ofMan_95 : decode cX12_ofMan 95 = .ok (.if_icmp .ne 8, 3) := by decide +kernel
theorem dX12_ofMan_98 : decode cX12_ofMan 98 = .ok (.bipush 63, 2) := by decide +kernel
theorem dX12_ofMan_100 : decode cX12_ofMan 100 = .ok (.goto 5, 3) := by decide +kernel
theorem dX12_ofMan_103 : decode cX12_ofMan 103 = .ok (.bipush 71, 2) := by decide +kernel
theorem dX12_ofMan_105 : decode cX12_ofMan 105 = .ok (.iload_n 2, 1) := by decide +kernel
theorem dX12_ofMan_106 : decode cX12_ofMan 106 = .ok (.iadd, 1) := by decide +kernel
theorem dX12_ofMan_107 : decode cX12_ofMan 107 = .ok (.iaload, 1) := by decide +kernel
theorem dX12_ofMan_108 : decode cX12_ofMan 108 = .ok (.ifCond .le 9, 3) := by decide +kernel
theorem dX12_ofMan_111 : decode cX12_ofMan 111 = .ok (.aload_n 0, 1) := by decide +kernel
theorem dX12_ofMan_112 : decode cX12_ofMan 112 = .ok (.iconst 3, 1) := by decide +kernel
theorem dX12_ofMan_113 : decode cX12_ofMan 113 = .ok (.invokevirtual 185, 3) := by decide +kernel
theorem dX12_ofMan_116 : decode cX12_ofMan 116 = .ok (.ireturn, 1) := by decide +kernel
theorem dX12_ofMan_117 : decode cX12_ofMan 117 = .ok (.aload_n 0, 1) := by decide +kernel
theorem dX12_ofMan_118 : decode cX12_ofMan 118 = .ok (.invokevirtual 188, 3) := by decide +kernel
theorem dX12_ofMan_121 : decode cX12_ofMan 121 = .ok (.iload_n 1, 1) := by decide +kernel
theorem dX12_ofMan_122 : decode cX12_ofMan 122 = .ok (.ifCond .ne 15, 3) := by decide +kernel
theorem dX12_ofMan_125 : decode cX12_ofMan 125 = .ok (.aload_n 0, 1) := by decide +kernel
theorem dX12_ofMan_126 : decode cX12_ofMan 126 = .ok (.getfield 37, 3) := by decide +kernel
theorem dX12_ofMan_129 : decode cX12_ofMan 129 = .ok (.bipush 55, 2) := by decide +kernel
theorem dX12_ofMan_131 : decode cX12_ofMan 131 = .ok (.iload_n 2, 1) := by decide +kernel
theorem dX12_ofMan_132 : decode cX12_ofMan 132 = .ok (.iadd, 1) := by decide +kernel
theorem dX12_ofMan_133 : decode cX12_ofMan 133 = .ok (.iconst 1, 1) := by decide +kernel
theorem dX12_ofMan_134 : decode cX12_ofMan 134 = .ok (.iastore, 1) := by decide +kernel
theorem dX12_ofMan_135 : decode cX12_ofMan 135 = .ok (.iconst 1, 1) := by decide +kernel
theorem dX12_ofMan_136 : decode cX12_ofMan 136 = .ok (.ireturn, 1) := by decide +kernel
theorem dX12_ofMan_137 : decode cX12_ofMan 137 = .ok (.iload_n 1, 1) := by decide +kernel
theorem dX12_ofMan_138 : decode cX12_ofMan 138 = .ok (.iconst 2, 1) := by decide +kernel
theorem dX12_ofMan_139 : decode cX12_ofMan 139 = .ok (.if_icmp .ne 33, 3) := by decide +kernel
theorem dX12_ofMan_142 : decode cX12_ofMan 142 = .ok (.aload_n 0, 1) := by decide +kernel
theorem dX12_ofMan_143 : decode cX12_ofMan 143 = .ok (.iconst 0, 1) := by decide +kernel
theorem dX12_ofMan_144 : decode cX12_ofMan 144 = .ok (.sipush 999, 3) := by decide +kernel
theorem dX12_ofMan_147 : decode cX12_ofMan 147 = .ok (.invokevirtual 198, 3) := by decide +kernel
theorem dX12_ofMan_150 : decode cX12_ofMan 150 = .ok (.ifCond .ne 5, 3) := by decide +kernel
theorem dX12_ofMan_153 : decode cX12_ofMan 153 = .ok (.iconst 0, 1) := by decide +kernel
theorem dX12_ofMan_154 : decode cX12_ofMan 154 = .ok (.ireturn, 1) := by decide +kernel
theorem dX12_ofMan_155 : decode cX12_ofMan 155 = .ok (.aload_n 0, 1) := by decide +kernel
theorem dX12_ofMan_156 : decode cX12_ofMan 156 = .ok (.getfield 37, 3) := by decide +kernel
theorem dX12_ofMan_159 : decode cX12_ofMan 159 = .ok (.bipush 71, 2) := by decide +kernel
theorem dX12_ofMan_161 : decode cX12_ofMan 161 = .ok (.iload_n 2, 1) := by decide +kernel
theorem dX12_ofMan_162 : decode cX12_ofMan 162 = .ok (.iadd, 1) := by decide +kernel
theorem dX12_ofMan_163 : decode cX12_ofMan 163 = .ok (.aload_n 0, 1) := by decide +kernel
theorem dX12_ofMan_164 : decode cX12_ofMan 164 = .ok (.getfield 195, 3) := by decide +kernel
theorem dX12_ofMan_167 : decode cX12_ofMan 167 = .ok (.iconst 1, 1) := by decide +kernel
theorem dX12_ofMan_168 : decode cX12_ofMan 168 = .ok (.iadd, 1) := by decide +kernel
theorem dX12_ofMan_169 : decode cX12_ofMan 169 = .ok (.iastore, 1) := by decide +kernel
theorem dX12_ofMan_170 : decode cX12_ofMan 170 = .ok (.iconst 1, 1) := by decide +kernel
theorem dX12_ofMan_171 : decode cX12_ofMan 171 = .ok (.ireturn, 1) := by decide +kernel
theorem dX12_ofMan_172 : decode cX12_ofMan 172 = .ok (.aload_n 0, 1) := by decide +kernel
theorem dX12_ofMan_173 : decode cX12_ofMan 173 = .ok (.bipush 24, 2) := by decide +kernel
theorem dX12_ofMan_175 : decode cX12_ofMan 175 = .ok (.aload_n 0, 1) := by decide +kernel
theorem dX12_ofMan_176 : decode cX12_ofMan 176 = .ok (.getfield 37, 3) := by decide +kernel
