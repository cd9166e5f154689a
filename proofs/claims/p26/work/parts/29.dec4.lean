theorem dL_areHouses_322 : decode cL_areHouses 322 = .ok (.iconst 3, 1) := by decide +kernel
theorem dL_areHouses_323 : decode cL_areHouses 323 = .ok (.iadd, 1) := by decide +kernel
theorem dL_areHouses_324 : decode cL_areHouses 324 = .ok (.iaload, 1) := by decide +kernel
theorem dL_areHouses_325 : decode cL_areHouses 325 = .ok (.if_icmp .ne 160, 3) := by decide +kernel
theorem dL_areHouses_328 : decode cL_areHouses 328 = .ok (.aload_n 0, 1) := by decide +kernel
theorem dL_areHouses_329 : decode cL_areHouses 329 = .ok (.iload 7, 2) := by decide +kernel
theorem dL_areHouses_331 : decode cL_areHouses 331 = .ok (.bipush 12, 2) := by decide +kernel
theorem dL_areHouses_333 : decode cL_areHouses 333 = .ok (.invokevirtual 36, 3) := by decide +kernel
theorem dL_areHouses_336 : decode cL_areHouses 336 = .ok (.aload 4, 2) := by decide +kernel
theorem dL_areHouses_338 : decode cL_areHouses 338 = .ok (.iconst 2, 1) := by decide +kernel
theorem dL_areHouses_339 : decode cL_areHouses 339 = .ok (.iload 7, 2) := by decide +kernel
theorem dL_areHouses_341 : decode cL_areHouses 341 = .ok (.imul, 1) := by decide +kernel
theorem dL_areHouses_342 : decode cL_areHouses 342 = .ok (.iaload, 1) := by decide +kernel
theorem dL_areHouses_343 : decode cL_areHouses 343 = .ok (.if_icmp .ne 142, 3) := by decide +kernel
theorem dL_areHouses_346 : decode cL_areHouses 346 = .ok (.aload_n 0, 1) := by decide +kernel
theorem dL_areHouses_347 : decode cL_areHouses 347 = .ok (.iload 7, 2) := by decide +kernel
theorem dL_areHouses_349 : decode cL_areHouses 349 = .ok (.bipush 13, 2) := by decide +kernel
theorem dL_areHouses_351 : decode cL_areHouses 351 = .ok (.invokevirtual 36, 3) := by decide +kernel
theorem dL_areHouses_354 : decode cL_areHouses 354 = .ok (.aload 4, 2) := by decide +kernel
theorem dL_areHouses_356 : decode cL_areHouses 356 = .ok (.iconst 2, 1) := by decide +kernel
theorem dL_areHouses_357 : decode cL_areHouses 357 = .ok (.iload 7, 2) := by decide +kernel
theorem dL_areHouses_359 : decode cL_areHouses 359 = .ok (.imul, 1) := by decide +kernel
theorem dL_areHouses_360 : decode cL_areHouses 360 = .ok (.iconst 1, 1) := by decide +kernel
theorem dL_areHouses_361 : decode cL_areHouses 361 = .ok (.iadd, 1) := by decide +kernel
theorem dL_areHouses_362 : decode cL_areHouses 362 = .ok (.iaload, 1) := by decide +kernel
theorem dL_areHouses_363 : decode cL_areHouses 363 = .ok (.if_icmp .ne 122, 3) := by decide +kernel
theorem dL_areHouses_366 : decode cL_areHouses 366 = .ok (.aload_n 0, 1) := by decide +kernel
theorem dL_areHouses_367 : decode cL_areHouses 367 = .ok (.iload 7, 2) := by decide +kernel
theorem dL_areHouses_369 : decode cL_areHouses 369 = .ok (.invokevirtual 43, 3) := by decide +kernel
theorem dL_areHouses_372 : decode cL_areHouses 372 = .ok (.aload_n 2, 1) := by decide +kernel
theorem dL_areHouses_373 : decode cL_areHouses 373 = .ok (.aload 5, 2) := by decide +kernel
theorem dL_areHouses_375 : decode cL_areHouses 375 = .ok (.iload 7, 2) := by decide +kernel
theorem dL_areHouses_377 : decode cL_areHouses 377 = .ok (.invokestatic 29, 3) := by decide +kernel
theorem dL_areHouses_380 : decode cL_areHouses 380 = .ok (.if_icmp .ne 105, 3) := by decide +kernel
theorem dL_areHouses_383 : decode cL_areHouses 383 = .ok (.aload_n 0, 1) := by decide +kernel
theorem dL_areHouses_384 : decode cL_areHouses 384 = .ok (.iload 7, 2) := by decide +kernel
theorem dL_areHouses_386 : decode cL_areHouses 386 = .ok (.iconst 0, 1) := by decide +kernel
theorem dL_areHouses_387 : decode cL_areHouses 387 = .ok (.invokevirtual 47, 3) := by decide +kernel
theorem dL_areHouses_390 : decode cL_areHouses 390 = .ok (.iload 8, 2) := by decide +kernel
theorem dL_areHouses_392 : decode cL_areHouses 392 = .ok (.if_icmp .ne 93, 3) := by decide +kernel
theorem dL_areHouses_395 : decode cL_areHouses 395 = .ok (.aload_n 0, 1) := by decide +kernel
theorem dL_areHouses_396 : decode cL_areHouses 396 = .ok (.iload 7, 2) := by decide +kernel
theorem dL_areHouses_398 : decode cL_areHouses 398 = .ok (.iconst 1, 1) := by decide +kernel
theorem dL_areHouses_399 : decode cL_areHouses 399 = .ok (.invokevirtual 47, 3) := by decide +kernel
theorem dL_areHouses_402 : decode cL_areHouses 402 = .ok (.sipush 1000, 3) := by decide +kernel
theorem dL_areHouses_405 : decode cL_areHouses 405 = .ok (.iload 9, 2) := by decide +kernel
theorem dL_areHouses_407 : decode cL_areHouses 407 = .ok (.iadd, 1) := by decide +kernel
theorem dL_areHouses_408 : decode cL_areHouses 408 = .ok (.if_icmp .ne 77, 3) := by decide +kernel
theorem dL_areHouses_411 : decode cL_areHouses 411 = .ok (.aload_n 0, 1) := by decide +kernel
theorem dL_areHouses_412 : decode cL_areHouses 412 = .ok (.iload 7, 2) := by decide +kernel
theorem dL_areHouses_414 : decode cL_areHouses 414 = .ok (.iconst 2, 1) := by decide +kernel
theorem dL_areHouses_415 : decode cL_areHouses 415 = .ok (.invokevirtual 47, 3) := by decide +kernel
theorem dL_areHouses_418 : decode cL_areHouses 418 = .ok (.iload 9, 2) := by decide +kernel
theorem dL_areHouses_420 : decode cL_areHouses 420 = .ok (.ifCond .le 7, 3) := by decide +kernel
theorem dL_areHouses_423 : decode cL_areHouses 423 = .ok (.iconst 1, 1) := by decide +kernel
theorem dL_areHouses_424 : decode cL_areHouses 424 = .ok (.goto 13, 3) := by decide +kernel
theorem dL_areHouses_427 : decode cL_areHouses 427 = .ok (.iload 9, 2) := by decide +kernel
theorem dL_areHouses_429 : decode cL_areHouses 429 = .ok (.ifCond .ge 7, 3) := by decide +kernel
theorem dL_areHouses_432 : decode cL_areHouses 432 = .ok (.iconst 2, 1) := by decide +kernel
theorem dL_areHouses_433 : decode cL_areHouses 433 = .ok (.goto 4, 3) := by decide +kernel
theorem dL_areHouses_436 : decode cL_areHouses 436 = .ok (.iconst 0, 1) := by decide +kernel
theorem dL_areHouses_437 : decode cL_areHouses 437 = .ok (.if_icmp .ne 48, 3) := by decide +kernel
theorem dL_areHouses_440 : decode cL_areHouses 440 = .ok (.aload_n 0, 1) := by decide +kernel
theorem dL_areHouses_441 : decode cL_areHouses 441 = .ok (.iload 7, 2) := by decide +kernel
theorem dL_areHouses_443 : decode cL_areHouses 443 = .ok (.iconst 3, 1) := by decide +kernel
theorem dL_areHouses_444 : decode cL_areHouses 444 = .ok (.invokevirtual 47, 3) := by decide +kernel
theorem dL_areHouses_447 : decode cL_areHouses 447 = .ok (.iload 8, 2) := by decide +kernel
theorem dL_areHouses_449 : decode cL_areHouses 449 = .ok (.aload 5, 2) := by decide +kernel
theorem dL_areHouses_451 : decode cL_areHouses 451 = .ok (.bipush 11, 2) := by decide +kernel
theorem dL_areHouses_453 : decode cL_areHouses 453 = .ok (.iaload, 1) := by decide +kernel
theorem dL_areHouses_454 : decode cL_areHouses 454 = .ok (.imul, 1) := by decide +kernel
theorem dL_areHouses_455 : decode cL_areHouses 455 = .ok (.if_icmp .ne 30, 3) := by decide +kernel
theorem dL_areHouses_458 : decode cL_areHouses 458 = .ok (.aload_n 0, 1) := by decide +kernel
theorem dL_areHouses_459 : decode cL_areHouses 459 = .ok (.aload_n 1, 1) := by decide +kernel
theorem dL_areHouses_460 : decode cL_areHouses 460 = .ok (.iconst 4, 1) := by decide +kernel
theorem dL_areHouses_461 : decode cL_areHouses 461 = .ok (.iload 7, 2) := by decide +kernel
theorem dL_areHouses_463 : decode cL_areHouses 463 = .ok (.imul, 1) := by decide +kernel
theorem dL_areHouses_464 : decode cL_areHouses 464 = .ok (.iaload, 1) := by decide +kernel
theorem dL_areHouses_465 : decode cL_areHouses 465 = .ok (.aload_n 1, 1) := by decide +kernel
theorem dL_areHouses_466 : decode cL_areHouses 466 = .ok (.iconst 4, 1) := by decide +kernel
theorem dL_areHouses_467 : decode cL_areHouses 467 = .ok (.iload 7, 2) := by decide +kernel
theorem dL_areHouses_469 : decode cL_areHouses 469 = .ok (.imul, 1) := by decide +kernel
theorem dL_areHouses_470 : decode cL_areHouses 470 = .ok (.iconst 1, 1) := by decide +kernel
theorem dL_areHouses_471 : decode cL_areHouses 471 = .ok (.iadd, 1) := by decide +kernel
theorem dL_areHouses_472 : decode cL_areHouses 472 = .ok (.iaload, 1) := by decide +kernel
theorem dL_areHouses_473 : decode cL_areHouses 473 = .ok (.invokevirtual 50, 3) := by decide +kernel
theorem dL_areHouses_476 : decode cL_areHouses 476 = .ok (.iload 7, 2) := by decide +kernel
theorem dL_areHouses_478 : decode cL_areHouses 478 = .ok (.if_icmp .ne 7, 3) := by decide +kernel
theorem dL_areHouses_481 : decode cL_areHouses 481 = .ok (.iconst 1, 1) := by decide +kernel
theorem dL_areHouses_482 : decode cL_areHouses 482 = .ok (.goto 4, 3) := by decide +kernel
theorem dL_areHouses_485 : decode cL_areHouses 485 = .ok (.iconst 0, 1) := by decide +kernel
theorem dL_areHouses_486 : decode cL_areHouses 486 = .ok (.istore 6, 2) := by decide +kernel
theorem dL_areHouses_488 : decode cL_areHouses 488 = .ok (.iinc 7 1, 3) := by decide +kernel
theorem dL_areHouses_491 : decode cL_areHouses 491 = .ok (.goto (-443), 3) := by decide +kernel
theorem dL_areHouses_494 : decode cL_areHouses 494 = .ok (.iload 6, 2) := by decide +kernel
theorem dL_areHouses_496 : decode cL_areHouses 496 = .ok (.ireturn, 1) := by decide +kernel
set_option maxRecDepth 20000 in
theorem ggL_areSums_X6_wronged : GoodIn wsL_areSums wsX6_wronged := goodIn_rB _ [6, 7, 8, 9, 10, 11, 12, 13, 14, 15, 16, 17, 18, 19, 20, 68, 69, 70, 71, 72, 73, 74, 75, 76, 77, 78, 79, 80, 81, 82, 83, 84, 85, 86, 87, 88, 89, 90, 91, 92, 93, 94, 95, 96, 97, 98] (by decide +kernel) (by decide +kernel)
set_option maxRecDepth 20000 in
theorem gL_areSums_X6_wronged : GoodIn wsL_areSums (wsV RL 52 RX6 yX6_wronged wsX6_wronged) := goodIn_app (goodIn_of _ (by decide +kernel)) ggL_areSums_X6_wronged
set_option maxRecDepth 20000 in
theorem ggL_areSums_X6_ledger : GoodIn wsL_areSums wsX6_ledger := goodIn_rB _ [24, 8, 25, 26, 27, 28, 29, 30, 31, 32, 33, 34, 68, 69, 70, 71, 72, 73, 74, 75, 76, 77, 78, 79, 80, 81, 82, 83, 84, 99, 100, 101] (by decide +kernel) (by decide +kernel)
set_option maxRecDepth 20000 in
theorem gL_areSums_X6_ledger : GoodIn wsL_areSums (wsV RL 55 RX6 yX6_ledger wsX6_ledger) := goodIn_app (goodIn_of _ (by decide +kernel)) ggL_areSums_X6_ledger
set_option maxRecDepth 20000 in
theorem ggL_areSums_X6_count : GoodIn wsL_areSums wsX6_count := goodIn_rB _ [38, 39, 40, 8, 41, 42, 43, 12, 44, 45, 14, 46, 47, 48, 49, 50, 51, 52, 53, 54, 55, 56, 57, 58, 59, 15, 60, 61, 62, 63, 64, 65, 66, 67, 68, 69, 70, 71, 102, 103, 104, 105, 106, 107, 108, 109, 110, 111, 112, 113, 114, 72, 73, 74, 75, 76, 77, 78, 79, 80, 81, 82, 83, 84, 99, 100, 101, 85, 86, 87, 88, 89, 90, 91, 92, 93, 94, 95, 96, 97, 98] (by decide +kernel) (by decide +kernel)
set_option maxRecDepth 20000 in
theorem gL_areSums_X6_count : GoodIn wsL_areSums (wsV RL 58 RX6 yX6_count wsX6_count) := goodIn_app (goodIn_of _ (by decide +kernel)) ggL_areSums_X6_count
theorem dL_areSums_0 : decode cL_areSums 0 = .ok (.iconst 0, 1) := by decide +kernel
theorem dL_areSums_1 : decode cL_areSums 1 = .ok (.istore 4, 2) := by decide +kernel
theorem dL_areSums_3 : decode cL_areSums 3 = .ok (.iconst 0, 1) := by decide +kernel
theorem dL_areSums_4 : decode cL_areSums 4 = .ok (.istore 5, 2) := by decide +kernel
theorem dL_areSums_6 : decode cL_areSums 6 = .ok (.iconst 0, 1) := by decide +kernel
theorem dL_areSums_7 : decode cL_areSums 7 = .ok (.istore 6, 2) := by decide +kernel
theorem dL_areSums_9 : decode cL_areSums 9 = .ok (.sipush 10000, 3) := by decide +kernel
theorem dL_areSums_12 : decode cL_areSums 12 = .ok (.istore 7, 2) := by decide +kernel
theorem dL_areSums_14 : decode cL_areSums 14 = .ok (.iconst 1, 1) := by decide +kernel
theorem dL_areSums_15 : decode cL_areSums 15 = .ok (.istore 8, 2) := by decide +kernel
theorem dL_areSums_17 : decode cL_areSums 17 = .ok (.iconst 0, 1) := by decide +kernel
theorem dL_areSums_18 : decode cL_areSums 18 = .ok (.istore 9, 2) := by decide +kernel
theorem dL_areSums_20 : decode cL_areSums 20 = .ok (.iload 9, 2) := by decide +kernel
theorem dL_areSums_22 : decode cL_areSums 22 = .ok (.aload_n 3, 1) := by decide +kernel
theorem dL_areSums_23 : decode cL_areSums 23 = .ok (.iconst 1, 1) := by decide +kernel
theorem dL_areSums_24 : decode cL_areSums 24 = .ok (.iaload, 1) := by decide +kernel
theorem dL_areSums_25 : decode cL_areSums 25 = .ok (.if_icmp .ge 183, 3) := by decide +kernel
theorem dL_areSums_28 : decode cL_areSums 28 = .ok (.iload 4, 2) := by decide +kernel
theorem dL_areSums_30 : decode cL_areSums 30 = .ok (.aload_n 1, 1) := by decide +kernel
theorem dL_areSums_31 : decode cL_areSums 31 = .ok (.iconst 4, 1) := by decide +kernel
theorem dL_areSums_32 : decode cL_areSums 32 = .ok (.iload 9, 2) := by decide +kernel
theorem dL_areSums_34 : decode cL_areSums 34 = .ok (.imul, 1) := by decide +kernel
theorem dL_areSums_35 : decode cL_areSums 35 = .ok (.iconst 2, 1) := by decide +kernel
theorem dL_areSums_36 : decode cL_areSums 36 = .ok (.iadd, 1) := by decide +kernel
theorem dL_areSums_37 : decode cL_areSums 37 = .ok (.iaload, 1) := by decide +kernel
theorem dL_areSums_38 : decode cL_areSums 38 = .ok (.iadd, 1) := by decide +kernel
theorem dL_areSums_39 : decode cL_areSums 39 = .ok (.istore 4, 2) := by decide +kernel
theorem dL_areSums_41 : decode cL_areSums 41 = .ok (.iload 5, 2) := by decide +kernel
theorem dL_areSums_43 : decode cL_areSums 43 = .ok (.aload_n 1, 1) := by decide +kernel
theorem dL_areSums_44 : decode cL_areSums 44 = .ok (.iconst 4, 1) := by decide +kernel
theorem dL_areSums_45 : decode cL_areSums 45 = .ok (.iload 9, 2) := by decide +kernel
theorem dL_areSums_47 : decode cL_areSums 47 = .ok (.imul, 1) := by decide +kernel
theorem dL_areSums_48 : decode cL_areSums 48 = .ok (.iaload, 1) := by decide +kernel
theorem dL_areSums_49 : decode cL_areSums 49 = .ok (.ifCond .le 7, 3) := by decide +kernel
theorem dL_areSums_52 : decode cL_areSums 52 = .ok (.iconst 1, 1) := by decide +kernel
theorem dL_areSums_53 : decode cL_areSums 53 = .ok (.goto 4, 3) := by decide +kernel
theorem dL_areSums_56 : decode cL_areSums 56 = .ok (.iconst 0, 1) := by decide +kernel
theorem dL_areSums_57 : decode cL_areSums 57 = .ok (.iadd, 1) := by decide +kernel
theorem dL_areSums_58 : decode cL_areSums 58 = .ok (.istore 5, 2) := by decide +kernel
theorem dL_areSums_60 : decode cL_areSums 60 = .ok (.iload 6, 2) := by decide +kernel
theorem dL_areSums_62 : decode cL_areSums 62 = .ok (.aload_n 1, 1) := by decide +kernel
theorem dL_areSums_63 : decode cL_areSums 63 = .ok (.iconst 4, 1) := by decide +kernel
theorem dL_areSums_64 : decode cL_areSums 64 = .ok (.iload 9, 2) := by decide +kernel
theorem dL_areSums_66 : decode cL_areSums 66 = .ok (.imul, 1) := by decide +kernel
theorem dL_areSums_67 : decode cL_areSums 67 = .ok (.iaload, 1) := by decide +kernel
theorem dL_areSums_68 : decode cL_areSums 68 = .ok (.ifCond .ge 7, 3) := by decide +kernel
theorem dL_areSums_71 : decode cL_areSums 71 = .ok (.iconst 1, 1) := by decide +kernel
theorem dL_areSums_72 : decode cL_areSums 72 = .ok (.goto 4, 3) := by decide +kernel
theorem dL_areSums_75 : decode cL_areSums 75 = .ok (.iconst 0, 1) := by decide +kernel
theorem dL_areSums_76 : decode cL_areSums 76 = .ok (.iadd, 1) := by decide +kernel
theorem dL_areSums_77 : decode cL_areSums 77 = .ok (.istore 6, 2) := by decide +kernel
theorem dL_areSums_79 : decode cL_areSums 79 = .ok (.iload 7, 2) := by decide +kernel
theorem dL_areSums_81 : decode cL_areSums 81 = .ok (.aload_n 1, 1) := by decide +kernel
theorem dL_areSums_82 : decode cL_areSums 82 = .ok (.iconst 4, 1) := by decide +kernel
theorem dL_areSums_83 : decode cL_areSums 83 = .ok (.iload 9, 2) := by decide +kernel
theorem dL_areSums_85 : decode cL_areSums 85 = .ok (.imul, 1) := by decide +kernel
theorem dL_areSums_86 : decode cL_areSums 86 = .ok (.iaload, 1) := by decide +kernel
theorem dL_areSums_87 : decode cL_areSums 87 = .ok (.iadd, 1) := by decide +kernel
theorem dL_areSums_88 : decode cL_areSums 88 = .ok (.istore 7, 2) := by decide +kernel
theorem dL_areSums_90 : decode cL_areSums 90 = .ok (.iconst 0, 1) := by decide +kernel
theorem dL_areSums_91 : decode cL_areSums 91 = .ok (.istore 10, 2) := by decide +kernel
theorem dL_areSums_93 : decode cL_areSums 93 = .ok (.iconst 0, 1) := by decide +kernel
theorem dL_areSums_94 : decode cL_areSums 94 = .ok (.istore 11, 2) := by decide +kernel
theorem dL_areSums_96 : decode cL_areSums 96 = .ok (.iload 11, 2) := by decide +kernel
theorem dL_areSums_98 : decode cL_areSums 98 = .ok (.aload_n 3, 1) := by decide +kernel
theorem dL_areSums_99 : decode cL_areSums 99 = .ok (.iconst 1, 1) := by decide +kernel
theorem dL_areSums_100 : decode cL_areSums 100 = .ok (.iaload, 1) := by decide +kernel
theorem dL_areSums_101 : decode cL_areSums 101 = .ok (.if_icmp .ge 56, 3) := by decide +kernel
theorem dL_areSums_104 : decode cL_areSums 104 = .ok (.iload 10, 2) := by decide +kernel
theorem dL_areSums_106 : decode cL_areSums 106 = .ok (.aload_n 1, 1) := by decide +kernel
theorem dL_areSums_107 : decode cL_areSums 107 = .ok (.iconst 4, 1) := by decide +kernel
theorem dL_areSums_108 : decode cL_areSums 108 = .ok (.iload 11, 2) := by decide +kernel
theorem dL_areSums_110 : decode cL_areSums 110 = .ok (.imul, 1) := by decide +kernel
theorem dL_areSums_111 : decode cL_areSums 111 = .ok (.iaload, 1) := by decide +kernel
theorem dL_areSums_112 : decode cL_areSums 112 = .ok (.aload_n 1, 1) := by decide +kernel
theorem dL_areSums_113 : decode cL_areSums 113 = .ok (.iconst 4, 1) := by decide +kernel
theorem dL_areSums_114 : decode cL_areSums 114 = .ok (.iload 9, 2) := by decide +kernel
theorem dL_areSums_116 : decode cL_areSums 116 = .ok (.imul, 1) := by decide +kernel
theorem dL_areSums_117 : decode cL_areSums 117 = .ok (.iaload, 1) := by decide +kernel
theorem dL_areSums_118 : decode cL_areSums 118 = .ok (.if_icmp .gt 25, 3) := by decide +kernel
theorem dL_areSums_121 : decode cL_areSums 121 = .ok (.aload_n 1, 1) := by decide +kernel
theorem dL_areSums_122 : decode cL_areSums 122 = .ok (.iconst 4, 1) := by decide +kernel
theorem dL_areSums_123 : decode cL_areSums 123 = .ok (.iload 11, 2) := by decide +kernel
theorem dL_areSums_125 : decode cL_areSums 125 = .ok (.imul, 1) := by decide +kernel
theorem dL_areSums_126 : decode cL_areSums 126 = .ok (.iaload, 1) := by decide +kernel
theorem dL_areSums_127 : decode cL_areSums 127 = .ok (.aload_n 1, 1) := by decide +kernel
theorem dL_areSums_128 : decode cL_areSums 128 = .ok (.iconst 4, 1) := by decide +kernel
theorem dL_areSums_129 : decode cL_areSums 129 = .ok (.iload 9, 2) := by decide +kernel
theorem dL_areSums_131 : decode cL_areSums 131 = .ok (.imul, 1) := by decide +kernel
theorem dL_areSums_132 : decode cL_areSums 132 = .ok (.iaload, 1) := by decide +kernel
theorem dL_areSums_133 : decode cL_areSums 133 = .ok (.if_icmp .ne 14, 3) := by decide +kernel
theorem dL_areSums_136 : decode cL_areSums 136 = .ok (.iload 11, 2) := by decide +kernel
theorem dL_areSums_138 : decode cL_areSums 138 = .ok (.iload 9, 2) := by decide +kernel
theorem dL_areSums_140 : decode cL_areSums 140 = .ok (.if_icmp .ge 7, 3) := by decide +kernel
theorem dL_areSums_143 : decode cL_areSums 143 = .ok (.iconst 1, 1) := by decide +kernel
theorem dL_areSums_144 : decode cL_areSums 144 = .ok (.goto 4, 3) := by decide +kernel
theorem dL_areSums_147 : decode cL_areSums 147 = .ok (.iconst 0, 1) := by decide +kernel
theorem dL_areSums_148 : decode cL_areSums 148 = .ok (.iadd, 1) := by decide +kernel
theorem dL_areSums_149 : decode cL_areSums 149 = .ok (.istore 10, 2) := by decide +kernel
theorem dL_areSums_151 : decode cL_areSums 151 = .ok (.iinc 11 1, 3) := by decide +kernel
theorem dL_areSums_154 : decode cL_areSums 154 = .ok (.goto (-58), 3) := by decide +kernel
theorem dL_areSums_157 : decode cL_areSums 157 = .ok (.iload 8, 2) := by decide +kernel
theorem dL_areSums_159 : decode cL_areSums 159 = .ok (.ifCond .eq 40, 3) := by decide +kernel
theorem dL_areSums_162 : decode cL_areSums 162 = .ok (.aload_n 0, 1) := by decide +kernel
theorem dL_areSums_163 : decode cL_areSums 163 = .ok (.iload 10, 2) := by decide +kernel
theorem dL_areSums_165 : decode cL_areSums 165 = .ok (.invokevirtual 52, 3) := by decide +kernel
theorem dL_areSums_168 : decode cL_areSums 168 = .ok (.iload 9, 2) := by decide +kernel
theorem dL_areSums_170 : decode cL_areSums 170 = .ok (.if_icmp .ne 29, 3) := by decide +kernel
theorem dL_areSums_173 : decode cL_areSums 173 = .ok (.aload_n 1, 1) := by decide +kernel
theorem dL_areSums_174 : decode cL_areSums 174 = .ok (.iconst 4, 1) := by decide +kernel
theorem dL_areSums_175 : decode cL_areSums 175 = .ok (.iload 9, 2) := by decide +kernel
theorem dL_areSums_177 : decode cL_areSums 177 = .ok (.imul, 1) := by decide +kernel
theorem dL_areSums_178 : decode cL_areSums 178 = .ok (.iaload, 1) := by decide +kernel
theorem dL_areSums_179 : decode cL_areSums 179 = .ok (.bipush (-100), 2) := by decide +kernel
theorem dL_areSums_181 : decode cL_areSums 181 = .ok (.if_icmp .le 18, 3) := by decide +kernel
theorem dL_areSums_184 : decode cL_areSums 184 = .ok (.aload_n 1, 1) := by decide +kernel
theorem dL_areSums_185 : decode cL_areSums 185 = .ok (.iconst 4, 1) := by decide +kernel
theorem dL_areSums_186 : decode cL_areSums 186 = .ok (.iload 9, 2) := by decide +kernel
theorem dL_areSums_188 : decode cL_areSums 188 = .ok (.imul, 1) := by decide +kernel
theorem dL_areSums_189 : decode cL_areSums 189 = .ok (.iaload, 1) := by decide +kernel
theorem dL_areSums_190 : decode cL_areSums 190 = .ok (.bipush 100, 2) := by decide +kernel
theorem dL_areSums_192 : decode cL_areSums 192 = .ok (.if_icmp .ge 7, 3) := by decide +kernel
theorem dL_areSums_195 : decode cL_areSums 195 = .ok (.iconst 1, 1) := by decide +kernel
theorem dL_areSums_196 : decode cL_areSums 196 = .ok (.goto 4, 3) := by decide +kernel
theorem dL_areSums_199 : decode cL_areSums 199 = .ok (.iconst 0, 1) := by decide +kernel
theorem dL_areSums_200 : decode cL_areSums 200 = .ok (.istore 8, 2) := by decide +kernel
theorem dL_areSums_202 : decode cL_areSums 202 = .ok (.iinc 9 1, 3) := by decide +kernel
theorem dL_areSums_205 : decode cL_areSums 205 = .ok (.goto (-185), 3) := by decide +kernel
theorem dL_areSums_208 : decode cL_areSums 208 = .ok (.iconst 0, 1) := by decide +kernel
theorem dL_areSums_209 : decode cL_areSums 209 = .ok (.istore 9, 2) := by decide +kernel
theorem dL_areSums_211 : decode cL_areSums 211 = .ok (.iload 9, 2) := by decide +kernel
theorem dL_areSums_213 : decode cL_areSums 213 = .ok (.bipush 60, 2) := by decide +kernel
theorem dL_areSums_215 : decode cL_areSums 215 = .ok (.if_icmp .ge 59, 3) := by decide +kernel
theorem dL_areSums_218 : decode cL_areSums 218 = .ok (.iload 8, 2) := by decide +kernel
theorem dL_areSums_220 : decode cL_areSums 220 = .ok (.ifCond .eq 45, 3) := by decide +kernel
theorem dL_areSums_223 : decode cL_areSums 223 = .ok (.aload_n 0, 1) := by decide +kernel
theorem dL_areSums_224 : decode cL_areSums 224 = .ok (.iload 9, 2) := by decide +kernel
theorem dL_areSums_226 : decode cL_areSums 226 = .ok (.bipush 6, 2) := by decide +kernel
theorem dL_areSums_228 : decode cL_areSums 228 = .ok (.idiv, 1) := by decide +kernel
theorem dL_areSums_229 : decode cL_areSums 229 = .ok (.iload 9, 2) := by decide +kernel
theorem dL_areSums_231 : decode cL_areSums 231 = .ok (.bipush 6, 2) := by decide +kernel
theorem dL_areSums_233 : decode cL_areSums 233 = .ok (.irem, 1) := by decide +kernel
theorem dL_areSums_234 : decode cL_areSums 234 = .ok (.invokevirtual 55, 3) := by decide +kernel
theorem dL_areSums_237 : decode cL_areSums 237 = .ok (.iload 9, 2) := by decide +kernel
theorem dL_areSums_239 : decode cL_areSums 239 = .ok (.bipush 6, 2) := by decide +kernel
theorem dL_areSums_241 : decode cL_areSums 241 = .ok (.idiv, 1) := by decide +kernel
theorem dL_areSums_242 : decode cL_areSums 242 = .ok (.aload_n 3, 1) := by decide +kernel
theorem dL_areSums_243 : decode cL_areSums 243 = .ok (.bipush 9, 2) := by decide +kernel
theorem dL_areSums_245 : decode cL_areSums 245 = .ok (.iaload, 1) := by decide +kernel
theorem dL_areSums_246 : decode cL_areSums 246 = .ok (.if_icmp .ge 10, 3) := by decide +kernel
theorem dL_areSums_249 : decode cL_areSums 249 = .ok (.aload_n 2, 1) := by decide +kernel
theorem dL_areSums_250 : decode cL_areSums 250 = .ok (.iload 9, 2) := by decide +kernel
theorem dL_areSums_252 : decode cL_areSums 252 = .ok (.iaload, 1) := by decide +kernel
theorem dL_areSums_253 : decode cL_areSums 253 = .ok (.goto 5, 3) := by decide +kernel
theorem dL_areSums_256 : decode cL_areSums 256 = .ok (.ldc 46, 2) := by decide +kernel
theorem dL_areSums_258 : decode cL_areSums 258 = .ok (.if_icmp .ne 7, 3) := by decide +kernel
theorem dL_areSums_261 : decode cL_areSums 261 = .ok (.iconst 1, 1) := by decide +kernel
theorem dL_areSums_262 : decode cL_areSums 262 = .ok (.goto 4, 3) := by decide +kernel
theorem dL_areSums_265 : decode cL_areSums 265 = .ok (.iconst 0, 1) := by decide +kernel
theorem dL_areSums_266 : decode cL_areSums 266 = .ok (.istore 8, 2) := by decide +kernel
theorem dL_areSums_268 : decode cL_areSums 268 = .ok (.iinc 9 1, 3) := by decide +kernel
theorem dL_areSums_271 : decode cL_areSums 271 = .ok (.goto (-60), 3) := by decide +kernel
theorem dL_areSums_274 : decode cL_areSums 274 = .ok (.iconst 0, 1) := by decide +kernel
theorem dL_areSums_275 : decode cL_areSums 275 = .ok (.istore 9, 2) := by decide +kernel
theorem dL_areSums_277 : decode cL_areSums 277 = .ok (.iload 9, 2) := by decide +kernel
theorem dL_areSums_279 : decode cL_areSums 279 = .ok (.bipush 9, 2) := by decide +kernel
theorem dL_areSums_281 : decode cL_areSums 281 = .ok (.if_icmp .ge 78, 3) := by decide +kernel
theorem dL_areSums_284 : decode cL_areSums 284 = .ok (.iload 8, 2) := by decide +kernel
theorem dL_areSums_286 : decode cL_areSums 286 = .ok (.ifCond .eq 64, 3) := by decide +kernel
theorem dL_areSums_289 : decode cL_areSums 289 = .ok (.iload 9, 2) := by decide +kernel
theorem dL_areSums_291 : decode cL_areSums 291 = .ok (.iconst 2, 1) := by decide +kernel
theorem dL_areSums_292 : decode cL_areSums 292 = .ok (.if_icmp .eq 29, 3) := by decide +kernel
theorem dL_areSums_295 : decode cL_areSums 295 = .ok (.aload_n 0, 1) := by decide +kernel
theorem dL_areSums_296 : decode cL_areSums 296 = .ok (.iload 9, 2) := by decide +kernel
theorem dL_areSums_298 : decode cL_areSums 298 = .ok (.invokevirtual 58, 3) := by decide +kernel
theorem dL_areSums_301 : decode cL_areSums 301 = .ok (.aload_n 3, 1) := by decide +kernel
theorem dL_areSums_302 : decode cL_areSums 302 = .ok (.iload 9, 2) := by decide +kernel
theorem dL_areSums_304 : decode cL_areSums 304 = .ok (.iconst 2, 1) := by decide +kernel
theorem dL_areSums_305 : decode cL_areSums 305 = .ok (.if_icmp .ge 8, 3) := by decide +kernel
theorem dL_areSums_308 : decode cL_areSums 308 = .ok (.iload 9, 2) := by decide +kernel
theorem dL_areSums_310 : decode cL_areSums 310 = .ok (.goto 7, 3) := by decide +kernel
theorem dL_areSums_313 : decode cL_areSums 313 = .ok (.iload 9, 2) := by decide +kernel
theorem dL_areSums_315 : decode cL_areSums 315 = .ok (.iconst 1, 1) := by decide +kernel
theorem dL_areSums_316 : decode cL_areSums 316 = .ok (.isub, 1) := by decide +kernel
theorem dL_areSums_317 : decode cL_areSums 317 = .ok (.iaload, 1) := by decide +kernel
theorem dL_areSums_318 : decode cL_areSums 318 = .ok (.if_icmp .ne 32, 3) := by decide +kernel
theorem dL_areSums_321 : decode cL_areSums 321 = .ok (.iload 9, 2) := by decide +kernel
theorem dL_areSums_323 : decode cL_areSums 323 = .ok (.iconst 3, 1) := by decide +kernel
theorem dL_areSums_324 : decode cL_areSums 324 = .ok (.if_icmp .gt 22, 3) := by decide +kernel
theorem dL_areSums_327 : decode cL_areSums 327 = .ok (.aload_n 0, 1) := by decide +kernel
theorem dL_areSums_328 : decode cL_areSums 328 = .ok (.bipush 20, 2) := by decide +kernel
theorem dL_areSums_330 : decode cL_areSums 330 = .ok (.iload 9, 2) := by decide +kernel
theorem dL_areSums_332 : decode cL_areSums 332 = .ok (.iadd, 1) := by decide +kernel
theorem dL_areSums_333 : decode cL_areSums 333 = .ok (.invokevirtual 58, 3) := by decide +kernel
theorem dL_areSums_336 : decode cL_areSums 336 = .ok (.aload_n 3, 1) := by decide +kernel
theorem dL_areSums_337 : decode cL_areSums 337 = .ok (.bipush 10, 2) := by decide +kernel
theorem dL_areSums_339 : decode cL_areSums 339 = .ok (.iload 9, 2) := by decide +kernel
theorem dL_areSums_341 : decode cL_areSums 341 = .ok (.iadd, 1) := by decide +kernel
theorem dL_areSums_342 : decode cL_areSums 342 = .ok (.iaload, 1) := by decide +kernel
theorem dL_areSums_343 : decode cL_areSums 343 = .ok (.if_icmp .ne 7, 3) := by decide +kernel
theorem dL_areSums_346 : decode cL_areSums 346 = .ok (.iconst 1, 1) := by decide +kernel
theorem dL_areSums_347 : decode cL_areSums 347 = .ok (.goto 4, 3) := by decide +kernel
theorem dL_areSums_350 : decode cL_areSums 350 = .ok (.iconst 0, 1) := by decide +kernel
theorem dL_areSums_351 : decode cL_areSums 351 = .ok (.istore 8, 2) := by decide +kernel
theorem dL_areSums_353 : decode cL_areSums 353 = .ok (.iinc 9 1, 3) := by decide +kernel
theorem dL_areSums_356 : decode cL_areSums 356 = .ok (.goto (-79), 3) := by decide +kernel
theorem dL_areSums_359 : decode cL_areSums 359 = .ok (.iload 8, 2) := by decide +kernel
theorem dL_areSums_361 : decode cL_areSums 361 = .ok (.ifCond .eq 99, 3) := by decide +kernel
theorem dL_areSums_364 : decode cL_areSums 364 = .ok (.aload_n 0, 1) := by decide +kernel
theorem dL_areSums_365 : decode cL_areSums 365 = .ok (.iconst 2, 1) := by decide +kernel
theorem dL_areSums_366 : decode cL_areSums 366 = .ok (.invokevirtual 58, 3) := by decide +kernel
theorem dL_areSums_369 : decode cL_areSums 369 = .ok (.iload 4, 2) := by decide +kernel
theorem dL_areSums_371 : decode cL_areSums 371 = .ok (.if_icmp .ne 89, 3) := by decide +kernel
theorem dL_areSums_374 : decode cL_areSums 374 = .ok (.aload_n 0, 1) := by decide +kernel
theorem dL_areSums_375 : decode cL_areSums 375 = .ok (.bipush 9, 2) := by decide +kernel
theorem dL_areSums_377 : decode cL_areSums 377 = .ok (.invokevirtual 58, 3) := by decide +kernel
theorem dL_areSums_380 : decode cL_areSums 380 = .ok (.iload 5, 2) := by decide +kernel
theorem dL_areSums_382 : decode cL_areSums 382 = .ok (.if_icmp .ne 78, 3) := by decide +kernel
theorem dL_areSums_385 : decode cL_areSums 385 = .ok (.aload_n 0, 1) := by decide +kernel
theorem dL_areSums_386 : decode cL_areSums 386 = .ok (.bipush 10, 2) := by decide +kernel
theorem dL_areSums_388 : decode cL_areSums 388 = .ok (.invokevirtual 58, 3) := by decide +kernel
theorem dL_areSums_391 : decode cL_areSums 391 = .ok (.iload 6, 2) := by decide +kernel
theorem dL_areSums_393 : decode cL_areSums 393 = .ok (.if_icmp .ne 67, 3) := by decide +kernel
theorem dL_areSums_396 : decode cL_areSums 396 = .ok (.aload_n 0, 1) := by decide +kernel
theorem dL_areSums_397 : decode cL_areSums 397 = .ok (.bipush 11, 2) := by decide +kernel
theorem dL_areSums_399 : decode cL_areSums 399 = .ok (.invokevirtual 58, 3) := by decide +kernel
theorem dL_areSums_402 : decode cL_areSums 402 = .ok (.iload 7, 2) := by decide +kernel
theorem dL_areSums_404 : decode cL_areSums 404 = .ok (.if_icmp .ne 56, 3) := by decide +kernel
theorem dL_areSums_407 : decode cL_areSums 407 = .ok (.aload_n 0, 1) := by decide +kernel
theorem dL_areSums_408 : decode cL_areSums 408 = .ok (.bipush 12, 2) := by decide +kernel
theorem dL_areSums_410 : decode cL_areSums 410 = .ok (.invokevirtual 58, 3) := by decide +kernel
theorem dL_areSums_413 : decode cL_areSums 413 = .ok (.iload 7, 2) := by decide +kernel
theorem dL_areSums_415 : decode cL_areSums 415 = .ok (.if_icmp .ne 45, 3) := by decide +kernel
theorem dL_areSums_418 : decode cL_areSums 418 = .ok (.aload_n 0, 1) := by decide +kernel
theorem dL_areSums_419 : decode cL_areSums 419 = .ok (.bipush 13, 2) := by decide +kernel
theorem dL_areSums_421 : decode cL_areSums 421 = .ok (.invokevirtual 58, 3) := by decide +kernel
theorem dL_areSums_424 : decode cL_areSums 424 = .ok (.aload_n 3, 1) := by decide +kernel
theorem dL_areSums_425 : decode cL_areSums 425 = .ok (.bipush 8, 2) := by decide +kernel
theorem dL_areSums_427 : decode cL_areSums 427 = .ok (.iaload, 1) := by decide +kernel
theorem dL_areSums_428 : decode cL_areSums 428 = .ok (.if_icmp .ne 32, 3) := by decide +kernel
theorem dL_areSums_431 : decode cL_areSums 431 = .ok (.aload_n 0, 1) := by decide +kernel
theorem dL_areSums_432 : decode cL_areSums 432 = .ok (.bipush 14, 2) := by decide +kernel
theorem dL_areSums_434 : decode cL_areSums 434 = .ok (.invokevirtual 58, 3) := by decide +kernel
theorem dL_areSums_437 : decode cL_areSums 437 = .ok (.aload_n 3, 1) := by decide +kernel
theorem dL_areSums_438 : decode cL_areSums 438 = .ok (.bipush 9, 2) := by decide +kernel
theorem dL_areSums_440 : decode cL_areSums 440 = .ok (.iaload, 1) := by decide +kernel
theorem dL_areSums_441 : decode cL_areSums 441 = .ok (.if_icmp .ne 19, 3) := by decide +kernel
theorem dL_areSums_444 : decode cL_areSums 444 = .ok (.aload_n 0, 1) := by decide +kernel
theorem dL_areSums_445 : decode cL_areSums 445 = .ok (.aload_n 3, 1) := by decide +kernel
theorem dL_areSums_446 : decode cL_areSums 446 = .ok (.iconst 1, 1) := by decide +kernel
theorem dL_areSums_447 : decode cL_areSums 447 = .ok (.iaload, 1) := by decide +kernel
theorem dL_areSums_448 : decode cL_areSums 448 = .ok (.invokevirtual 52, 3) := by decide +kernel
theorem dL_areSums_451 : decode cL_areSums 451 = .ok (.ldc 46, 2) := by decide +kernel
theorem dL_areSums_453 : decode cL_areSums 453 = .ok (.if_icmp .ne 7, 3) := by decide +kernel
theorem dL_areSums_456 : decode cL_areSums 456 = .ok (.iconst 1, 1) := by decide +kernel
theorem dL_areSums_457 : decode cL_areSums 457 = .ok (.goto 4, 3) := by decide +kernel
theorem dL_areSums_460 : decode cL_areSums 460 = .ok (.iconst 0, 1) := by decide +kernel
theorem dL_areSums_461 : decode cL_areSums 461 = .ok (.ireturn, 1) := by decide +kernel
set_option maxRecDepth 20000 in
theorem ggL_areRounds_X6_next : GoodIn wsL_areRounds wsX6_next := goodIn_rB _ [7, 8, 9, 10, 11, 12, 13, 14, 15, 16, 17, 18, 19, 20, 21, 22, 23, 24, 25, 26, 27, 28, 29, 30, 31, 39, 40, 41, 42, 43, 44, 45, 46, 47, 48, 49, 50, 51, 52, 53, 54, 55, 56, 57] (by decide +kernel) (by decide +kernel)
set_option maxRecDepth 20000 in
theorem gL_areRounds_X6_next : GoodIn wsL_areRounds (wsV RL 61 RX6 yX6_next wsX6_next) := goodIn_app (goodIn_of _ (by decide +kernel)) ggL_areRounds_X6_next
set_option maxRecDepth 20000 in
theorem ggL_areRounds_L_round : GoodIn wsL_areRounds wsL_round := goodIn_rB _ [35, 36, 37, 34, 38] (by decide +kernel) (by decide +kernel)
set_option maxRecDepth 20000 in
theorem gL_areRounds_L_round : GoodIn wsL_areRounds (va_wsS RL 25 yL_round wsL_round) := goodIn_app (goodIn_of _ (by decide +kernel)) ggL_areRounds_L_round
theorem dL_areRounds_0 : decode cL_areRounds 0 = .ok (.aload_n 0, 1) := by decide +kernel
theorem dL_areRounds_1 : decode cL_areRounds 1 = .ok (.iconst 4, 1) := by decide +kernel
theorem dL_areRounds_2 : decode cL_areRounds 2 = .ok (.iconst 0, 1) := by decide +kernel
theorem dL_areRounds_3 : decode cL_areRounds 3 = .ok (.invokevirtual 61, 3) := by decide +kernel
theorem dL_areRounds_6 : decode cL_areRounds 6 = .ok (.ldc 42, 2) := by decide +kernel
theorem dL_areRounds_8 : decode cL_areRounds 8 = .ok (.if_icmp .ne 18, 3) := by decide +kernel
theorem dL_areRounds_11 : decode cL_areRounds 11 = .ok (.aload_n 0, 1) := by decide +kernel
theorem dL_areRounds_12 : decode cL_areRounds 12 = .ok (.iconst 0, 1) := by decide +kernel
theorem dL_areRounds_13 : decode cL_areRounds 13 = .ok (.iconst (-1), 1) := by decide +kernel
theorem dL_areRounds_14 : decode cL_areRounds 14 = .ok (.invokevirtual 61, 3) := by decide +kernel
theorem dL_areRounds_17 : decode cL_areRounds 17 = .ok (.ldc 42, 2) := by decide +kernel
theorem dL_areRounds_19 : decode cL_areRounds 19 = .ok (.if_icmp .ne 7, 3) := by decide +kernel
theorem dL_areRounds_22 : decode cL_areRounds 22 = .ok (.iconst 1, 1) := by decide +kernel
theorem dL_areRounds_23 : decode cL_areRounds 23 = .ok (.goto 4, 3) := by decide +kernel
theorem dL_areRounds_26 : decode cL_areRounds 26 = .ok (.iconst 0, 1) := by decide +kernel
theorem dL_areRounds_27 : decode cL_areRounds 27 = .ok (.istore 4, 2) := by decide +kernel
theorem dL_areRounds_29 : decode cL_areRounds 29 = .ok (.iconst 0, 1) := by decide +kernel
theorem dL_areRounds_30 : decode cL_areRounds 30 = .ok (.istore 5, 2) := by decide +kernel
theorem dL_areRounds_32 : decode cL_areRounds 32 = .ok (.iload 5, 2) := by decide +kernel
theorem dL_areRounds_34 : decode cL_areRounds 34 = .ok (.iconst 4, 1) := by decide +kernel
theorem dL_areRounds_35 : decode cL_areRounds 35 = .ok (.if_icmp .ge 94, 3) := by decide +kernel
theorem dL_areRounds_38 : decode cL_areRounds 38 = .ok (.iload 4, 2) := by decide +kernel
theorem dL_areRounds_40 : decode cL_areRounds 40 = .ok (.ifCond .eq 89, 3) := by decide +kernel
theorem dL_areRounds_43 : decode cL_areRounds 43 = .ok (.aload_n 1, 1) := by decide +kernel
theorem dL_areRounds_44 : decode cL_areRounds 44 = .ok (.aload_n 2, 1) := by decide +kernel
theorem dL_areRounds_45 : decode cL_areRounds 45 = .ok (.aload_n 3, 1) := by decide +kernel
theorem dL_areRounds_46 : decode cL_areRounds 46 = .ok (.iload 5, 2) := by decide +kernel
theorem dL_areRounds_48 : decode cL_areRounds 48 = .ok (.invokestatic 25, 3) := by decide +kernel
theorem dL_areRounds_51 : decode cL_areRounds 51 = .ok (.istore 6, 2) := by decide +kernel
theorem dL_areRounds_53 : decode cL_areRounds 53 = .ok (.iconst 0, 1) := by decide +kernel
theorem dL_areRounds_54 : decode cL_areRounds 54 = .ok (.istore 7, 2) := by decide +kernel
theorem dL_areRounds_56 : decode cL_areRounds 56 = .ok (.iload 7, 2) := by decide +kernel
theorem dL_areRounds_58 : decode cL_areRounds 58 = .ok (.iload 6, 2) := by decide +kernel
theorem dL_areRounds_60 : decode cL_areRounds 60 = .ok (.if_icmp .ge 38, 3) := by decide +kernel
theorem dL_areRounds_63 : decode cL_areRounds 63 = .ok (.iload 4, 2) := by decide +kernel
theorem dL_areRounds_65 : decode cL_areRounds 65 = .ok (.ifCond .eq 24, 3) := by decide +kernel
theorem dL_areRounds_68 : decode cL_areRounds 68 = .ok (.aload_n 0, 1) := by decide +kernel
theorem dL_areRounds_69 : decode cL_areRounds 69 = .ok (.iload 5, 2) := by decide +kernel
theorem dL_areRounds_71 : decode cL_areRounds 71 = .ok (.iload 7, 2) := by decide +kernel
theorem dL_areRounds_73 : decode cL_areRounds 73 = .ok (.invokevirtual 61, 3) := by decide +kernel
theorem dL_areRounds_76 : decode cL_areRounds 76 = .ok (.aload_n 2, 1) := by decide +kernel
theorem dL_areRounds_77 : decode cL_areRounds 77 = .ok (.iconst 4, 1) := by decide +kernel
theorem dL_areRounds_78 : decode cL_areRounds 78 = .ok (.iload 7, 2) := by decide +kernel
theorem dL_areRounds_80 : decode cL_areRounds 80 = .ok (.iadd, 1) := by decide +kernel
theorem dL_areRounds_81 : decode cL_areRounds 81 = .ok (.iaload, 1) := by decide +kernel
theorem dL_areRounds_82 : decode cL_areRounds 82 = .ok (.if_icmp .ne 7, 3) := by decide +kernel
theorem dL_areRounds_85 : decode cL_areRounds 85 = .ok (.iconst 1, 1) := by decide +kernel
theorem dL_areRounds_86 : decode cL_areRounds 86 = .ok (.goto 4, 3) := by decide +kernel
theorem dL_areRounds_89 : decode cL_areRounds 89 = .ok (.iconst 0, 1) := by decide +kernel
theorem dL_areRounds_90 : decode cL_areRounds 90 = .ok (.istore 4, 2) := by decide +kernel
theorem dL_areRounds_92 : decode cL_areRounds 92 = .ok (.iinc 7 1, 3) := by decide +kernel
theorem dL_areRounds_95 : decode cL_areRounds 95 = .ok (.goto (-39), 3) := by decide +kernel
theorem dL_areRounds_98 : decode cL_areRounds 98 = .ok (.iload 4, 2) := by decide +kernel
theorem dL_areRounds_100 : decode cL_areRounds 100 = .ok (.ifCond .eq 20, 3) := by decide +kernel
theorem dL_areRounds_103 : decode cL_areRounds 103 = .ok (.aload_n 0, 1) := by decide +kernel
theorem dL_areRounds_104 : decode cL_areRounds 104 = .ok (.iload 5, 2) := by decide +kernel
theorem dL_areRounds_106 : decode cL_areRounds 106 = .ok (.iload 6, 2) := by decide +kernel
theorem dL_areRounds_108 : decode cL_areRounds 108 = .ok (.invokevirtual 61, 3) := by decide +kernel
theorem dL_areRounds_111 : decode cL_areRounds 111 = .ok (.ldc 46, 2) := by decide +kernel
theorem dL_areRounds_113 : decode cL_areRounds 113 = .ok (.if_icmp .ne 7, 3) := by decide +kernel
theorem dL_areRounds_116 : decode cL_areRounds 116 = .ok (.iconst 1, 1) := by decide +kernel
theorem dL_areRounds_117 : decode cL_areRounds 117 = .ok (.goto 4, 3) := by decide +kernel
theorem dL_areRounds_120 : decode cL_areRounds 120 = .ok (.iconst 0, 1) := by decide +kernel
theorem dL_areRounds_121 : decode cL_areRounds 121 = .ok (.istore 4, 2) := by decide +kernel
theorem dL_areRounds_123 : decode cL_areRounds 123 = .ok (.iinc 5 1, 3) := by decide +kernel
theorem dL_areRounds_126 : decode cL_areRounds 126 = .ok (.goto (-94), 3) := by decide +kernel
theorem dL_areRounds_129 : decode cL_areRounds 129 = .ok (.iload 4, 2) := by decide +kernel
theorem dL_areRounds_131 : decode cL_areRounds 131 = .ok (.ireturn, 1) := by decide +kernel
set_option maxRecDepth 20000 in
theorem ggL_isActed_L_at : GoodIn wsL_isActed wsL_at := goodIn_rB _ [6] (by decide +kernel) (by decide +kernel)
set_option maxRecDepth 20000 in
theorem gL_isActed_L_at : GoodIn wsL_isActed (va_wsS RL 20 yL_at wsL_at) := goodIn_app (goodIn_of _ (by decide +kernel)) ggL_isActed_L_at
set_option maxRecDepth 20000 in
theorem ggL_isActed_X6_house : GoodIn wsL_isActed wsX6_house := goodIn_rB _ [11, 12, 13, 14, 10, 15, 16, 17, 18, 19, 20, 21, 22, 23, 24, 25, 26, 27, 28, 29, 30, 31, 32, 33, 34, 35, 36, 37, 38, 39, 40, 41, 42, 43, 44, 45, 46, 47, 48, 49, 50, 51, 52, 53, 54, 55, 56, 57, 58, 59, 60, 61, 62, 63, 64, 65, 66, 67, 68, 69, 70, 71, 72, 73, 74, 75, 76, 77, 78, 79, 80, 81, 82, 83, 84, 85, 86, 87, 88, 89, 90, 91, 92, 93, 94, 95, 96, 97, 98, 99, 100, 101, 102, 103, 104, 105, 106, 107, 108, 109, 110, 111, 112, 113, 114, 115, 116, 117, 118, 119, 120, 121, 122, 123, 124, 125, 126, 127, 128, 129, 130, 131, 132, 133, 134, 135, 136, 137, 138, 139, 140, 141, 142, 143, 144, 145, 146, 147, 148, 149, 150, 151, 152, 153, 154, 155, 156, 157, 158, 159, 160, 161, 162, 163, 164, 165, 166, 167, 168, 169, 170, 171, 172, 173, 174, 175, 176, 177, 178, 179, 180, 181, 182, 183, 184, 185, 186, 187, 188, 189, 239, 240, 241, 242, 243, 244, 245, 246, 247, 248, 249, 250, 251, 252, 253, 254, 255, 256, 257, 258, 259, 260, 261, 262, 263, 264, 265, 266, 267, 268, 269, 270, 271, 272, 273, 274, 275, 276, 277] (by decide +kernel) (by decide +kernel)
set_option maxRecDepth 20000 in
theorem gL_isActed_X6_house : GoodIn wsL_isActed (wsV RL 64 RX6 yX6_house wsX6_house) := goodIn_app (goodIn_of _ (by decide +kernel)) ggL_isActed_X6_house
set_option maxRecDepth 20000 in
theorem ggL_isActed_X6_flow : GoodIn wsL_isActed wsX6_flow := goodIn_rB _ [193, 12, 13, 14, 10, 15, 16, 17, 18, 19, 20, 21, 22, 23, 24, 25, 26, 27, 28, 29, 30, 31, 32, 33, 34, 35, 36, 37, 38, 39, 40, 41, 42, 43, 44, 45, 46, 47, 48, 49, 50, 51, 52, 53, 54, 55, 56, 57, 58, 59, 60, 61, 62, 63, 64, 65, 66, 67, 68, 69, 70, 71, 72, 73, 74, 75, 76, 77, 78, 79, 80, 81, 82, 83, 84, 85, 86, 87, 88, 89, 90, 91, 92, 93, 94, 95, 96, 97, 98, 99, 100, 101, 102, 103, 104, 105, 106, 107, 108, 109, 110, 111, 112, 113, 114, 115, 116, 117, 118, 119, 120, 121, 122, 123, 124, 125, 126, 127, 128, 129, 130, 131, 132, 133, 134, 135, 136, 137, 138, 139, 140, 141, 142, 143, 144, 145, 146, 147, 148, 149, 150, 151, 152, 153, 154, 155, 156, 157, 158, 159, 160, 161, 162, 163, 164, 165, 166, 167, 168, 169, 170, 171, 172, 173, 174, 175, 176, 177, 178, 179, 180, 181, 182, 183, 184, 185, 186, 187, 188, 189, 239, 240, 241, 242, 243, 244, 245, 246, 247, 248, 249, 250, 251, 252, 253, 254, 255, 256, 257, 258, 259, 260, 261, 262, 263, 264, 265, 266, 267, 268, 269, 270, 271, 272, 273, 274, 275, 276, 277] (by decide +kernel) (by decide +kernel)
set_option maxRecDepth 20000 in
theorem gL_isActed_X6_flow : GoodIn wsL_isActed (wsV RL 68 RX6 yX6_flow wsX6_flow) := goodIn_app (goodIn_of _ (by decide +kernel)) ggL_isActed_X6_flow
set_option maxRecDepth 20000 in
theorem ggL_isActed_X6_read : GoodIn wsL_isActed wsX6_read := goodIn_rB _ [197, 12, 13, 14, 10, 15, 16, 17, 18, 19, 20, 21, 22, 23, 24, 25, 26, 27, 28, 29, 30, 31, 32, 33, 34, 35, 36, 37, 38, 39, 40, 41, 42, 43, 44, 45, 46, 47, 48, 49, 50, 51, 52, 53, 54, 55, 56, 57, 58, 59, 60, 61, 62, 63, 64, 65, 66, 67, 68, 69, 70, 71, 72, 73, 74, 75, 76, 77, 78, 79, 80, 81, 82, 83, 84, 85, 86, 87, 88, 89, 90, 91, 92, 93, 94, 95, 96, 97, 98, 99, 100, 101, 102, 103, 104, 105, 106, 107, 108, 109, 110, 111, 112, 113, 114, 115, 116, 117, 118, 119, 120, 121, 122, 123, 124, 125, 126, 127, 128, 129, 130, 131, 132, 133, 134, 135, 136, 137, 138, 139, 140, 141, 142, 143, 144, 145, 146, 147, 148, 149, 150, 151, 152, 153, 154, 155, 156, 157, 158, 159, 160, 161, 162, 163, 164, 165, 166, 167, 168, 169, 170, 171, 172, 173, 174, 175, 176, 177, 178, 179, 180, 181, 182, 183, 184, 185, 186, 187, 188, 189, 239, 240, 241, 242, 243, 244, 245, 246, 247, 248, 249, 250, 251, 252, 253, 254, 255, 256, 257, 258, 259, 260, 261, 262, 263, 264, 265, 266, 267, 268, 269, 270, 271, 272, 273, 274, 275, 276, 277] (by decide +kernel) (by decide +kernel)
set_option maxRecDepth 20000 in
theorem gL_isActed_X6_read : GoodIn wsL_isActed (wsV RL 71 RX6 yX6_read wsX6_read) := goodIn_app (goodIn_of _ (by decide +kernel)) ggL_isActed_X6_read
set_option maxRecDepth 20000 in
theorem ggL_isActed_X6_change : GoodIn wsL_isActed wsX6_change := goodIn_rB _ [201, 12, 13, 14, 10, 15, 16, 17, 18, 19, 20, 21, 22, 23, 24, 25, 26, 27, 28, 29, 30, 31, 32, 33, 34, 35, 36, 37, 38, 39, 40, 41, 42, 43, 44, 45, 46, 47, 48, 49, 50, 51, 52, 53, 54, 55, 56, 57, 58, 59, 60, 61, 62, 63, 64, 65, 66, 67, 68, 69, 70, 71, 72, 73, 74, 75, 76, 77, 78, 79, 80, 81, 82, 83, 84, 85, 86, 87, 88, 89, 90, 91, 92, 93, 94, 95, 96, 97, 98, 99, 100, 101, 102, 103, 104, 105, 106, 107, 108, 109, 110, 111, 112, 113, 114, 115, 116, 117, 118, 119, 120, 121, 122, 123, 124, 125, 126, 127, 128, 129, 130, 131, 132, 133, 134, 135, 136, 137, 138, 139, 140, 141, 142, 143, 144, 145, 146, 147, 148, 149, 150, 151, 152, 153, 154, 155, 156, 157, 158, 159, 160, 161, 162, 163, 164, 165, 166, 167, 168, 169, 170, 171, 172, 173, 174, 175, 176, 177, 178, 179, 180, 181, 182, 183, 184, 185, 186, 187, 188, 189, 239, 240, 241, 242, 243, 244, 245, 246, 247, 248, 249, 250, 251, 252, 253, 254, 255, 256, 257, 258, 259, 260, 261, 262, 263, 264, 265, 266, 267, 268, 269, 270, 271, 272, 273, 274, 275, 276, 277] (by decide +kernel) (by decide +kernel)
set_option maxRecDepth 20000 in
theorem gL_isActed_X6_change : GoodIn wsL_isActed (wsV RL 73 RX6 yX6_change wsX6_change) := goodIn_app (goodIn_of _ (by decide +kernel)) ggL_isActed_X6_change
set_option maxRecDepth 20000 in
theorem ggL_isActed_X6_lock : GoodIn wsL_isActed wsX6_lock := goodIn_rB _ [205, 16, 17, 18, 19, 20, 21, 22, 23, 24, 25, 26, 27, 28, 29, 30, 31, 32, 33, 34, 35, 36, 37, 38, 39, 40, 41, 42, 43, 44, 45, 46, 47, 48, 49, 50, 51, 52, 53, 54, 55, 56, 57, 58, 59, 60, 61, 62, 63, 64, 65, 66, 67, 68, 69, 70, 71, 72, 73, 74, 75, 76, 77, 78, 79, 80, 81, 82, 206, 123, 124, 125, 87, 114, 115, 116, 117, 181, 182, 183, 10, 184, 185, 186, 187, 188, 189, 239, 240, 241, 242, 243, 244, 245, 246, 247, 248, 249, 250, 251, 252, 253, 254, 255, 256, 257, 258, 259, 260, 261, 262, 263, 264, 265, 266, 267, 268, 269, 270, 271, 272, 273, 274, 275, 276, 277] (by decide +kernel) (by decide +kernel)
set_option maxRecDepth 20000 in
theorem gL_isActed_X6_lock : GoodIn wsL_isActed (wsV RL 76 RX6 yX6_lock wsX6_lock) := goodIn_app (goodIn_of _ (by decide +kernel)) ggL_isActed_X6_lock
set_option maxRecDepth 20000 in
theorem ggL_isActed_L_why : GoodIn wsL_isActed wsL_why := goodIn_rB _ [209] (by decide +kernel) (by decide +kernel)
set_option maxRecDepth 20000 in
theorem gL_isActed_L_why : GoodIn wsL_isActed (va_wsS RL 29 yL_why wsL_why) := goodIn_app (goodIn_of _ (by decide +kernel)) ggL_isActed_L_why
set_option maxRecDepth 20000 in
theorem ggL_isActed_L_read : GoodIn wsL_isActed wsL_read := goodIn_rB _ [212, 213, 214, 5, 215, 216, 217, 218, 219] (by decide +kernel) (by decide +kernel)
set_option maxRecDepth 20000 in
theorem gL_isActed_L_read : GoodIn wsL_isActed (va_wsS RL 32 yL_read wsL_read) := goodIn_app (goodIn_of _ (by decide +kernel)) ggL_isActed_L_read
set_option maxRecDepth 20000 in
theorem ggL_isActed_X6_set : GoodIn wsL_isActed wsX6_set := goodIn_rB _ [223, 16, 17, 18, 19, 20, 21, 22, 23, 24, 25, 26, 27, 28, 29, 30, 31, 32, 33, 34, 35, 36, 37, 38, 39, 40, 41, 42, 43, 44, 45, 46, 47, 48, 49, 50, 51, 52, 53, 54, 55, 56, 57, 58, 59, 60, 61, 62, 63, 64, 65, 66, 67, 68, 69, 70, 71, 72, 73, 74, 75, 76, 77, 78, 79, 80, 81, 82, 224, 225, 226, 227, 87, 181, 182, 183, 10, 184, 185, 186, 187, 188, 189, 239, 240, 241, 242, 243, 244, 245, 246, 247, 248, 249, 250, 251, 252, 253, 254, 255, 256, 257, 258, 259, 260, 261, 262, 263, 264, 265, 266, 267, 268, 269, 270, 271, 272, 273, 274, 275, 276, 277] (by decide +kernel) (by decide +kernel)
set_option maxRecDepth 20000 in
theorem gL_isActed_X6_set : GoodIn wsL_isActed (wsV RL 80 RX6 yX6_set wsX6_set) := goodIn_app (goodIn_of _ (by decide +kernel)) ggL_isActed_X6_set
set_option maxRecDepth 20000 in
theorem ggL_isActed_L_day : GoodIn wsL_isActed wsL_day := goodIn_rB _ [230, 231, 216, 232, 233, 5, 234, 3, 4, 6, 207, 208, 209, 210, 211, 212, 213, 214, 215, 217, 218, 219] (by decide +kernel) (by decide +kernel)
set_option maxRecDepth 20000 in
theorem gL_isActed_L_day : GoodIn wsL_isActed (va_wsS RL 83 yL_day wsL_day) := goodIn_app (goodIn_of _ (by decide +kernel)) ggL_isActed_L_day
set_option maxRecDepth 20000 in
theorem ggL_isActed_X6_days : GoodIn wsL_isActed wsX6_days := goodIn_rB _ [238, 12, 13, 14, 10, 15, 16, 17, 18, 19, 20, 21, 22, 23, 24, 25, 26, 27, 28, 29, 30, 31, 32, 33, 34, 35, 36, 37, 38, 39, 40, 41, 42, 43, 44, 45, 46, 47, 48, 49, 50, 51, 52, 53, 54, 55, 56, 57, 58, 59, 60, 61, 62, 63, 64, 65, 66, 67, 68, 69, 70, 71, 72, 73, 74, 75, 76, 77, 78, 79, 80, 81, 82, 83, 84, 85, 86, 87, 88, 89, 90, 91, 92, 93, 94, 95, 96, 97, 98, 99, 100, 101, 102, 103, 104, 105, 106, 107, 108, 109, 110, 111, 112, 113, 114, 115, 116, 117, 118, 119, 120, 121, 122, 123, 124, 125, 126, 127, 128, 129, 130, 131, 132, 133, 134, 135, 136, 137, 138, 139, 140, 141, 142, 143, 144, 145, 146, 147, 148, 149, 150, 151, 152, 153, 154, 155, 156, 157, 158, 159, 160, 161, 162, 163, 164, 165, 166, 167, 168, 169, 170, 171, 172, 173, 174, 175, 176, 177, 178, 179, 180, 181, 182, 183, 184, 185, 186, 187, 188, 189, 239, 240, 241, 242, 243, 244, 245, 246, 247, 248, 249, 250, 251, 252, 253, 254, 255, 256, 257, 258, 259, 260, 261, 262, 263, 264, 265, 266, 267, 268, 269, 270, 271, 272, 273, 274, 275, 276, 277] (by decide +kernel) (by decide +kernel)
set_option maxRecDepth 20000 in
theorem gL_isActed_X6_days : GoodIn wsL_isActed (wsV RL 87 RX6 yX6_days wsX6_days) := goodIn_app (goodIn_of _ (by decide +kernel)) ggL_isActed_X6_days
theorem dL_isActed_0 : decode cL_isActed 0 = .ok (.iload 9, 2) := by decide +kernel
theorem dL_isActed_2 : decode cL_isActed 2 = .ok (.bipush 16, 2) := by decide +kernel
theorem dL_isActed_4 : decode cL_isActed 4 = .ok (.irem, 1) := by decide +kernel
theorem dL_isActed_5 : decode cL_isActed 5 = .ok (.istore 10, 2) := by decide +kernel
theorem dL_isActed_7 : decode cL_isActed 7 = .ok (.iload 9, 2) := by decide +kernel
theorem dL_isActed_9 : decode cL_isActed 9 = .ok (.bipush 16, 2) := by decide +kernel
theorem dL_isActed_11 : decode cL_isActed 11 = .ok (.idiv, 1) := by decide +kernel
theorem dL_isActed_12 : decode cL_isActed 12 = .ok (.istore 11, 2) := by decide +kernel
theorem dL_isActed_14 : decode cL_isActed 14 = .ok (.iload 8, 2) := by decide +kernel
theorem dL_isActed_16 : decode cL_isActed 16 = .ok (.iconst 5, 1) := by decide +kernel
theorem dL_isActed_17 : decode cL_isActed 17 = .ok (.if_icmp .ge 133, 3) := by decide +kernel
theorem dL_isActed_20 : decode cL_isActed 20 = .ok (.iload 11, 2) := by decide +kernel
theorem dL_isActed_22 : decode cL_isActed 22 = .ok (.iconst 3, 1) := by decide +kernel
theorem dL_isActed_23 : decode cL_isActed 23 = .ok (.irem, 1) := by decide +kernel
theorem dL_isActed_24 : decode cL_isActed 24 = .ok (.ifCond .ne 12, 3) := by decide +kernel
theorem dL_isActed_27 : decode cL_isActed 27 = .ok (.iload 11, 2) := by decide +kernel
theorem dL_isActed_29 : decode cL_isActed 29 = .ok (.iconst 3, 1) := by decide +kernel
theorem dL_isActed_30 : decode cL_isActed 30 = .ok (.idiv, 1) := by decide +kernel
theorem dL_isActed_31 : decode cL_isActed 31 = .ok (.iconst 4, 1) := by decide +kernel
theorem dL_isActed_32 : decode cL_isActed 32 = .ok (.irem, 1) := by decide +kernel
theorem dL_isActed_33 : decode cL_isActed 33 = .ok (.goto 4, 3) := by decide +kernel
theorem dL_isActed_36 : decode cL_isActed 36 = .ok (.iconst 1, 1) := by decide +kernel
theorem dL_isActed_37 : decode cL_isActed 37 = .ok (.istore 12, 2) := by decide +kernel
theorem dL_isActed_39 : decode cL_isActed 39 = .ok (.iconst 1, 1) := by decide +kernel
theorem dL_isActed_40 : decode cL_isActed 40 = .ok (.iload 11, 2) := by decide +kernel
theorem dL_isActed_42 : decode cL_isActed 42 = .ok (.bipush 12, 2) := by decide +kernel
theorem dL_isActed_44 : decode cL_isActed 44 = .ok (.idiv, 1) := by decide +kernel
theorem dL_isActed_45 : decode cL_isActed 45 = .ok (.bipush 20, 2) := by decide +kernel
theorem dL_isActed_47 : decode cL_isActed 47 = .ok (.irem, 1) := by decide +kernel
theorem dL_isActed_48 : decode cL_isActed 48 = .ok (.iadd, 1) := by decide +kernel
theorem dL_isActed_49 : decode cL_isActed 49 = .ok (.istore 13, 2) := by decide +kernel
theorem dL_isActed_51 : decode cL_isActed 51 = .ok (.aload_n 1, 1) := by decide +kernel
theorem dL_isActed_52 : decode cL_isActed 52 = .ok (.aload 7, 2) := by decide +kernel
theorem dL_isActed_54 : decode cL_isActed 54 = .ok (.iload 12, 2) := by decide +kernel
theorem dL_isActed_56 : decode cL_isActed 56 = .ok (.iload 13, 2) := by decide +kernel
theorem dL_isActed_58 : decode cL_isActed 58 = .ok (.invokestatic 20, 3) := by decide +kernel
theorem dL_isActed_61 : decode cL_isActed 61 = .ok (.ifCond .lt 7, 3) := by decide +kernel
theorem dL_isActed_64 : decode cL_isActed 64 = .ok (.iconst 1, 1) := by decide +kernel
theorem dL_isActed_65 : decode cL_isActed 65 = .ok (.goto 4, 3) := by decide +kernel
theorem dL_isActed_68 : decode cL_isActed 68 = .ok (.iconst 0, 1) := by decide +kernel
theorem dL_isActed_69 : decode cL_isActed 69 = .ok (.istore 14, 2) := by decide +kernel
theorem dL_isActed_71 : decode cL_isActed 71 = .ok (.aload 7, 2) := by decide +kernel
theorem dL_isActed_73 : decode cL_isActed 73 = .ok (.iconst 1, 1) := by decide +kernel
theorem dL_isActed_74 : decode cL_isActed 74 = .ok (.iaload, 1) := by decide +kernel
theorem dL_isActed_75 : decode cL_isActed 75 = .ok (.bipush 16, 2) := by decide +kernel
theorem dL_isActed_77 : decode cL_isActed 77 = .ok (.if_icmp .ne 5, 3) := by decide +kernel
theorem dL_isActed_80 : decode cL_isActed 80 = .ok (.iconst 1, 1) := by decide +kernel
theorem dL_isActed_81 : decode cL_isActed 81 = .ok (.ireturn, 1) := by decide +kernel
theorem dL_isActed_82 : decode cL_isActed 82 = .ok (.iload 14, 2) := by decide +kernel
theorem dL_isActed_84 : decode cL_isActed 84 = .ok (.ifCond .ne 33, 3) := by decide +kernel
theorem dL_isActed_87 : decode cL_isActed 87 = .ok (.aload_n 1, 1) := by decide +kernel
theorem dL_isActed_88 : decode cL_isActed 88 = .ok (.iconst 4, 1) := by decide +kernel
theorem dL_isActed_89 : decode cL_isActed 89 = .ok (.aload 7, 2) := by decide +kernel
theorem dL_isActed_91 : decode cL_isActed 91 = .ok (.iconst 1, 1) := by decide +kernel
theorem dL_isActed_92 : decode cL_isActed 92 = .ok (.iaload, 1) := by decide +kernel
theorem dL_isActed_93 : decode cL_isActed 93 = .ok (.imul, 1) := by decide +kernel
theorem dL_isActed_94 : decode cL_isActed 94 = .ok (.iload 12, 2) := by decide +kernel
theorem dL_isActed_96 : decode cL_isActed 96 = .ok (.iastore, 1) := by decide +kernel
theorem dL_isActed_97 : decode cL_isActed 97 = .ok (.aload_n 1, 1) := by decide +kernel
theorem dL_isActed_98 : decode cL_isActed 98 = .ok (.iconst 4, 1) := by decide +kernel
theorem dL_isActed_99 : decode cL_isActed 99 = .ok (.aload 7, 2) := by decide +kernel
theorem dL_isActed_101 : decode cL_isActed 101 = .ok (.iconst 1, 1) := by decide +kernel
theorem dL_isActed_102 : decode cL_isActed 102 = .ok (.iaload, 1) := by decide +kernel
theorem dL_isActed_103 : decode cL_isActed 103 = .ok (.imul, 1) := by decide +kernel
theorem dL_isActed_104 : decode cL_isActed 104 = .ok (.iconst 1, 1) := by decide +kernel
theorem dL_isActed_105 : decode cL_isActed 105 = .ok (.iadd, 1) := by decide +kernel
theorem dL_isActed_106 : decode cL_isActed 106 = .ok (.iload 13, 2) := by decide +kernel
theorem dL_isActed_108 : decode cL_isActed 108 = .ok (.iastore, 1) := by decide +kernel
theorem dL_isActed_109 : decode cL_isActed 109 = .ok (.aload 7, 2) := by decide +kernel
theorem dL_isActed_111 : decode cL_isActed 111 = .ok (.iconst 1, 1) := by decide +kernel
theorem dL_isActed_112 : decode cL_isActed 112 = .ok (.dup2, 1) := by decide +kernel
theorem dL_isActed_113 : decode cL_isActed 113 = .ok (.iaload, 1) := by decide +kernel
theorem dL_isActed_114 : decode cL_isActed 114 = .ok (.iconst 1, 1) := by decide +kernel
theorem dL_isActed_115 : decode cL_isActed 115 = .ok (.iadd, 1) := by decide +kernel
theorem dL_isActed_116 : decode cL_isActed 116 = .ok (.iastore, 1) := by decide +kernel
theorem dL_isActed_117 : decode cL_isActed 117 = .ok (.aload_n 0, 1) := by decide +kernel
theorem dL_isActed_118 : decode cL_isActed 118 = .ok (.iload 12, 2) := by decide +kernel
theorem dL_isActed_120 : decode cL_isActed 120 = .ok (.iload 13, 2) := by decide +kernel
theorem dL_isActed_122 : decode cL_isActed 122 = .ok (.invokevirtual 64, 3) := by decide +kernel
theorem dL_isActed_125 : decode cL_isActed 125 = .ok (.iload 14, 2) := by decide +kernel
theorem dL_isActed_127 : decode cL_isActed 127 = .ok (.ifCond .eq 8, 3) := by decide +kernel
theorem dL_isActed_130 : decode cL_isActed 130 = .ok (.ldc 67, 2) := by decide +kernel
theorem dL_isActed_132 : decode cL_isActed 132 = .ok (.goto 9, 3) := by decide +kernel
theorem dL_isActed_135 : decode cL_isActed 135 = .ok (.aload 7, 2) := by decide +kernel
theorem dL_isActed_137 : decode cL_isActed 137 = .ok (.iconst 1, 1) := by decide +kernel
theorem dL_isActed_138 : decode cL_isActed 138 = .ok (.iaload, 1) := by decide +kernel
theorem dL_isActed_139 : decode cL_isActed 139 = .ok (.iconst 1, 1) := by decide +kernel
theorem dL_isActed_140 : decode cL_isActed 140 = .ok (.isub, 1) := by decide +kernel
theorem dL_isActed_141 : decode cL_isActed 141 = .ok (.if_icmp .ne 7, 3) := by decide +kernel
theorem dL_isActed_144 : decode cL_isActed 144 = .ok (.iconst 1, 1) := by decide +kernel
theorem dL_isActed_145 : decode cL_isActed 145 = .ok (.goto 4, 3) := by decide +kernel
theorem dL_isActed_148 : decode cL_isActed 148 = .ok (.iconst 0, 1) := by decide +kernel
theorem dL_isActed_149 : decode cL_isActed 149 = .ok (.ireturn, 1) := by decide +kernel
theorem dL_isActed_150 : decode cL_isActed 150 = .ok (.iload 8, 2) := by decide +kernel
theorem dL_isActed_152 : decode cL_isActed 152 = .ok (.bipush 16, 2) := by decide +kernel
theorem dL_isActed_154 : decode cL_isActed 154 = .ok (.if_icmp .ge 64, 3) := by decide +kernel
theorem dL_isActed_157 : decode cL_isActed 157 = .ok (.iload 10, 2) := by decide +kernel
theorem dL_isActed_159 : decode cL_isActed 159 = .ok (.aload 7, 2) := by decide +kernel
theorem dL_isActed_161 : decode cL_isActed 161 = .ok (.iconst 1, 1) := by decide +kernel
theorem dL_isActed_162 : decode cL_isActed 162 = .ok (.iaload, 1) := by decide +kernel
theorem dL_isActed_163 : decode cL_isActed 163 = .ok (.if_icmp .lt 55, 3) := by decide +kernel
theorem dL_isActed_166 : decode cL_isActed 166 = .ok (.aload_n 0, 1) := by decide +kernel
theorem dL_isActed_167 : decode cL_isActed 167 = .ok (.iload 10, 2) := by decide +kernel
theorem dL_isActed_169 : decode cL_isActed 169 = .ok (.iconst 5, 1) := by decide +kernel
theorem dL_isActed_170 : decode cL_isActed 170 = .ok (.invokevirtual 68, 3) := by decide +kernel
theorem dL_isActed_173 : decode cL_isActed 173 = .ok (.ldc 42, 2) := by decide +kernel
theorem dL_isActed_175 : decode cL_isActed 175 = .ok (.if_icmp .ne 41, 3) := by decide +kernel
theorem dL_isActed_178 : decode cL_isActed 178 = .ok (.aload_n 0, 1) := by decide +kernel
theorem dL_isActed_179 : decode cL_isActed 179 = .ok (.iload 10, 2) := by decide +kernel
theorem dL_isActed_181 : decode cL_isActed 181 = .ok (.invokevirtual 71, 3) := by decide +kernel
theorem dL_isActed_184 : decode cL_isActed 184 = .ok (.ldc 42, 2) := by decide +kernel
theorem dL_isActed_186 : decode cL_isActed 186 = .ok (.if_icmp .ne 30, 3) := by decide +kernel
theorem dL_isActed_189 : decode cL_isActed 189 = .ok (.aload_n 0, 1) := by decide +kernel
theorem dL_isActed_190 : decode cL_isActed 190 = .ok (.iload 10, 2) := by decide +kernel
theorem dL_isActed_192 : decode cL_isActed 192 = .ok (.invokevirtual 73, 3) := by decide +kernel
theorem dL_isActed_195 : decode cL_isActed 195 = .ok (.ldc 42, 2) := by decide +kernel
theorem dL_isActed_197 : decode cL_isActed 197 = .ok (.if_icmp .ne 19, 3) := by decide +kernel
theorem dL_isActed_200 : decode cL_isActed 200 = .ok (.aload_n 0, 1) := by decide +kernel
theorem dL_isActed_201 : decode cL_isActed 201 = .ok (.iload 10, 2) := by decide +kernel
theorem dL_isActed_203 : decode cL_isActed 203 = .ok (.iconst 1, 1) := by decide +kernel
theorem dL_isActed_204 : decode cL_isActed 204 = .ok (.invokevirtual 76, 3) := by decide +kernel
theorem dL_isActed_207 : decode cL_isActed 207 = .ok (.ldc 42, 2) := by decide +kernel
theorem dL_isActed_209 : decode cL_isActed 209 = .ok (.if_icmp .ne 7, 3) := by decide +kernel
theorem dL_isActed_212 : decode cL_isActed 212 = .ok (.iconst 1, 1) := by decide +kernel
theorem dL_isActed_213 : decode cL_isActed 213 = .ok (.goto 4, 3) := by decide +kernel
theorem dL_isActed_216 : decode cL_isActed 216 = .ok (.iconst 0, 1) := by decide +kernel
theorem dL_isActed_217 : decode cL_isActed 217 = .ok (.ireturn, 1) := by decide +kernel
theorem dL_isActed_218 : decode cL_isActed 218 = .ok (.iload 8, 2) := by decide +kernel
theorem dL_isActed_220 : decode cL_isActed 220 = .ok (.bipush 9, 2) := by decide +kernel
theorem dL_isActed_222 : decode cL_isActed 222 = .ok (.if_icmp .ge 50, 3) := by decide +kernel
theorem dL_isActed_225 : decode cL_isActed 225 = .ok (.aload_n 2, 1) := by decide +kernel
theorem dL_isActed_226 : decode cL_isActed 226 = .ok (.iconst 4, 1) := by decide +kernel
theorem dL_isActed_227 : decode cL_isActed 227 = .ok (.iload 10, 2) := by decide +kernel
theorem dL_isActed_229 : decode cL_isActed 229 = .ok (.imul, 1) := by decide +kernel
theorem dL_isActed_230 : decode cL_isActed 230 = .ok (.iconst 1, 1) := by decide +kernel
theorem dL_isActed_231 : decode cL_isActed 231 = .ok (.iadd, 1) := by decide +kernel
theorem dL_isActed_232 : decode cL_isActed 232 = .ok (.iaload, 1) := by decide +kernel
theorem dL_isActed_233 : decode cL_isActed 233 = .ok (.istore 12, 2) := by decide +kernel
theorem dL_isActed_235 : decode cL_isActed 235 = .ok (.aload_n 2, 1) := by decide +kernel
theorem dL_isActed_236 : decode cL_isActed 236 = .ok (.iconst 4, 1) := by decide +kernel
theorem dL_isActed_237 : decode cL_isActed 237 = .ok (.iload 10, 2) := by decide +kernel
theorem dL_isActed_239 : decode cL_isActed 239 = .ok (.imul, 1) := by decide +kernel
theorem dL_isActed_240 : decode cL_isActed 240 = .ok (.iconst 1, 1) := by decide +kernel
theorem dL_isActed_241 : decode cL_isActed 241 = .ok (.iadd, 1) := by decide +kernel
theorem dL_isActed_242 : decode cL_isActed 242 = .ok (.iload 11, 2) := by decide +kernel
theorem dL_isActed_244 : decode cL_isActed 244 = .ok (.sipush 1000, 3) := by decide +kernel
theorem dL_isActed_247 : decode cL_isActed 247 = .ok (.irem, 1) := by decide +kernel
theorem dL_isActed_248 : decode cL_isActed 248 = .ok (.iastore, 1) := by decide +kernel
theorem dL_isActed_249 : decode cL_isActed 249 = .ok (.aload_n 0, 1) := by decide +kernel
theorem dL_isActed_250 : decode cL_isActed 250 = .ok (.iload 10, 2) := by decide +kernel
theorem dL_isActed_252 : decode cL_isActed 252 = .ok (.iload 11, 2) := by decide +kernel
theorem dL_isActed_254 : decode cL_isActed 254 = .ok (.sipush 1000, 3) := by decide +kernel
theorem dL_isActed_257 : decode cL_isActed 257 = .ok (.irem, 1) := by decide +kernel
theorem dL_isActed_258 : decode cL_isActed 258 = .ok (.invokevirtual 68, 3) := by decide +kernel
theorem dL_isActed_261 : decode cL_isActed 261 = .ok (.iload 12, 2) := by decide +kernel
theorem dL_isActed_263 : decode cL_isActed 263 = .ok (.if_icmp .ne 7, 3) := by decide +kernel
theorem dL_isActed_266 : decode cL_isActed 266 = .ok (.iconst 1, 1) := by decide +kernel
theorem dL_isActed_267 : decode cL_isActed 267 = .ok (.goto 4, 3) := by decide +kernel
theorem dL_isActed_270 : decode cL_isActed 270 = .ok (.iconst 0, 1) := by decide +kernel
theorem dL_isActed_271 : decode cL_isActed 271 = .ok (.ireturn, 1) := by decide +kernel
theorem dL_isActed_272 : decode cL_isActed 272 = .ok (.iload 8, 2) := by decide +kernel
theorem dL_isActed_274 : decode cL_isActed 274 = .ok (.bipush 9, 2) := by decide +kernel
theorem dL_isActed_276 : decode cL_isActed 276 = .ok (.if_icmp .ne 62, 3) := by decide +kernel
theorem dL_isActed_279 : decode cL_isActed 279 = .ok (.aload_n 2, 1) := by decide +kernel
theorem dL_isActed_280 : decode cL_isActed 280 = .ok (.iconst 4, 1) := by decide +kernel
theorem dL_isActed_281 : decode cL_isActed 281 = .ok (.iload 10, 2) := by decide +kernel
theorem dL_isActed_283 : decode cL_isActed 283 = .ok (.imul, 1) := by decide +kernel
theorem dL_isActed_284 : decode cL_isActed 284 = .ok (.iconst 2, 1) := by decide +kernel
theorem dL_isActed_285 : decode cL_isActed 285 = .ok (.iadd, 1) := by decide +kernel
theorem dL_isActed_286 : decode cL_isActed 286 = .ok (.iaload, 1) := by decide +kernel
theorem dL_isActed_287 : decode cL_isActed 287 = .ok (.istore 12, 2) := by decide +kernel
theorem dL_isActed_289 : decode cL_isActed 289 = .ok (.aload_n 2, 1) := by decide +kernel
theorem dL_isActed_290 : decode cL_isActed 290 = .ok (.iconst 4, 1) := by decide +kernel
theorem dL_isActed_291 : decode cL_isActed 291 = .ok (.iload 10, 2) := by decide +kernel
theorem dL_isActed_293 : decode cL_isActed 293 = .ok (.imul, 1) := by decide +kernel
theorem dL_isActed_294 : decode cL_isActed 294 = .ok (.iconst 2, 1) := by decide +kernel
theorem dL_isActed_295 : decode cL_isActed 295 = .ok (.iadd, 1) := by decide +kernel
theorem dL_isActed_296 : decode cL_isActed 296 = .ok (.iload 11, 2) := by decide +kernel
theorem dL_isActed_298 : decode cL_isActed 298 = .ok (.iconst 3, 1) := by decide +kernel
theorem dL_isActed_299 : decode cL_isActed 299 = .ok (.irem, 1) := by decide +kernel
theorem dL_isActed_300 : decode cL_isActed 300 = .ok (.ifCond .ne 7, 3) := by decide +kernel
theorem dL_isActed_303 : decode cL_isActed 303 = .ok (.iconst 1, 1) := by decide +kernel
theorem dL_isActed_304 : decode cL_isActed 304 = .ok (.goto 4, 3) := by decide +kernel
theorem dL_isActed_307 : decode cL_isActed 307 = .ok (.iconst 0, 1) := by decide +kernel
theorem dL_isActed_308 : decode cL_isActed 308 = .ok (.iastore, 1) := by decide +kernel
theorem dL_isActed_309 : decode cL_isActed 309 = .ok (.aload_n 0, 1) := by decide +kernel
theorem dL_isActed_310 : decode cL_isActed 310 = .ok (.iload 10, 2) := by decide +kernel
theorem dL_isActed_312 : decode cL_isActed 312 = .ok (.iload 11, 2) := by decide +kernel
theorem dL_isActed_314 : decode cL_isActed 314 = .ok (.iconst 3, 1) := by decide +kernel
theorem dL_isActed_315 : decode cL_isActed 315 = .ok (.irem, 1) := by decide +kernel
theorem dL_isActed_316 : decode cL_isActed 316 = .ok (.ifCond .ne 7, 3) := by decide +kernel
theorem dL_isActed_319 : decode cL_isActed 319 = .ok (.iconst 1, 1) := by decide +kernel
theorem dL_isActed_320 : decode cL_isActed 320 = .ok (.goto 4, 3) := by decide +kernel
theorem dL_isActed_323 : decode cL_isActed 323 = .ok (.iconst 0, 1) := by decide +kernel
theorem dL_isActed_324 : decode cL_isActed 324 = .ok (.invokevirtual 76, 3) := by decide +kernel
theorem dL_isActed_327 : decode cL_isActed 327 = .ok (.iload 12, 2) := by decide +kernel
theorem dL_isActed_329 : decode cL_isActed 329 = .ok (.if_icmp .ne 7, 3) := by decide +kernel
theorem dL_isActed_332 : decode cL_isActed 332 = .ok (.iconst 1, 1) := by decide +kernel
theorem dL_isActed_333 : decode cL_isActed 333 = .ok (.goto 4, 3) := by decide +kernel
theorem dL_isActed_336 : decode cL_isActed 336 = .ok (.iconst 0, 1) := by decide +kernel
theorem dL_isActed_337 : decode cL_isActed 337 = .ok (.ireturn, 1) := by decide +kernel
theorem dL_isActed_338 : decode cL_isActed 338 = .ok (.iload 8, 2) := by decide +kernel
theorem dL_isActed_340 : decode cL_isActed 340 = .ok (.bipush 14, 2) := by decide +kernel
theorem dL_isActed_342 : decode cL_isActed 342 = .ok (.if_icmp .ge 50, 3) := by decide +kernel
theorem dL_isActed_345 : decode cL_isActed 345 = .ok (.aload_n 2, 1) := by decide +kernel
theorem dL_isActed_346 : decode cL_isActed 346 = .ok (.aload 7, 2) := by decide +kernel
theorem dL_isActed_348 : decode cL_isActed 348 = .ok (.iload 10, 2) := by decide +kernel
theorem dL_isActed_350 : decode cL_isActed 350 = .ok (.invokestatic 29, 3) := by decide +kernel
theorem dL_isActed_353 : decode cL_isActed 353 = .ok (.ifCond .le 8, 3) := by decide +kernel
theorem dL_isActed_356 : decode cL_isActed 356 = .ok (.ldc 67, 2) := by decide +kernel
theorem dL_isActed_358 : decode cL_isActed 358 = .ok (.goto 15, 3) := by decide +kernel
theorem dL_isActed_361 : decode cL_isActed 361 = .ok (.aload_n 1, 1) := by decide +kernel
theorem dL_isActed_362 : decode cL_isActed 362 = .ok (.aload_n 2, 1) := by decide +kernel
theorem dL_isActed_363 : decode cL_isActed 363 = .ok (.aload_n 3, 1) := by decide +kernel
theorem dL_isActed_364 : decode cL_isActed 364 = .ok (.aload 6, 2) := by decide +kernel
theorem dL_isActed_366 : decode cL_isActed 366 = .ok (.aload 7, 2) := by decide +kernel
theorem dL_isActed_368 : decode cL_isActed 368 = .ok (.iload 10, 2) := by decide +kernel
theorem dL_isActed_370 : decode cL_isActed 370 = .ok (.invokestatic 32, 3) := by decide +kernel
theorem dL_isActed_373 : decode cL_isActed 373 = .ok (.istore 12, 2) := by decide +kernel
theorem dL_isActed_375 : decode cL_isActed 375 = .ok (.aload_n 0, 1) := by decide +kernel
theorem dL_isActed_376 : decode cL_isActed 376 = .ok (.iload 10, 2) := by decide +kernel
theorem dL_isActed_378 : decode cL_isActed 378 = .ok (.invokevirtual 71, 3) := by decide +kernel
theorem dL_isActed_381 : decode cL_isActed 381 = .ok (.iload 12, 2) := by decide +kernel
theorem dL_isActed_383 : decode cL_isActed 383 = .ok (.if_icmp .ne 7, 3) := by decide +kernel
theorem dL_isActed_386 : decode cL_isActed 386 = .ok (.iconst 1, 1) := by decide +kernel
theorem dL_isActed_387 : decode cL_isActed 387 = .ok (.goto 4, 3) := by decide +kernel
theorem dL_isActed_390 : decode cL_isActed 390 = .ok (.iconst 0, 1) := by decide +kernel
theorem dL_isActed_391 : decode cL_isActed 391 = .ok (.ireturn, 1) := by decide +kernel
theorem dL_isActed_392 : decode cL_isActed 392 = .ok (.iload 8, 2) := by decide +kernel
theorem dL_isActed_394 : decode cL_isActed 394 = .ok (.bipush 16, 2) := by decide +kernel
theorem dL_isActed_396 : decode cL_isActed 396 = .ok (.if_icmp .ge 65, 3) := by decide +kernel
theorem dL_isActed_399 : decode cL_isActed 399 = .ok (.aload_n 1, 1) := by decide +kernel
theorem dL_isActed_400 : decode cL_isActed 400 = .ok (.aload_n 2, 1) := by decide +kernel
theorem dL_isActed_401 : decode cL_isActed 401 = .ok (.aload_n 3, 1) := by decide +kernel
theorem dL_isActed_402 : decode cL_isActed 402 = .ok (.aload 6, 2) := by decide +kernel
theorem dL_isActed_404 : decode cL_isActed 404 = .ok (.aload 7, 2) := by decide +kernel
theorem dL_isActed_406 : decode cL_isActed 406 = .ok (.iload 10, 2) := by decide +kernel
theorem dL_isActed_408 : decode cL_isActed 408 = .ok (.invokestatic 32, 3) := by decide +kernel
theorem dL_isActed_411 : decode cL_isActed 411 = .ok (.istore 12, 2) := by decide +kernel
theorem dL_isActed_413 : decode cL_isActed 413 = .ok (.aload_n 1, 1) := by decide +kernel
theorem dL_isActed_414 : decode cL_isActed 414 = .ok (.iconst 4, 1) := by decide +kernel
theorem dL_isActed_415 : decode cL_isActed 415 = .ok (.iload 10, 2) := by decide +kernel
theorem dL_isActed_417 : decode cL_isActed 417 = .ok (.imul, 1) := by decide +kernel
theorem dL_isActed_418 : decode cL_isActed 418 = .ok (.iconst 2, 1) := by decide +kernel
theorem dL_isActed_419 : decode cL_isActed 419 = .ok (.iadd, 1) := by decide +kernel
theorem dL_isActed_420 : decode cL_isActed 420 = .ok (.iconst 0, 1) := by decide +kernel
theorem dL_isActed_421 : decode cL_isActed 421 = .ok (.iastore, 1) := by decide +kernel
theorem dL_isActed_422 : decode cL_isActed 422 = .ok (.aload_n 1, 1) := by decide +kernel
theorem dL_isActed_423 : decode cL_isActed 423 = .ok (.iconst 4, 1) := by decide +kernel
theorem dL_isActed_424 : decode cL_isActed 424 = .ok (.iload 10, 2) := by decide +kernel
theorem dL_isActed_426 : decode cL_isActed 426 = .ok (.imul, 1) := by decide +kernel
theorem dL_isActed_427 : decode cL_isActed 427 = .ok (.iconst 3, 1) := by decide +kernel
theorem dL_isActed_428 : decode cL_isActed 428 = .ok (.iadd, 1) := by decide +kernel
theorem dL_isActed_429 : decode cL_isActed 429 = .ok (.iconst 0, 1) := by decide +kernel
theorem dL_isActed_430 : decode cL_isActed 430 = .ok (.iastore, 1) := by decide +kernel
theorem dL_isActed_431 : decode cL_isActed 431 = .ok (.aload 4, 2) := by decide +kernel
theorem dL_isActed_433 : decode cL_isActed 433 = .ok (.iconst 2, 1) := by decide +kernel
theorem dL_isActed_434 : decode cL_isActed 434 = .ok (.iload 10, 2) := by decide +kernel
theorem dL_isActed_436 : decode cL_isActed 436 = .ok (.imul, 1) := by decide +kernel
theorem dL_isActed_437 : decode cL_isActed 437 = .ok (.iconst 1, 1) := by decide +kernel
theorem dL_isActed_438 : decode cL_isActed 438 = .ok (.iadd, 1) := by decide +kernel
theorem dL_isActed_439 : decode cL_isActed 439 = .ok (.dup2, 1) := by decide +kernel
theorem dL_isActed_440 : decode cL_isActed 440 = .ok (.iaload, 1) := by decide +kernel
theorem dL_isActed_441 : decode cL_isActed 441 = .ok (.iconst 1, 1) := by decide +kernel
theorem dL_isActed_442 : decode cL_isActed 442 = .ok (.iadd, 1) := by decide +kernel
theorem dL_isActed_443 : decode cL_isActed 443 = .ok (.iastore, 1) := by decide +kernel
theorem dL_isActed_444 : decode cL_isActed 444 = .ok (.aload_n 0, 1) := by decide +kernel
theorem dL_isActed_445 : decode cL_isActed 445 = .ok (.iload 10, 2) := by decide +kernel
theorem dL_isActed_447 : decode cL_isActed 447 = .ok (.invokevirtual 73, 3) := by decide +kernel
theorem dL_isActed_450 : decode cL_isActed 450 = .ok (.iload 12, 2) := by decide +kernel
theorem dL_isActed_452 : decode cL_isActed 452 = .ok (.if_icmp .ne 7, 3) := by decide +kernel
theorem dL_isActed_455 : decode cL_isActed 455 = .ok (.iconst 1, 1) := by decide +kernel
theorem dL_isActed_456 : decode cL_isActed 456 = .ok (.goto 4, 3) := by decide +kernel
theorem dL_isActed_459 : decode cL_isActed 459 = .ok (.iconst 0, 1) := by decide +kernel
theorem dL_isActed_460 : decode cL_isActed 460 = .ok (.ireturn, 1) := by decide +kernel
theorem dL_isActed_461 : decode cL_isActed 461 = .ok (.iload 8, 2) := by decide +kernel
theorem dL_isActed_463 : decode cL_isActed 463 = .ok (.bipush 16, 2) := by decide +kernel
theorem dL_isActed_465 : decode cL_isActed 465 = .ok (.if_icmp .ne 102, 3) := by decide +kernel
theorem dL_isActed_468 : decode cL_isActed 468 = .ok (.iload 9, 2) := by decide +kernel
theorem dL_isActed_470 : decode cL_isActed 470 = .ok (.iconst 4, 1) := by decide +kernel
theorem dL_isActed_471 : decode cL_isActed 471 = .ok (.irem, 1) := by decide +kernel
theorem dL_isActed_472 : decode cL_isActed 472 = .ok (.istore 12, 2) := by decide +kernel
theorem dL_isActed_474 : decode cL_isActed 474 = .ok (.iload 12, 2) := by decide +kernel
theorem dL_isActed_476 : decode cL_isActed 476 = .ok (.ifCond .ne 11, 3) := by decide +kernel
theorem dL_isActed_479 : decode cL_isActed 479 = .ok (.iload 11, 2) := by decide +kernel
theorem dL_isActed_481 : decode cL_isActed 481 = .ok (.bipush 6, 2) := by decide +kernel
theorem dL_isActed_483 : decode cL_isActed 483 = .ok (.irem, 1) := by decide +kernel
theorem dL_isActed_484 : decode cL_isActed 484 = .ok (.goto 42, 3) := by decide +kernel
theorem dL_isActed_487 : decode cL_isActed 487 = .ok (.iload 12, 2) := by decide +kernel
theorem dL_isActed_489 : decode cL_isActed 489 = .ok (.iconst 1, 1) := by decide +kernel
theorem dL_isActed_490 : decode cL_isActed 490 = .ok (.if_icmp .ne 13, 3) := by decide +kernel
theorem dL_isActed_493 : decode cL_isActed 493 = .ok (.iconst 1, 1) := by decide +kernel
theorem dL_isActed_494 : decode cL_isActed 494 = .ok (.iload 11, 2) := by decide +kernel
theorem dL_isActed_496 : decode cL_isActed 496 = .ok (.bipush 50, 2) := by decide +kernel
theorem dL_isActed_498 : decode cL_isActed 498 = .ok (.irem, 1) := by decide +kernel
theorem dL_isActed_499 : decode cL_isActed 499 = .ok (.iadd, 1) := by decide +kernel
theorem dL_isActed_500 : decode cL_isActed 500 = .ok (.goto 26, 3) := by decide +kernel
theorem dL_isActed_503 : decode cL_isActed 503 = .ok (.iload 12, 2) := by decide +kernel
theorem dL_isActed_505 : decode cL_isActed 505 = .ok (.iconst 2, 1) := by decide +kernel
theorem dL_isActed_506 : decode cL_isActed 506 = .ok (.if_icmp .ne 13, 3) := by decide +kernel
theorem dL_isActed_509 : decode cL_isActed 509 = .ok (.iconst 1, 1) := by decide +kernel
theorem dL_isActed_510 : decode cL_isActed 510 = .ok (.iload 11, 2) := by decide +kernel
theorem dL_isActed_512 : decode cL_isActed 512 = .ok (.bipush 99, 2) := by decide +kernel
theorem dL_isActed_514 : decode cL_isActed 514 = .ok (.irem, 1) := by decide +kernel
theorem dL_isActed_515 : decode cL_isActed 515 = .ok (.iadd, 1) := by decide +kernel
theorem dL_isActed_516 : decode cL_isActed 516 = .ok (.goto 10, 3) := by decide +kernel
theorem dL_isActed_519 : decode cL_isActed 519 = .ok (.iconst 5, 1) := by decide +kernel
theorem dL_isActed_520 : decode cL_isActed 520 = .ok (.iload 11, 2) := by decide +kernel
theorem dL_isActed_522 : decode cL_isActed 522 = .ok (.bipush 30, 2) := by decide +kernel
theorem dL_isActed_524 : decode cL_isActed 524 = .ok (.irem, 1) := by decide +kernel
theorem dL_isActed_525 : decode cL_isActed 525 = .ok (.iadd, 1) := by decide +kernel
theorem dL_isActed_526 : decode cL_isActed 526 = .ok (.istore 13, 2) := by decide +kernel
theorem dL_isActed_528 : decode cL_isActed 528 = .ok (.aload 7, 2) := by decide +kernel
theorem dL_isActed_530 : decode cL_isActed 530 = .ok (.bipush 10, 2) := by decide +kernel
theorem dL_isActed_532 : decode cL_isActed 532 = .ok (.iload 12, 2) := by decide +kernel
theorem dL_isActed_534 : decode cL_isActed 534 = .ok (.iadd, 1) := by decide +kernel
theorem dL_isActed_535 : decode cL_isActed 535 = .ok (.iaload, 1) := by decide +kernel
theorem dL_isActed_536 : decode cL_isActed 536 = .ok (.istore 14, 2) := by decide +kernel
theorem dL_isActed_538 : decode cL_isActed 538 = .ok (.aload 7, 2) := by decide +kernel
theorem dL_isActed_540 : decode cL_isActed 540 = .ok (.bipush 10, 2) := by decide +kernel
theorem dL_isActed_542 : decode cL_isActed 542 = .ok (.iload 12, 2) := by decide +kernel
theorem dL_isActed_544 : decode cL_isActed 544 = .ok (.iadd, 1) := by decide +kernel
theorem dL_isActed_545 : decode cL_isActed 545 = .ok (.iload 13, 2) := by decide +kernel
theorem dL_isActed_547 : decode cL_isActed 547 = .ok (.iastore, 1) := by decide +kernel
theorem dL_isActed_548 : decode cL_isActed 548 = .ok (.aload_n 0, 1) := by decide +kernel
theorem dL_isActed_549 : decode cL_isActed 549 = .ok (.iload 12, 2) := by decide +kernel
theorem dL_isActed_551 : decode cL_isActed 551 = .ok (.iload 13, 2) := by decide +kernel
theorem dL_isActed_553 : decode cL_isActed 553 = .ok (.invokevirtual 80, 3) := by decide +kernel
theorem dL_isActed_556 : decode cL_isActed 556 = .ok (.iload 14, 2) := by decide +kernel
theorem dL_isActed_558 : decode cL_isActed 558 = .ok (.if_icmp .ne 7, 3) := by decide +kernel
theorem dL_isActed_561 : decode cL_isActed 561 = .ok (.iconst 1, 1) := by decide +kernel
theorem dL_isActed_562 : decode cL_isActed 562 = .ok (.goto 4, 3) := by decide +kernel
theorem dL_isActed_565 : decode cL_isActed 565 = .ok (.iconst 0, 1) := by decide +kernel
theorem dL_isActed_566 : decode cL_isActed 566 = .ok (.ireturn, 1) := by decide +kernel
theorem dL_isActed_567 : decode cL_isActed 567 = .ok (.iconst 1, 1) := by decide +kernel
theorem dL_isActed_568 : decode cL_isActed 568 = .ok (.iload 9, 2) := by decide +kernel
theorem dL_isActed_570 : decode cL_isActed 570 = .ok (.iload 8, 2) := by decide +kernel
theorem dL_isActed_572 : decode cL_isActed 572 = .ok (.bipush 17, 2) := by decide +kernel
theorem dL_isActed_574 : decode cL_isActed 574 = .ok (.if_icmp .ne 8, 3) := by decide +kernel
theorem dL_isActed_577 : decode cL_isActed 577 = .ok (.bipush 60, 2) := by decide +kernel
theorem dL_isActed_579 : decode cL_isActed 579 = .ok (.goto 5, 3) := by decide +kernel
theorem dL_isActed_582 : decode cL_isActed 582 = .ok (.bipush 7, 2) := by decide +kernel
theorem dL_isActed_584 : decode cL_isActed 584 = .ok (.irem, 1) := by decide +kernel
theorem dL_isActed_585 : decode cL_isActed 585 = .ok (.iadd, 1) := by decide +kernel
theorem dL_isActed_586 : decode cL_isActed 586 = .ok (.istore 12, 2) := by decide +kernel
theorem dL_isActed_588 : decode cL_isActed 588 = .ok (.iconst 0, 1) := by decide +kernel
theorem dL_isActed_589 : decode cL_isActed 589 = .ok (.istore 13, 2) := by decide +kernel
theorem dL_isActed_591 : decode cL_isActed 591 = .ok (.iconst 0, 1) := by decide +kernel
theorem dL_isActed_592 : decode cL_isActed 592 = .ok (.istore 14, 2) := by decide +kernel
theorem dL_isActed_594 : decode cL_isActed 594 = .ok (.iload 14, 2) := by decide +kernel
theorem dL_isActed_596 : decode cL_isActed 596 = .ok (.iload 12, 2) := by decide +kernel
theorem dL_isActed_598 : decode cL_isActed 598 = .ok (.if_icmp .ge 28, 3) := by decide +kernel
theorem dL_isActed_601 : decode cL_isActed 601 = .ok (.iload 13, 2) := by decide +kernel
theorem dL_isActed_603 : decode cL_isActed 603 = .ok (.aload_n 1, 1) := by decide +kernel
theorem dL_isActed_604 : decode cL_isActed 604 = .ok (.aload_n 2, 1) := by decide +kernel
theorem dL_isActed_605 : decode cL_isActed 605 = .ok (.aload_n 3, 1) := by decide +kernel
theorem dL_isActed_606 : decode cL_isActed 606 = .ok (.aload 4, 2) := by decide +kernel
theorem dL_isActed_608 : decode cL_isActed 608 = .ok (.aload 5, 2) := by decide +kernel
theorem dL_isActed_610 : decode cL_isActed 610 = .ok (.aload 6, 2) := by decide +kernel
theorem dL_isActed_612 : decode cL_isActed 612 = .ok (.aload 7, 2) := by decide +kernel
theorem dL_isActed_614 : decode cL_isActed 614 = .ok (.invokestatic 83, 3) := by decide +kernel
theorem dL_isActed_617 : decode cL_isActed 617 = .ok (.iadd, 1) := by decide +kernel
theorem dL_isActed_618 : decode cL_isActed 618 = .ok (.istore 13, 2) := by decide +kernel
theorem dL_isActed_620 : decode cL_isActed 620 = .ok (.iinc 14 1, 3) := by decide +kernel
theorem dL_isActed_623 : decode cL_isActed 623 = .ok (.goto (-29), 3) := by decide +kernel
theorem dL_isActed_626 : decode cL_isActed 626 = .ok (.aload_n 0, 1) := by decide +kernel
theorem dL_isActed_627 : decode cL_isActed 627 = .ok (.iload 12, 2) := by decide +kernel
theorem dL_isActed_629 : decode cL_isActed 629 = .ok (.invokevirtual 87, 3) := by decide +kernel
theorem dL_isActed_632 : decode cL_isActed 632 = .ok (.iload 13, 2) := by decide +kernel
theorem dL_isActed_634 : decode cL_isActed 634 = .ok (.if_icmp .ne 7, 3) := by decide +kernel
theorem dL_isActed_637 : decode cL_isActed 637 = .ok (.iconst 1, 1) := by decide +kernel
theorem dL_isActed_638 : decode cL_isActed 638 = .ok (.goto 4, 3) := by decide +kernel
theorem dL_isActed_641 : decode cL_isActed 641 = .ok (.iconst 0, 1) := by decide +kernel
theorem dL_isActed_642 : decode cL_isActed 642 = .ok (.ireturn, 1) := by decide +kernel

