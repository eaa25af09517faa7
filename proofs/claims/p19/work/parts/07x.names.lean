theorem dL_speaks_322 : decode cL_speaks 322 = .ok (.aload_n 3, 1) := by decide +kernel
theorem dL_speaks_323 : decode cL_speaks 323 = .ok (.aload 4, 2) := by decide +kernel
theorem dL_speaks_325 : decode cL_speaks 325 = .ok (.bipush 13, 2) := by decide +kernel
theorem dL_speaks_327 : decode cL_speaks 327 = .ok (.invokestatic 98, 3) := by decide +kernel
theorem dL_speaks_330 : decode cL_speaks 330 = .ok (.ifCond .eq 41, 3) := by decide +kernel
theorem dL_speaks_333 : decode cL_speaks 333 = .ok (.aload_n 0, 1) := by decide +kernel
theorem dL_speaks_334 : decode cL_speaks 334 = .ok (.aload_n 1, 1) := by decide +kernel
theorem dL_speaks_335 : decode cL_speaks 335 = .ok (.iload_n 2, 1) := by decide +kernel
theorem dL_speaks_336 : decode cL_speaks 336 = .ok (.iconst 3, 1) := by decide +kernel
theorem dL_speaks_337 : decode cL_speaks 337 = .ok (.iadd, 1) := by decide +kernel
theorem dL_speaks_338 : decode cL_speaks 338 = .ok (.invokestatic 102, 3) := by decide +kernel
theorem dL_speaks_341 : decode cL_speaks 341 = .ok (.aload_n 3, 1) := by decide +kernel
theorem dL_speaks_342 : decode cL_speaks 342 = .ok (.aload 4, 2) := by decide +kernel
theorem dL_speaks_344 : decode cL_speaks 344 = .ok (.iload 5, 2) := by decide +kernel
theorem dL_speaks_346 : decode cL_speaks 346 = .ok (.bipush 12, 2) := by decide +kernel
theorem dL_speaks_348 : decode cL_speaks 348 = .ok (.ishr, 1) := by decide +kernel
theorem dL_speaks_349 : decode cL_speaks 349 = .ok (.iconst 2, 1) := by decide +kernel
theorem dL_speaks_350 : decode cL_speaks 350 = .ok (.invokestatic 94, 3) := by decide +kernel
theorem dL_speaks_353 : decode cL_speaks 353 = .ok (.ifCond .ne 7, 3) := by decide +kernel
theorem dL_speaks_356 : decode cL_speaks 356 = .ok (.iconst 1, 1) := by decide +kernel
theorem dL_speaks_357 : decode cL_speaks 357 = .ok (.goto 4, 3) := by decide +kernel
theorem dL_speaks_360 : decode cL_speaks 360 = .ok (.iconst 0, 1) := by decide +kernel
theorem dL_speaks_361 : decode cL_speaks 361 = .ok (.invokestatic 105, 3) := by decide +kernel
theorem dL_speaks_364 : decode cL_speaks 364 = .ok (.ifCond .eq 7, 3) := by decide +kernel
theorem dL_speaks_367 : decode cL_speaks 367 = .ok (.iconst 1, 1) := by decide +kernel
theorem dL_speaks_368 : decode cL_speaks 368 = .ok (.goto 4, 3) := by decide +kernel
theorem dL_speaks_371 : decode cL_speaks 371 = .ok (.iconst 0, 1) := by decide +kernel
theorem dL_speaks_372 : decode cL_speaks 372 = .ok (.istore 6, 2) := by decide +kernel
theorem dL_speaks_374 : decode cL_speaks 374 = .ok (.iload 7, 2) := by decide +kernel
theorem dL_speaks_376 : decode cL_speaks 376 = .ok (.iconst 2, 1) := by decide +kernel
theorem dL_speaks_377 : decode cL_speaks 377 = .ok (.if_icmp .ne 58, 3) := by decide +kernel
theorem dL_speaks_380 : decode cL_speaks 380 = .ok (.iload 5, 2) := by decide +kernel
theorem dL_speaks_382 : decode cL_speaks 382 = .ok (.bipush 14, 2) := by decide +kernel
theorem dL_speaks_384 : decode cL_speaks 384 = .ok (.ishr, 1) := by decide +kernel
theorem dL_speaks_385 : decode cL_speaks 385 = .ok (.bipush 9, 2) := by decide +kernel
theorem dL_speaks_387 : decode cL_speaks 387 = .ok (.invokestatic 94, 3) := by decide +kernel
theorem dL_speaks_390 : decode cL_speaks 390 = .ok (.ifCond .le 45, 3) := by decide +kernel
theorem dL_speaks_393 : decode cL_speaks 393 = .ok (.iload 6, 2) := by decide +kernel
theorem dL_speaks_395 : decode cL_speaks 395 = .ok (.ifCond .eq 37, 3) := by decide +kernel
theorem dL_speaks_398 : decode cL_speaks 398 = .ok (.aload_n 0, 1) := by decide +kernel
theorem dL_speaks_399 : decode cL_speaks 399 = .ok (.aload_n 3, 1) := by decide +kernel
theorem dL_speaks_400 : decode cL_speaks 400 = .ok (.aload 4, 2) := by decide +kernel
theorem dL_speaks_402 : decode cL_speaks 402 = .ok (.bipush 16, 2) := by decide +kernel
theorem dL_speaks_404 : decode cL_speaks 404 = .ok (.invokestatic 98, 3) := by decide +kernel
theorem dL_speaks_407 : decode cL_speaks 407 = .ok (.ifCond .eq 25, 3) := by decide +kernel
theorem dL_speaks_410 : decode cL_speaks 410 = .ok (.aload_n 0, 1) := by decide +kernel
theorem dL_speaks_411 : decode cL_speaks 411 = .ok (.aload_n 1, 1) := by decide +kernel
theorem dL_speaks_412 : decode cL_speaks 412 = .ok (.iload_n 2, 1) := by decide +kernel
theorem dL_speaks_413 : decode cL_speaks 413 = .ok (.iconst 4, 1) := by decide +kernel
theorem dL_speaks_414 : decode cL_speaks 414 = .ok (.iadd, 1) := by decide +kernel
theorem dL_speaks_415 : decode cL_speaks 415 = .ok (.invokestatic 102, 3) := by decide +kernel
theorem dL_speaks_418 : decode cL_speaks 418 = .ok (.aload_n 3, 1) := by decide +kernel
theorem dL_speaks_419 : decode cL_speaks 419 = .ok (.aload 4, 2) := by decide +kernel
theorem dL_speaks_421 : decode cL_speaks 421 = .ok (.iconst 1, 1) := by decide +kernel
theorem dL_speaks_422 : decode cL_speaks 422 = .ok (.invokestatic 105, 3) := by decide +kernel
theorem dL_speaks_425 : decode cL_speaks 425 = .ok (.ifCond .eq 7, 3) := by decide +kernel
theorem dL_speaks_428 : decode cL_speaks 428 = .ok (.iconst 1, 1) := by decide +kernel
theorem dL_speaks_429 : decode cL_speaks 429 = .ok (.goto 4, 3) := by decide +kernel
theorem dL_speaks_432 : decode cL_speaks 432 = .ok (.iconst 0, 1) := by decide +kernel
theorem dL_speaks_433 : decode cL_speaks 433 = .ok (.istore 6, 2) := by decide +kernel
theorem dL_speaks_435 : decode cL_speaks 435 = .ok (.iload 5, 2) := by decide +kernel
theorem dL_speaks_437 : decode cL_speaks 437 = .ok (.bipush 15, 2) := by decide +kernel
theorem dL_speaks_439 : decode cL_speaks 439 = .ok (.ishr, 1) := by decide +kernel
theorem dL_speaks_440 : decode cL_speaks 440 = .ok (.bipush 12, 2) := by decide +kernel
theorem dL_speaks_442 : decode cL_speaks 442 = .ok (.invokestatic 94, 3) := by decide +kernel
theorem dL_speaks_445 : decode cL_speaks 445 = .ok (.istore 8, 2) := by decide +kernel
theorem dL_speaks_447 : decode cL_speaks 447 = .ok (.iload 8, 2) := by decide +kernel
theorem dL_speaks_449 : decode cL_speaks 449 = .ok (.ifCond .ne 36, 3) := by decide +kernel
theorem dL_speaks_452 : decode cL_speaks 452 = .ok (.aload 4, 2) := by decide +kernel
theorem dL_speaks_454 : decode cL_speaks 454 = .ok (.iconst 1, 1) := by decide +kernel
theorem dL_speaks_455 : decode cL_speaks 455 = .ok (.dup2, 1) := by decide +kernel
theorem dL_speaks_456 : decode cL_speaks 456 = .ok (.iaload, 1) := by decide +kernel
theorem dL_speaks_457 : decode cL_speaks 457 = .ok (.iconst 1, 1) := by decide +kernel
theorem dL_speaks_458 : decode cL_speaks 458 = .ok (.isub, 1) := by decide +kernel
theorem dL_speaks_459 : decode cL_speaks 459 = .ok (.iastore, 1) := by decide +kernel
theorem dL_speaks_460 : decode cL_speaks 460 = .ok (.iload 6, 2) := by decide +kernel
theorem dL_speaks_462 : decode cL_speaks 462 = .ok (.ifCond .eq 20, 3) := by decide +kernel
theorem dL_speaks_465 : decode cL_speaks 465 = .ok (.aload_n 0, 1) := by decide +kernel
theorem dL_speaks_466 : decode cL_speaks 466 = .ok (.invokestatic 109, 3) := by decide +kernel
theorem dL_speaks_469 : decode cL_speaks 469 = .ok (.aload_n 3, 1) := by decide +kernel
theorem dL_speaks_470 : decode cL_speaks 470 = .ok (.aload 4, 2) := by decide +kernel
theorem dL_speaks_472 : decode cL_speaks 472 = .ok (.iconst 1, 1) := by decide +kernel
theorem dL_speaks_473 : decode cL_speaks 473 = .ok (.iaload, 1) := by decide +kernel
theorem dL_speaks_474 : decode cL_speaks 474 = .ok (.iaload, 1) := by decide +kernel
theorem dL_speaks_475 : decode cL_speaks 475 = .ok (.if_icmp .ne 7, 3) := by decide +kernel
theorem dL_speaks_478 : decode cL_speaks 478 = .ok (.iconst 1, 1) := by decide +kernel
theorem dL_speaks_479 : decode cL_speaks 479 = .ok (.goto 4, 3) := by decide +kernel
theorem dL_speaks_482 : decode cL_speaks 482 = .ok (.iconst 0, 1) := by decide +kernel
theorem dL_speaks_483 : decode cL_speaks 483 = .ok (.istore 6, 2) := by decide +kernel
theorem dL_speaks_485 : decode cL_speaks 485 = .ok (.iload 6, 2) := by decide +kernel
theorem dL_speaks_487 : decode cL_speaks 487 = .ok (.ifCond .eq 36, 3) := by decide +kernel
theorem dL_speaks_490 : decode cL_speaks 490 = .ok (.iload 8, 2) := by decide +kernel
theorem dL_speaks_492 : decode cL_speaks 492 = .ok (.iconst 1, 1) := by decide +kernel
theorem dL_speaks_493 : decode cL_speaks 493 = .ok (.if_icmp .ne 26, 3) := by decide +kernel
theorem dL_speaks_496 : decode cL_speaks 496 = .ok (.aload_n 0, 1) := by decide +kernel
theorem dL_speaks_497 : decode cL_speaks 497 = .ok (.aload_n 3, 1) := by decide +kernel
theorem dL_speaks_498 : decode cL_speaks 498 = .ok (.aload 4, 2) := by decide +kernel
theorem dL_speaks_500 : decode cL_speaks 500 = .ok (.bipush 10, 2) := by decide +kernel
theorem dL_speaks_502 : decode cL_speaks 502 = .ok (.iload 5, 2) := by decide +kernel
theorem dL_speaks_504 : decode cL_speaks 504 = .ok (.bipush 10, 2) := by decide +kernel
theorem dL_speaks_506 : decode cL_speaks 506 = .ok (.ishr, 1) := by decide +kernel
theorem dL_speaks_507 : decode cL_speaks 507 = .ok (.bipush 8, 2) := by decide +kernel
theorem dL_speaks_509 : decode cL_speaks 509 = .ok (.invokestatic 94, 3) := by decide +kernel
theorem dL_speaks_512 : decode cL_speaks 512 = .ok (.iadd, 1) := by decide +kernel
theorem dL_speaks_513 : decode cL_speaks 513 = .ok (.invokestatic 98, 3) := by decide +kernel
theorem dL_speaks_516 : decode cL_speaks 516 = .ok (.ifCond .eq 7, 3) := by decide +kernel
theorem dL_speaks_519 : decode cL_speaks 519 = .ok (.iconst 1, 1) := by decide +kernel
theorem dL_speaks_520 : decode cL_speaks 520 = .ok (.goto 4, 3) := by decide +kernel
theorem dL_speaks_523 : decode cL_speaks 523 = .ok (.iconst 0, 1) := by decide +kernel
theorem dL_speaks_524 : decode cL_speaks 524 = .ok (.ireturn, 1) := by decide +kernel
set_option maxRecDepth 20000 in
theorem ggL_tells_L_placed : GoodIn wsL_tells wsL_placed := goodIn_ca (goodIn_r _ [4, 5, 6, 7, 8, 9, 10, 11, 12, 13, 14, 15, 16, 17, 18, 19, 20, 21, 22, 23, 24, 102, 103, 104, 105, 106, 107, 108, 109, 110, 111, 112, 113, 114, 115, 116, 117] (by decide +kernel) (by decide +kernel)) (goodIn_sub (fun _ h => List.mem_cons_of_mem _ (List.mem_append_right _ h)) (by decide +kernel))
set_option maxRecDepth 20000 in
theorem gL_tells_L_placed : GoodIn wsL_tells (va_wsS RL 113 yL_placed wsL_placed) := goodIn_app (goodIn_of _ (by decide +kernel)) ggL_tells_L_placed
set_option maxRecDepth 20000 in
theorem ggL_tells_L_opened : GoodIn wsL_tells wsL_opened := goodIn_ca (goodIn_r _ [27, 5, 28, 29, 30, 9, 31, 11, 12, 13, 14, 15, 16, 17, 18, 19, 32, 33, 34, 102, 103, 104, 105, 106, 107, 108, 109, 110, 111, 112, 113, 114, 115, 116, 117] (by decide +kernel) (by decide +kernel)) (goodIn_sub (fun _ h => List.mem_cons_of_mem _ (List.mem_append_right _ h)) (by decide +kernel))
set_option maxRecDepth 20000 in
theorem gL_tells_L_opened : GoodIn wsL_tells (va_wsS RL 116 yL_opened wsL_opened) := goodIn_app (goodIn_of _ (by decide +kernel)) ggL_tells_L_opened
set_option maxRecDepth 20000 in
theorem ggL_tells_X5_inReach : GoodIn wsL_tells wsX5_inReach := goodIn_r _ [38, 13, 39, 40, 41, 17, 42, 19, 43, 44, 21, 22, 23, 24, 33, 9, 34, 102, 103, 104, 105, 106, 107, 108, 109, 110, 111, 112, 113, 114, 115, 116, 117] (by decide +kernel) (by decide +kernel)
set_option maxRecDepth 20000 in
theorem gL_tells_X5_inReach : GoodIn wsL_tells (wsV RL 119 RX5 yX5_inReach wsX5_inReach) := goodIn_app (goodIn_of _ (by decide +kernel)) ggL_tells_X5_inReach
set_option maxRecDepth 20000 in
theorem ggL_tells_L_reach : GoodIn wsL_tells wsL_reach := goodIn_r _ [47] (by decide +kernel) (by decide +kernel)
set_option maxRecDepth 20000 in
theorem gL_tells_L_reach : GoodIn wsL_tells (va_wsS RL 17 yL_reach wsL_reach) := goodIn_app (goodIn_of _ (by decide +kernel)) ggL_tells_L_reach
set_option maxRecDepth 20000 in
theorem ggL_tells_X5_outcome : GoodIn wsL_tells wsX5_outcome := goodIn_r _ [51, 52, 102, 103, 104, 105, 106, 107, 108, 109, 110, 111] (by decide +kernel) (by decide +kernel)
set_option maxRecDepth 20000 in
theorem gL_tells_X5_outcome : GoodIn wsL_tells (wsV RL 122 RX5 yX5_outcome wsX5_outcome) := goodIn_app (goodIn_of _ (by decide +kernel)) ggL_tells_X5_outcome
set_option maxRecDepth 20000 in
theorem ggL_tells_X5_wrongAt : GoodIn wsL_tells wsX5_wrongAt := goodIn_r _ [56, 57, 102, 103, 104, 105, 106, 107, 108, 109, 110, 111] (by decide +kernel) (by decide +kernel)
set_option maxRecDepth 20000 in
theorem gL_tells_X5_wrongAt : GoodIn wsL_tells (wsV RL 125 RX5 yX5_wrongAt wsX5_wrongAt) := goodIn_app (goodIn_of _ (by decide +kernel)) ggL_tells_X5_wrongAt
set_option maxRecDepth 20000 in
theorem ggL_tells_X5_verb : GoodIn wsL_tells wsX5_verb := goodIn_r _ [61, 62, 102, 103, 104, 105, 106, 107, 108, 109, 110, 111, 118, 119, 120, 121, 122] (by decide +kernel) (by decide +kernel)
set_option maxRecDepth 20000 in
theorem gL_tells_X5_verb : GoodIn wsL_tells (wsV RL 128 RX5 yX5_verb wsX5_verb) := goodIn_app (goodIn_of _ (by decide +kernel)) ggL_tells_X5_verb
set_option maxRecDepth 20000 in
theorem ggL_tells_X5_meant : GoodIn wsL_tells wsX5_meant := goodIn_r _ [66, 62, 102, 103, 104, 105, 106, 107, 108, 109, 110, 111, 118, 119, 120, 121, 122] (by decide +kernel) (by decide +kernel)
set_option maxRecDepth 20000 in
theorem gL_tells_X5_meant : GoodIn wsL_tells (wsV RL 131 RX5 yX5_meant wsX5_meant) := goodIn_app (goodIn_of _ (by decide +kernel)) ggL_tells_X5_meant
set_option maxRecDepth 20000 in
theorem ggL_tells_X5_done : GoodIn wsL_tells wsX5_done := goodIn_r _ [70, 62, 102, 103, 104, 105, 106, 107, 108, 109, 110, 111, 118, 119, 120, 121, 122] (by decide +kernel) (by decide +kernel)
set_option maxRecDepth 20000 in
theorem gL_tells_X5_done : GoodIn wsL_tells (wsV RL 134 RX5 yX5_done wsX5_done) := goodIn_app (goodIn_of _ (by decide +kernel)) ggL_tells_X5_done
set_option maxRecDepth 20000 in
theorem ggL_tells_X5_into : GoodIn wsL_tells wsX5_into := goodIn_r _ [74, 62, 102, 103, 104, 105, 106, 107, 108, 109, 110, 111, 118, 119, 120, 121, 122] (by decide +kernel) (by decide +kernel)
set_option maxRecDepth 20000 in
theorem gL_tells_X5_into : GoodIn wsL_tells (wsV RL 137 RX5 yX5_into wsX5_into) := goodIn_app (goodIn_of _ (by decide +kernel)) ggL_tells_X5_into
set_option maxRecDepth 20000 in
theorem ggL_tells_X5_asked : GoodIn wsL_tells wsX5_asked := goodIn_r _ [78, 79, 102, 103, 104, 105, 106, 107, 108, 109, 110, 111] (by decide +kernel) (by decide +kernel)
set_option maxRecDepth 20000 in
theorem gL_tells_X5_asked : GoodIn wsL_tells (wsV RL 140 RX5 yX5_asked wsX5_asked) := goodIn_app (goodIn_of _ (by decide +kernel)) ggL_tells_X5_asked
set_option maxRecDepth 20000 in
theorem ggL_tells_X5_askedAt : GoodIn wsL_tells wsX5_askedAt := goodIn_r _ [83, 79, 84, 85, 86, 87, 88, 89, 90, 91, 92, 93, 94, 95, 96, 102, 103, 104, 105, 106, 107, 108, 109, 110, 111, 123, 124, 125, 126, 127, 128, 129, 130] (by decide +kernel) (by decide +kernel)
set_option maxRecDepth 20000 in
theorem gL_tells_X5_askedAt : GoodIn wsL_tells (wsV RL 143 RX5 yX5_askedAt wsX5_askedAt) := goodIn_app (goodIn_of _ (by decide +kernel)) ggL_tells_X5_askedAt
set_option maxRecDepth 20000 in
theorem ggL_tells_X5_questions : GoodIn wsL_tells wsX5_questions := goodIn_r _ [100, 101, 102, 103, 104, 105, 106, 107, 108, 109, 110, 111] (by decide +kernel) (by decide +kernel)
set_option maxRecDepth 20000 in
theorem gL_tells_X5_questions : GoodIn wsL_tells (wsV RL 146 RX5 yX5_questions wsX5_questions) := goodIn_app (goodIn_of _ (by decide +kernel)) ggL_tells_X5_questions
theorem dL_tells_0 : decode cL_tells 0 = .ok (.iconst 0, 1) := by decide +kernel
theorem dL_tells_1 : decode cL_tells 1 = .ok (.istore_n 3, 1) := by decide +kernel
theorem dL_tells_2 : decode cL_tells 2 = .ok (.iload_n 3, 1) := by decide +kernel
theorem dL_tells_3 : decode cL_tells 3 = .ok (.aload_n 2, 1) := by decide +kernel
theorem dL_tells_4 : decode cL_tells 4 = .ok (.iconst 0, 1) := by decide +kernel
theorem dL_tells_5 : decode cL_tells 5 = .ok (.iaload, 1) := by decide +kernel
theorem dL_tells_6 : decode cL_tells 6 = .ok (.if_icmp .gt 63, 3) := by decide +kernel
theorem dL_tells_9 : decode cL_tells 9 = .ok (.aload_n 0, 1) := by decide +kernel
theorem dL_tells_10 : decode cL_tells 10 = .ok (.iload_n 3, 1) := by decide +kernel
theorem dL_tells_11 : decode cL_tells 11 = .ok (.invokestatic 113, 3) := by decide +kernel
theorem dL_tells_14 : decode cL_tells 14 = .ok (.iload_n 3, 1) := by decide +kernel
theorem dL_tells_15 : decode cL_tells 15 = .ok (.aload_n 2, 1) := by decide +kernel
theorem dL_tells_16 : decode cL_tells 16 = .ok (.iconst 0, 1) := by decide +kernel
theorem dL_tells_17 : decode cL_tells 17 = .ok (.iaload, 1) := by decide +kernel
theorem dL_tells_18 : decode cL_tells 18 = .ok (.if_icmp .ge 12, 3) := by decide +kernel
theorem dL_tells_21 : decode cL_tells 21 = .ok (.aload_n 1, 1) := by decide +kernel
theorem dL_tells_22 : decode cL_tells 22 = .ok (.bipush 24, 2) := by decide +kernel
theorem dL_tells_24 : decode cL_tells 24 = .ok (.iload_n 3, 1) := by decide +kernel
theorem dL_tells_25 : decode cL_tells 25 = .ok (.iadd, 1) := by decide +kernel
theorem dL_tells_26 : decode cL_tells 26 = .ok (.iaload, 1) := by decide +kernel
theorem dL_tells_27 : decode cL_tells 27 = .ok (.goto 5, 3) := by decide +kernel
theorem dL_tells_30 : decode cL_tells 30 = .ok (.bipush (-101), 2) := by decide +kernel
theorem dL_tells_32 : decode cL_tells 32 = .ok (.if_icmp .ne 29, 3) := by decide +kernel
theorem dL_tells_35 : decode cL_tells 35 = .ok (.aload_n 0, 1) := by decide +kernel
theorem dL_tells_36 : decode cL_tells 36 = .ok (.iload_n 3, 1) := by decide +kernel
theorem dL_tells_37 : decode cL_tells 37 = .ok (.invokestatic 116, 3) := by decide +kernel
theorem dL_tells_40 : decode cL_tells 40 = .ok (.iload_n 3, 1) := by decide +kernel
theorem dL_tells_41 : decode cL_tells 41 = .ok (.aload_n 2, 1) := by decide +kernel
theorem dL_tells_42 : decode cL_tells 42 = .ok (.iconst 0, 1) := by decide +kernel
theorem dL_tells_43 : decode cL_tells 43 = .ok (.iaload, 1) := by decide +kernel
theorem dL_tells_44 : decode cL_tells 44 = .ok (.if_icmp .ge 12, 3) := by decide +kernel
theorem dL_tells_47 : decode cL_tells 47 = .ok (.aload_n 1, 1) := by decide +kernel
theorem dL_tells_48 : decode cL_tells 48 = .ok (.bipush 18, 2) := by decide +kernel
theorem dL_tells_50 : decode cL_tells 50 = .ok (.iload_n 3, 1) := by decide +kernel
theorem dL_tells_51 : decode cL_tells 51 = .ok (.iadd, 1) := by decide +kernel
theorem dL_tells_52 : decode cL_tells 52 = .ok (.iaload, 1) := by decide +kernel
theorem dL_tells_53 : decode cL_tells 53 = .ok (.goto 5, 3) := by decide +kernel
theorem dL_tells_56 : decode cL_tells 56 = .ok (.bipush (-101), 2) := by decide +kernel
theorem dL_tells_58 : decode cL_tells 58 = .ok (.if_icmp .eq 5, 3) := by decide +kernel
theorem dL_tells_61 : decode cL_tells 61 = .ok (.iconst 0, 1) := by decide +kernel
theorem dL_tells_62 : decode cL_tells 62 = .ok (.ireturn, 1) := by decide +kernel
theorem dL_tells_63 : decode cL_tells 63 = .ok (.iinc 3 1, 3) := by decide +kernel
theorem dL_tells_66 : decode cL_tells 66 = .ok (.goto (-64), 3) := by decide +kernel
theorem dL_tells_69 : decode cL_tells 69 = .ok (.aload_n 0, 1) := by decide +kernel
theorem dL_tells_70 : decode cL_tells 70 = .ok (.invokevirtual 119, 3) := by decide +kernel
theorem dL_tells_73 : decode cL_tells 73 = .ok (.aload_n 1, 1) := by decide +kernel
theorem dL_tells_74 : decode cL_tells 74 = .ok (.aload_n 2, 1) := by decide +kernel
theorem dL_tells_75 : decode cL_tells 75 = .ok (.invokestatic 17, 3) := by decide +kernel
theorem dL_tells_78 : decode cL_tells 78 = .ok (.if_icmp .ne 102, 3) := by decide +kernel
theorem dL_tells_81 : decode cL_tells 81 = .ok (.aload_n 0, 1) := by decide +kernel
theorem dL_tells_82 : decode cL_tells 82 = .ok (.invokevirtual 122, 3) := by decide +kernel
theorem dL_tells_85 : decode cL_tells 85 = .ok (.aload_n 2, 1) := by decide +kernel
theorem dL_tells_86 : decode cL_tells 86 = .ok (.iconst 2, 1) := by decide +kernel
theorem dL_tells_87 : decode cL_tells 87 = .ok (.iaload, 1) := by decide +kernel
theorem dL_tells_88 : decode cL_tells 88 = .ok (.if_icmp .ne 92, 3) := by decide +kernel
theorem dL_tells_91 : decode cL_tells 91 = .ok (.aload_n 0, 1) := by decide +kernel
theorem dL_tells_92 : decode cL_tells 92 = .ok (.invokevirtual 125, 3) := by decide +kernel
theorem dL_tells_95 : decode cL_tells 95 = .ok (.aload_n 2, 1) := by decide +kernel
theorem dL_tells_96 : decode cL_tells 96 = .ok (.iconst 3, 1) := by decide +kernel
theorem dL_tells_97 : decode cL_tells 97 = .ok (.iaload, 1) := by decide +kernel
theorem dL_tells_98 : decode cL_tells 98 = .ok (.if_icmp .ne 82, 3) := by decide +kernel
theorem dL_tells_101 : decode cL_tells 101 = .ok (.aload_n 0, 1) := by decide +kernel
theorem dL_tells_102 : decode cL_tells 102 = .ok (.invokevirtual 128, 3) := by decide +kernel
theorem dL_tells_105 : decode cL_tells 105 = .ok (.aload_n 2, 1) := by decide +kernel
theorem dL_tells_106 : decode cL_tells 106 = .ok (.iconst 4, 1) := by decide +kernel
theorem dL_tells_107 : decode cL_tells 107 = .ok (.iaload, 1) := by decide +kernel
theorem dL_tells_108 : decode cL_tells 108 = .ok (.if_icmp .ne 72, 3) := by decide +kernel
theorem dL_tells_111 : decode cL_tells 111 = .ok (.aload_n 0, 1) := by decide +kernel
theorem dL_tells_112 : decode cL_tells 112 = .ok (.invokevirtual 131, 3) := by decide +kernel
theorem dL_tells_115 : decode cL_tells 115 = .ok (.aload_n 2, 1) := by decide +kernel
theorem dL_tells_116 : decode cL_tells 116 = .ok (.iconst 5, 1) := by decide +kernel
theorem dL_tells_117 : decode cL_tells 117 = .ok (.iaload, 1) := by decide +kernel
theorem dL_tells_118 : decode cL_tells 118 = .ok (.if_icmp .ne 62, 3) := by decide +kernel
theorem dL_tells_121 : decode cL_tells 121 = .ok (.aload_n 0, 1) := by decide +kernel
theorem dL_tells_122 : decode cL_tells 122 = .ok (.invokevirtual 134, 3) := by decide +kernel
theorem dL_tells_125 : decode cL_tells 125 = .ok (.aload_n 2, 1) := by decide +kernel
theorem dL_tells_126 : decode cL_tells 126 = .ok (.bipush 6, 2) := by decide +kernel
theorem dL_tells_128 : decode cL_tells 128 = .ok (.iaload, 1) := by decide +kernel
theorem dL_tells_129 : decode cL_tells 129 = .ok (.if_icmp .ne 51, 3) := by decide +kernel
theorem dL_tells_132 : decode cL_tells 132 = .ok (.aload_n 0, 1) := by decide +kernel
theorem dL_tells_133 : decode cL_tells 133 = .ok (.invokevirtual 137, 3) := by decide +kernel
theorem dL_tells_136 : decode cL_tells 136 = .ok (.aload_n 2, 1) := by decide +kernel
theorem dL_tells_137 : decode cL_tells 137 = .ok (.bipush 7, 2) := by decide +kernel
theorem dL_tells_139 : decode cL_tells 139 = .ok (.iaload, 1) := by decide +kernel
theorem dL_tells_140 : decode cL_tells 140 = .ok (.if_icmp .ne 40, 3) := by decide +kernel
theorem dL_tells_143 : decode cL_tells 143 = .ok (.aload_n 0, 1) := by decide +kernel
theorem dL_tells_144 : decode cL_tells 144 = .ok (.invokevirtual 140, 3) := by decide +kernel
theorem dL_tells_147 : decode cL_tells 147 = .ok (.aload_n 2, 1) := by decide +kernel
theorem dL_tells_148 : decode cL_tells 148 = .ok (.bipush 9, 2) := by decide +kernel
theorem dL_tells_150 : decode cL_tells 150 = .ok (.iaload, 1) := by decide +kernel
theorem dL_tells_151 : decode cL_tells 151 = .ok (.if_icmp .ne 29, 3) := by decide +kernel
theorem dL_tells_154 : decode cL_tells 154 = .ok (.aload_n 0, 1) := by decide +kernel
theorem dL_tells_155 : decode cL_tells 155 = .ok (.invokevirtual 143, 3) := by decide +kernel
theorem dL_tells_158 : decode cL_tells 158 = .ok (.aload_n 2, 1) := by decide +kernel
theorem dL_tells_159 : decode cL_tells 159 = .ok (.bipush 10, 2) := by decide +kernel
theorem dL_tells_161 : decode cL_tells 161 = .ok (.iaload, 1) := by decide +kernel
theorem dL_tells_162 : decode cL_tells 162 = .ok (.if_icmp .ne 18, 3) := by decide +kernel
theorem dL_tells_165 : decode cL_tells 165 = .ok (.aload_n 0, 1) := by decide +kernel
theorem dL_tells_166 : decode cL_tells 166 = .ok (.invokevirtual 146, 3) := by decide +kernel
theorem dL_tells_169 : decode cL_tells 169 = .ok (.aload_n 2, 1) := by decide +kernel
theorem dL_tells_170 : decode cL_tells 170 = .ok (.bipush 11, 2) := by decide +kernel
theorem dL_tells_172 : decode cL_tells 172 = .ok (.iaload, 1) := by decide +kernel
theorem dL_tells_173 : decode cL_tells 173 = .ok (.if_icmp .ne 7, 3) := by decide +kernel
theorem dL_tells_176 : decode cL_tells 176 = .ok (.iconst 1, 1) := by decide +kernel
theorem dL_tells_177 : decode cL_tells 177 = .ok (.goto 4, 3) := by decide +kernel
theorem dL_tells_180 : decode cL_tells 180 = .ok (.iconst 0, 1) := by decide +kernel
theorem dL_tells_181 : decode cL_tells 181 = .ok (.ireturn, 1) := by decide +kernel
set_option maxRecDepth 20000 in
theorem ggL_law_X5_init : GoodIn wsL_law wsX5_init := goodIn_r _ [6, 7, 8, 9, 10, 11, 12, 13, 14, 15, 16, 17, 18, 19, 20, 21, 22, 23, 24, 25, 26, 27, 28, 29, 30, 31, 32, 33, 34, 35, 36, 37, 38, 3, 39, 40, 41, 42, 43, 44, 45, 46, 47, 48, 49, 50, 51, 52, 53, 54, 55, 56, 57, 58, 59, 60, 61, 62, 63, 64, 65, 66, 67, 68, 69, 70, 71, 72, 73, 74, 75, 76, 77, 78, 79, 80, 81, 82, 83, 84, 85, 86, 87, 88, 89, 90, 91, 457, 458, 459, 460, 461, 462, 447, 448, 449, 450, 451, 452, 453, 454, 455, 456, 463, 464, 465, 466, 467, 468, 469, 470, 471, 472, 473, 474, 475, 476, 477, 478, 479, 480, 481, 482, 483, 484, 485, 486, 487, 488, 489] (by decide +kernel) (by decide +kernel)
set_option maxRecDepth 20000 in
theorem gL_law_X5_init : GoodIn wsL_law (wsX5_init) := ggL_law_X5_init
set_option maxRecDepth 20000 in
theorem ggL_law_L_cell : GoodIn wsL_law wsL_cell := goodIn_r _ [95, 96] (by decide +kernel) (by decide +kernel)
set_option maxRecDepth 20000 in
theorem gL_law_L_cell : GoodIn wsL_law (va_wsS RL 102 yL_cell wsL_cell) := goodIn_app (goodIn_of _ (by decide +kernel)) ggL_law_L_cell
set_option maxRecDepth 20000 in
theorem ggL_law_L_some : GoodIn wsL_law wsL_some := goodIn_r _ [99] (by decide +kernel) (by decide +kernel)
set_option maxRecDepth 20000 in
theorem gL_law_L_some : GoodIn wsL_law (va_wsS RL 94 yL_some wsL_some) := goodIn_app (goodIn_of _ (by decide +kernel)) ggL_law_L_some
set_option maxRecDepth 20000 in
theorem ggL_law_X5_thing : GoodIn wsL_law wsX5_thing := goodIn_ca (goodIn_ca (goodIn_r _ [103, 104, 105, 106, 107, 13, 108, 109, 110, 12, 111, 42, 39, 40, 41, 43, 447, 448, 449, 450, 451, 452, 453, 454, 455, 456, 457, 458, 459, 460, 461, 462] (by decide +kernel) (by decide +kernel)) (goodIn_sub (fun _ h => List.mem_append_left _ (List.mem_append_left _ (List.mem_append_right _ h))) (by decide +kernel))) (goodIn_sub (fun _ h => List.mem_append_left _ (List.mem_append_right _ h)) (by decide +kernel))
set_option maxRecDepth 20000 in
theorem gL_law_X5_thing : GoodIn wsL_law (wsV RL 150 RX5 yX5_thing wsX5_thing) := goodIn_app (goodIn_of _ (by decide +kernel)) ggL_law_X5_thing
set_option maxRecDepth 20000 in
theorem ggL_law_L_speaks : GoodIn wsL_law wsL_speaks := goodIn_ca (goodIn_ca (goodIn_q _ [92, 93, 94, 95, 96, 97, 98, 99, 115, 116, 117, 118, 119, 120, 121, 122, 123, 124, 125, 2, 126, 104, 105, 106, 107, 17, 127, 128, 129, 130, 131, 132, 133, 134, 135, 136, 137, 138, 16, 139, 50, 49, 140, 141, 142, 143, 144, 145, 146, 147, 148, 149, 150, 151, 152, 153, 447, 448, 449, 450, 451, 452, 453, 454, 455, 456, 463, 464, 465, 466, 467] [114] (by decide +kernel) rfl (by decide +kernel)) (goodIn_sub (fun _ h => List.mem_append_left _ (List.mem_append_left _ (List.mem_append_right _ h))) (by decide +kernel))) (goodIn_sub (fun _ h => List.mem_append_left _ (List.mem_append_right _ h)) (by decide +kernel))
set_option maxRecDepth 20000 in
theorem gL_law_L_speaks : GoodIn wsL_law (va_wsS RL 154 yL_speaks wsL_speaks) := goodIn_app (goodIn_of _ (by decide +kernel)) ggL_law_L_speaks
set_option maxRecDepth 20000 in
theorem ggL_law_L_said : GoodIn wsL_law wsL_said := goodIn_q _ [156, 157, 158, 94, 159, 160, 161, 162, 163, 164, 165, 166, 167, 168, 169, 170, 171, 172, 173, 174, 175, 176, 177, 178, 179, 3, 181, 182, 184, 185, 186, 187, 188, 189, 190, 191, 192, 193, 194, 196, 197, 198, 199, 200, 201, 202, 203, 204] [180, 183, 195] (by decide +kernel) rfl (by decide +kernel)
set_option maxRecDepth 20000 in
theorem gL_law_L_said : GoodIn wsL_law (va_wsS RL 158 yL_said wsL_said) := goodIn_app (goodIn_of _ (by decide +kernel)) ggL_law_L_said
set_option maxRecDepth 20000 in
theorem ggL_law_X5_say : GoodIn wsL_law wsX5_say := goodIn_r _ [208, 31, 17, 30, 32, 34, 209, 210, 211, 16, 212, 51, 50, 49, 130, 131, 2, 132, 213, 214, 215, 216, 21, 217, 218, 219, 220, 33, 221, 222, 223, 20, 224, 59, 58, 225, 226, 227, 228, 229, 230, 231, 232, 233, 234, 235, 236, 237, 238, 60, 61, 62, 63, 64, 65, 239, 240, 241, 242, 243, 244, 245, 246, 247, 248, 249, 250, 251, 252, 253, 254, 255, 256, 257, 258, 52, 53, 134, 135, 259, 260, 261, 262, 263, 264, 265, 266, 267, 268, 269, 270, 271, 272, 273, 274, 29, 275, 276, 277, 28, 278, 79, 80, 87, 88, 89, 279, 280, 281, 12, 282, 42, 44, 283, 284, 285, 286, 41, 287, 288, 82, 83, 84, 85, 86, 90, 91, 289, 290, 291, 292, 43, 293, 294, 295, 296, 297, 298, 299, 300, 301, 302, 81, 303, 304, 305, 306, 307, 308, 309, 310, 311, 312, 313, 314, 315, 316, 317, 318, 319, 39, 40, 320, 321, 322, 323, 324, 325, 326, 327, 328, 329, 330, 331, 332, 333, 334, 335, 336, 337, 338, 339, 340, 341, 342, 13, 25, 343, 344, 345, 346, 347, 348, 349, 350, 351, 352, 353, 354, 355, 356, 357, 358, 359, 24, 360, 70, 71, 72, 73, 74, 361, 362, 363, 364, 365, 366, 367, 368, 369, 370, 371, 372, 373, 374, 375, 376, 377, 378, 379, 380, 381, 382, 383, 447, 448, 449, 450, 451, 452, 453, 454, 455, 456, 463, 464, 465, 466, 467, 468, 469, 470, 471, 472, 473, 474, 475, 481, 482, 483, 484, 485, 486, 487, 488, 489, 457, 458, 459, 460, 461, 462, 476, 477, 478, 479, 480] (by decide +kernel) (by decide +kernel)
set_option maxRecDepth 20000 in
theorem gL_law_X5_say : GoodIn wsL_law (wsV RL 162 RX5 yX5_say wsX5_say) := goodIn_app (goodIn_of _ (by decide +kernel)) ggL_law_X5_say
set_option maxRecDepth 20000 in
theorem ggL_law_L_tells : GoodIn wsL_law wsL_tells := goodIn_ca (goodIn_r _ [386, 387, 388, 94, 389, 390, 391, 392, 393, 2, 394, 395, 396, 13, 397, 349, 350, 12, 351, 42, 398, 284, 285, 286, 41, 399, 400, 401, 402, 403, 404, 405, 343, 287, 288, 406, 407, 408, 409, 410, 280, 281, 282, 44, 283, 184, 185, 186, 411, 412, 413, 414, 30, 415, 416, 417, 418, 31, 419, 420, 421, 422, 25, 423, 424, 425, 426, 427, 428, 429, 430, 431, 432, 433, 434, 435, 436, 437, 438, 32, 439, 440, 441, 442, 21, 33, 335, 336, 337, 20, 338, 64, 247, 248, 249, 250, 59, 443, 444, 445, 446, 34, 447, 448, 449, 450, 451, 452, 453, 454, 455, 456, 457, 458, 459, 460, 461, 462, 476, 477, 478, 479, 480, 468, 469, 470, 471, 472, 473, 474, 475] (by decide +kernel) (by decide +kernel)) (goodIn_sub (fun _ h => List.mem_append_right _ h) (by decide +kernel))
set_option maxRecDepth 20000 in
theorem gL_law_L_tells : GoodIn wsL_law (va_wsS RL 165 yL_tells wsL_tells) := goodIn_app (goodIn_of _ (by decide +kernel)) ggL_law_L_tells
set_option maxRecDepth 20000 in
theorem ggL_law_L_backed : GoodIn wsL_law wsL_backed := goodIn_ca (goodIn_r _ [145, 122, 146, 147, 148, 2, 149, 106, 107, 17, 150, 151, 152, 16, 153, 50, 49, 447, 448, 449, 450, 451, 452, 453, 454, 455, 456, 463, 464, 465, 466, 467] (by decide +kernel) (by decide +kernel)) (goodIn_sub (fun _ h => List.mem_append_left _ (List.mem_append_right _ h)) (by decide +kernel))
set_option maxRecDepth 20000 in
theorem gL_law_L_backed : GoodIn wsL_law (va_wsS RL 109 yL_backed wsL_backed) := goodIn_app (goodIn_of _ (by decide +kernel)) ggL_law_L_backed
theorem dL_law_0 : decode cL_law 0 = .ok (.new 9, 3) := by decide +kernel
theorem dL_law_3 : decode cL_law 3 = .ok (.dup, 1) := by decide +kernel
theorem dL_law_4 : decode cL_law 4 = .ok (.invokespecial 149, 3) := by decide +kernel
theorem dL_law_7 : decode cL_law 7 = .ok (.astore_n 1, 1) := by decide +kernel
theorem dL_law_8 : decode cL_law 8 = .ok (.bipush 30, 2) := by decide +kernel
theorem dL_law_10 : decode cL_law 10 = .ok (.newarray .int, 2) := by decide +kernel
theorem dL_law_12 : decode cL_law 12 = .ok (.astore_n 2, 1) := by decide +kernel
theorem dL_law_13 : decode cL_law 13 = .ok (.bipush 13, 2) := by decide +kernel
theorem dL_law_15 : decode cL_law 15 = .ok (.newarray .int, 2) := by decide +kernel
theorem dL_law_17 : decode cL_law 17 = .ok (.astore_n 3, 1) := by decide +kernel
theorem dL_law_18 : decode cL_law 18 = .ok (.bipush 24, 2) := by decide +kernel
theorem dL_law_20 : decode cL_law 20 = .ok (.newarray .int, 2) := by decide +kernel
theorem dL_law_22 : decode cL_law 22 = .ok (.astore 4, 2) := by decide +kernel
theorem dL_law_24 : decode cL_law 24 = .ok (.bipush 24, 2) := by decide +kernel
theorem dL_law_26 : decode cL_law 26 = .ok (.newarray .int, 2) := by decide +kernel
theorem dL_law_28 : decode cL_law 28 = .ok (.astore 5, 2) := by decide +kernel
theorem dL_law_30 : decode cL_law 30 = .ok (.bipush 24, 2) := by decide +kernel
theorem dL_law_32 : decode cL_law 32 = .ok (.newarray .int, 2) := by decide +kernel
theorem dL_law_34 : decode cL_law 34 = .ok (.astore 6, 2) := by decide +kernel
theorem dL_law_36 : decode cL_law 36 = .ok (.aload_n 3, 1) := by decide +kernel
theorem dL_law_37 : decode cL_law 37 = .ok (.iconst 2, 1) := by decide +kernel
theorem dL_law_38 : decode cL_law 38 = .ok (.iconst (-1), 1) := by decide +kernel
theorem dL_law_39 : decode cL_law 39 = .ok (.iastore, 1) := by decide +kernel
theorem dL_law_40 : decode cL_law 40 = .ok (.aload_n 3, 1) := by decide +kernel
theorem dL_law_41 : decode cL_law 41 = .ok (.iconst 3, 1) := by decide +kernel
theorem dL_law_42 : decode cL_law 42 = .ok (.iconst (-1), 1) := by decide +kernel
theorem dL_law_43 : decode cL_law 43 = .ok (.iastore, 1) := by decide +kernel
theorem dL_law_44 : decode cL_law 44 = .ok (.aload_n 3, 1) := by decide +kernel
theorem dL_law_45 : decode cL_law 45 = .ok (.iconst 4, 1) := by decide +kernel
theorem dL_law_46 : decode cL_law 46 = .ok (.iconst (-1), 1) := by decide +kernel
theorem dL_law_47 : decode cL_law 47 = .ok (.iastore, 1) := by decide +kernel
theorem dL_law_48 : decode cL_law 48 = .ok (.aload_n 3, 1) := by decide +kernel
theorem dL_law_49 : decode cL_law 49 = .ok (.bipush 7, 2) := by decide +kernel
theorem dL_law_51 : decode cL_law 51 = .ok (.iconst (-1), 1) := by decide +kernel
theorem dL_law_52 : decode cL_law 52 = .ok (.iastore, 1) := by decide +kernel
theorem dL_law_53 : decode cL_law 53 = .ok (.aload_n 3, 1) := by decide +kernel
theorem dL_law_54 : decode cL_law 54 = .ok (.bipush 8, 2) := by decide +kernel
theorem dL_law_56 : decode cL_law 56 = .ok (.iconst (-1), 1) := by decide +kernel
theorem dL_law_57 : decode cL_law 57 = .ok (.iastore, 1) := by decide +kernel
theorem dL_law_58 : decode cL_law 58 = .ok (.aload_n 3, 1) := by decide +kernel
theorem dL_law_59 : decode cL_law 59 = .ok (.bipush 10, 2) := by decide +kernel
theorem dL_law_61 : decode cL_law 61 = .ok (.iconst (-1), 1) := by decide +kernel
theorem dL_law_62 : decode cL_law 62 = .ok (.iastore, 1) := by decide +kernel
theorem dL_law_63 : decode cL_law 63 = .ok (.iconst 0, 1) := by decide +kernel
theorem dL_law_64 : decode cL_law 64 = .ok (.istore 7, 2) := by decide +kernel
theorem dL_law_66 : decode cL_law 66 = .ok (.iload 7, 2) := by decide +kernel
theorem dL_law_68 : decode cL_law 68 = .ok (.bipush 40, 2) := by decide +kernel
theorem dL_law_70 : decode cL_law 70 = .ok (.if_icmp .ge 242, 3) := by decide +kernel
theorem dL_law_73 : decode cL_law 73 = .ok (.aload_n 0, 1) := by decide +kernel
theorem dL_law_74 : decode cL_law 74 = .ok (.bipush 6, 2) := by decide +kernel
theorem dL_law_76 : decode cL_law 76 = .ok (.iload 7, 2) := by decide +kernel
theorem dL_law_78 : decode cL_law 78 = .ok (.imul, 1) := by decide +kernel
theorem dL_law_79 : decode cL_law 79 = .ok (.invokestatic 102, 3) := by decide +kernel
theorem dL_law_82 : decode cL_law 82 = .ok (.istore 8, 2) := by decide +kernel
theorem dL_law_84 : decode cL_law 84 = .ok (.aload_n 3, 1) := by decide +kernel
theorem dL_law_85 : decode cL_law 85 = .ok (.iconst 0, 1) := by decide +kernel
theorem dL_law_86 : decode cL_law 86 = .ok (.iaload, 1) := by decide +kernel
theorem dL_law_87 : decode cL_law 87 = .ok (.bipush 6, 2) := by decide +kernel
theorem dL_law_89 : decode cL_law 89 = .ok (.if_icmp .ge 130, 3) := by decide +kernel
theorem dL_law_92 : decode cL_law 92 = .ok (.iload 7, 2) := by decide +kernel
theorem dL_law_94 : decode cL_law 94 = .ok (.iconst 3, 1) := by decide +kernel
theorem dL_law_95 : decode cL_law 95 = .ok (.if_icmp .lt 13, 3) := by decide +kernel
theorem dL_law_98 : decode cL_law 98 = .ok (.iload 8, 2) := by decide +kernel
theorem dL_law_100 : decode cL_law 100 = .ok (.bipush 11, 2) := by decide +kernel
theorem dL_law_102 : decode cL_law 102 = .ok (.invokestatic 94, 3) := by decide +kernel
theorem dL_law_105 : decode cL_law 105 = .ok (.ifCond .ne 114, 3) := by decide +kernel
theorem dL_law_108 : decode cL_law 108 = .ok (.aload_n 3, 1) := by decide +kernel
theorem dL_law_109 : decode cL_law 109 = .ok (.iconst 0, 1) := by decide +kernel
theorem dL_law_110 : decode cL_law 110 = .ok (.iaload, 1) := by decide +kernel
theorem dL_law_111 : decode cL_law 111 = .ok (.istore 9, 2) := by decide +kernel
theorem dL_law_113 : decode cL_law 113 = .ok (.aload_n 2, 1) := by decide +kernel
theorem dL_law_114 : decode cL_law 114 = .ok (.iload 9, 2) := by decide +kernel
theorem dL_law_116 : decode cL_law 116 = .ok (.iload 8, 2) := by decide +kernel
theorem dL_law_118 : decode cL_law 118 = .ok (.iconst 4, 1) := by decide +kernel
theorem dL_law_119 : decode cL_law 119 = .ok (.ishr, 1) := by decide +kernel
theorem dL_law_120 : decode cL_law 120 = .ok (.iconst 2, 1) := by decide +kernel
theorem dL_law_121 : decode cL_law 121 = .ok (.invokestatic 94, 3) := by decide +kernel
theorem dL_law_124 : decode cL_law 124 = .ok (.iastore, 1) := by decide +kernel
theorem dL_law_125 : decode cL_law 125 = .ok (.aload_n 2, 1) := by decide +kernel
theorem dL_law_126 : decode cL_law 126 = .ok (.bipush 6, 2) := by decide +kernel
theorem dL_law_128 : decode cL_law 128 = .ok (.iload 9, 2) := by decide +kernel
theorem dL_law_130 : decode cL_law 130 = .ok (.iadd, 1) := by decide +kernel
theorem dL_law_131 : decode cL_law 131 = .ok (.iload 8, 2) := by decide +kernel
theorem dL_law_133 : decode cL_law 133 = .ok (.bipush 6, 2) := by decide +kernel
theorem dL_law_135 : decode cL_law 135 = .ok (.ishr, 1) := by decide +kernel
theorem dL_law_136 : decode cL_law 136 = .ok (.iconst 4, 1) := by decide +kernel
theorem dL_law_137 : decode cL_law 137 = .ok (.invokestatic 94, 3) := by decide +kernel
theorem dL_law_140 : decode cL_law 140 = .ok (.iastore, 1) := by decide +kernel
theorem dL_law_141 : decode cL_law 141 = .ok (.aload_n 2, 1) := by decide +kernel
theorem dL_law_142 : decode cL_law 142 = .ok (.bipush 12, 2) := by decide +kernel
theorem dL_law_144 : decode cL_law 144 = .ok (.iload 9, 2) := by decide +kernel
theorem dL_law_146 : decode cL_law 146 = .ok (.iadd, 1) := by decide +kernel
theorem dL_law_147 : decode cL_law 147 = .ok (.iload 8, 2) := by decide +kernel
theorem dL_law_149 : decode cL_law 149 = .ok (.bipush 9, 2) := by decide +kernel
theorem dL_law_151 : decode cL_law 151 = .ok (.ishr, 1) := by decide +kernel
theorem dL_law_152 : decode cL_law 152 = .ok (.iconst 3, 1) := by decide +kernel
theorem dL_law_153 : decode cL_law 153 = .ok (.invokestatic 94, 3) := by decide +kernel
theorem dL_law_156 : decode cL_law 156 = .ok (.ifCond .le 7, 3) := by decide +kernel
theorem dL_law_159 : decode cL_law 159 = .ok (.iconst 1, 1) := by decide +kernel
theorem dL_law_160 : decode cL_law 160 = .ok (.goto 4, 3) := by decide +kernel
theorem dL_law_163 : decode cL_law 163 = .ok (.iconst 0, 1) := by decide +kernel
theorem dL_law_164 : decode cL_law 164 = .ok (.iastore, 1) := by decide +kernel
theorem dL_law_165 : decode cL_law 165 = .ok (.aload_n 2, 1) := by decide +kernel
theorem dL_law_166 : decode cL_law 166 = .ok (.bipush 24, 2) := by decide +kernel
theorem dL_law_168 : decode cL_law 168 = .ok (.iload 9, 2) := by decide +kernel
theorem dL_law_170 : decode cL_law 170 = .ok (.iadd, 1) := by decide +kernel
theorem dL_law_171 : decode cL_law 171 = .ok (.bipush (-2), 2) := by decide +kernel
theorem dL_law_173 : decode cL_law 173 = .ok (.iastore, 1) := by decide +kernel
theorem dL_law_174 : decode cL_law 174 = .ok (.aload_n 3, 1) := by decide +kernel
theorem dL_law_175 : decode cL_law 175 = .ok (.iconst 0, 1) := by decide +kernel
theorem dL_law_176 : decode cL_law 176 = .ok (.dup2, 1) := by decide +kernel
theorem dL_law_177 : decode cL_law 177 = .ok (.iaload, 1) := by decide +kernel
theorem dL_law_178 : decode cL_law 178 = .ok (.iconst 1, 1) := by decide +kernel
theorem dL_law_179 : decode cL_law 179 = .ok (.iadd, 1) := by decide +kernel
theorem dL_law_180 : decode cL_law 180 = .ok (.iastore, 1) := by decide +kernel
theorem dL_law_181 : decode cL_law 181 = .ok (.aload_n 1, 1) := by decide +kernel
theorem dL_law_182 : decode cL_law 182 = .ok (.aload_n 2, 1) := by decide +kernel
theorem dL_law_183 : decode cL_law 183 = .ok (.iload 9, 2) := by decide +kernel
theorem dL_law_185 : decode cL_law 185 = .ok (.iaload, 1) := by decide +kernel
theorem dL_law_186 : decode cL_law 186 = .ok (.aload_n 2, 1) := by decide +kernel
theorem dL_law_187 : decode cL_law 187 = .ok (.bipush 6, 2) := by decide +kernel
theorem dL_law_189 : decode cL_law 189 = .ok (.iload 9, 2) := by decide +kernel
theorem dL_law_191 : decode cL_law 191 = .ok (.iadd, 1) := by decide +kernel
theorem dL_law_192 : decode cL_law 192 = .ok (.iaload, 1) := by decide +kernel
theorem dL_law_193 : decode cL_law 193 = .ok (.aload_n 2, 1) := by decide +kernel
theorem dL_law_194 : decode cL_law 194 = .ok (.bipush 12, 2) := by decide +kernel
theorem dL_law_196 : decode cL_law 196 = .ok (.iload 9, 2) := by decide +kernel
theorem dL_law_198 : decode cL_law 198 = .ok (.iadd, 1) := by decide +kernel
theorem dL_law_199 : decode cL_law 199 = .ok (.iaload, 1) := by decide +kernel
theorem dL_law_200 : decode cL_law 200 = .ok (.iconst 1, 1) := by decide +kernel
theorem dL_law_201 : decode cL_law 201 = .ok (.if_icmp .ne 7, 3) := by decide +kernel
theorem dL_law_204 : decode cL_law 204 = .ok (.iconst 1, 1) := by decide +kernel
theorem dL_law_205 : decode cL_law 205 = .ok (.goto 4, 3) := by decide +kernel
theorem dL_law_208 : decode cL_law 208 = .ok (.iconst 0, 1) := by decide +kernel
theorem dL_law_209 : decode cL_law 209 = .ok (.invokevirtual 150, 3) := by decide +kernel
theorem dL_law_212 : decode cL_law 212 = .ok (.iload 9, 2) := by decide +kernel
theorem dL_law_214 : decode cL_law 214 = .ok (.if_icmp .eq 5, 3) := by decide +kernel
theorem dL_law_217 : decode cL_law 217 = .ok (.iconst 0, 1) := by decide +kernel
theorem dL_law_218 : decode cL_law 218 = .ok (.ireturn, 1) := by decide +kernel
theorem dL_law_219 : decode cL_law 219 = .ok (.aload_n 3, 1) := by decide +kernel
theorem dL_law_220 : decode cL_law 220 = .ok (.iconst 1, 1) := by decide +kernel
theorem dL_law_221 : decode cL_law 221 = .ok (.iconst 0, 1) := by decide +kernel
theorem dL_law_222 : decode cL_law 222 = .ok (.iastore, 1) := by decide +kernel
theorem dL_law_223 : decode cL_law 223 = .ok (.aload_n 1, 1) := by decide +kernel
theorem dL_law_224 : decode cL_law 224 = .ok (.aload_n 0, 1) := by decide +kernel
theorem dL_law_225 : decode cL_law 225 = .ok (.bipush 6, 2) := by decide +kernel
theorem dL_law_227 : decode cL_law 227 = .ok (.iload 7, 2) := by decide +kernel
theorem dL_law_229 : decode cL_law 229 = .ok (.imul, 1) := by decide +kernel
theorem dL_law_230 : decode cL_law 230 = .ok (.iconst 1, 1) := by decide +kernel
theorem dL_law_231 : decode cL_law 231 = .ok (.iadd, 1) := by decide +kernel
theorem dL_law_232 : decode cL_law 232 = .ok (.aload 4, 2) := by decide +kernel
theorem dL_law_234 : decode cL_law 234 = .ok (.aload_n 3, 1) := by decide +kernel
theorem dL_law_235 : decode cL_law 235 = .ok (.invokestatic 154, 3) := by decide +kernel
theorem dL_law_238 : decode cL_law 238 = .ok (.ifCond .ne 5, 3) := by decide +kernel
theorem dL_law_241 : decode cL_law 241 = .ok (.iconst 0, 1) := by decide +kernel
theorem dL_law_242 : decode cL_law 242 = .ok (.ireturn, 1) := by decide +kernel
theorem dL_law_243 : decode cL_law 243 = .ok (.aload_n 3, 1) := by decide +kernel
theorem dL_law_244 : decode cL_law 244 = .ok (.iconst 2, 1) := by decide +kernel
theorem dL_law_245 : decode cL_law 245 = .ok (.aload_n 2, 1) := by decide +kernel
theorem dL_law_246 : decode cL_law 246 = .ok (.aload_n 3, 1) := by decide +kernel
theorem dL_law_247 : decode cL_law 247 = .ok (.aload 4, 2) := by decide +kernel
theorem dL_law_249 : decode cL_law 249 = .ok (.aload 5, 2) := by decide +kernel
theorem dL_law_251 : decode cL_law 251 = .ok (.aload 6, 2) := by decide +kernel
theorem dL_law_253 : decode cL_law 253 = .ok (.invokestatic 158, 3) := by decide +kernel
theorem dL_law_256 : decode cL_law 256 = .ok (.iastore, 1) := by decide +kernel
theorem dL_law_257 : decode cL_law 257 = .ok (.aload_n 3, 1) := by decide +kernel
theorem dL_law_258 : decode cL_law 258 = .ok (.bipush 11, 2) := by decide +kernel
theorem dL_law_260 : decode cL_law 260 = .ok (.dup2, 1) := by decide +kernel
theorem dL_law_261 : decode cL_law 261 = .ok (.iaload, 1) := by decide +kernel
theorem dL_law_262 : decode cL_law 262 = .ok (.aload_n 3, 1) := by decide +kernel
theorem dL_law_263 : decode cL_law 263 = .ok (.iconst 2, 1) := by decide +kernel
theorem dL_law_264 : decode cL_law 264 = .ok (.iaload, 1) := by decide +kernel
theorem dL_law_265 : decode cL_law 265 = .ok (.iconst 1, 1) := by decide +kernel
theorem dL_law_266 : decode cL_law 266 = .ok (.if_icmp .ne 7, 3) := by decide +kernel
theorem dL_law_269 : decode cL_law 269 = .ok (.iconst 1, 1) := by decide +kernel
theorem dL_law_270 : decode cL_law 270 = .ok (.goto 4, 3) := by decide +kernel
theorem dL_law_273 : decode cL_law 273 = .ok (.iconst 0, 1) := by decide +kernel
theorem dL_law_274 : decode cL_law 274 = .ok (.iadd, 1) := by decide +kernel
theorem dL_law_275 : decode cL_law 275 = .ok (.iastore, 1) := by decide +kernel
theorem dL_law_276 : decode cL_law 276 = .ok (.aload_n 1, 1) := by decide +kernel
theorem dL_law_277 : decode cL_law 277 = .ok (.invokevirtual 162, 3) := by decide +kernel
theorem dL_law_280 : decode cL_law 280 = .ok (.aload_n 3, 1) := by decide +kernel
theorem dL_law_281 : decode cL_law 281 = .ok (.iconst 2, 1) := by decide +kernel
theorem dL_law_282 : decode cL_law 282 = .ok (.iaload, 1) := by decide +kernel
theorem dL_law_283 : decode cL_law 283 = .ok (.if_icmp .ne 21, 3) := by decide +kernel
theorem dL_law_286 : decode cL_law 286 = .ok (.aload_n 1, 1) := by decide +kernel
theorem dL_law_287 : decode cL_law 287 = .ok (.aload_n 2, 1) := by decide +kernel
theorem dL_law_288 : decode cL_law 288 = .ok (.aload_n 3, 1) := by decide +kernel
theorem dL_law_289 : decode cL_law 289 = .ok (.invokestatic 165, 3) := by decide +kernel
theorem dL_law_292 : decode cL_law 292 = .ok (.ifCond .eq 12, 3) := by decide +kernel
theorem dL_law_295 : decode cL_law 295 = .ok (.aload_n 1, 1) := by decide +kernel
theorem dL_law_296 : decode cL_law 296 = .ok (.invokestatic 109, 3) := by decide +kernel
theorem dL_law_299 : decode cL_law 299 = .ok (.bipush (-101), 2) := by decide +kernel
theorem dL_law_301 : decode cL_law 301 = .ok (.if_icmp .eq 5, 3) := by decide +kernel
theorem dL_law_304 : decode cL_law 304 = .ok (.iconst 0, 1) := by decide +kernel
theorem dL_law_305 : decode cL_law 305 = .ok (.ireturn, 1) := by decide +kernel
theorem dL_law_306 : decode cL_law 306 = .ok (.iinc 7 1, 3) := by decide +kernel
theorem dL_law_309 : decode cL_law 309 = .ok (.goto (-243), 3) := by decide +kernel
theorem dL_law_312 : decode cL_law 312 = .ok (.iconst 1, 1) := by decide +kernel
theorem dL_law_313 : decode cL_law 313 = .ok (.ireturn, 1) := by decide +kernel
abbrev vwCl : List vw_C := [(RX0, TX0, 9), (RX1, TX1, 5), (RX2, TX2, 8), (RX3, TX3, 5), (RX4, TX4, 6), (RX5, TX5, 10)]
