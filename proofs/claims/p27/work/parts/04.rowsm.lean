theorem dL_act_364 : decode cL_act 364 = .ok (.if_icmp .ge 8, 3) := by decide +kernel
theorem dL_act_367 : decode cL_act 367 = .ok (.bipush 7, 2) := by decide +kernel
theorem dL_act_369 : decode cL_act 369 = .ok (.goto 38, 3) := by decide +kernel
theorem dL_act_372 : decode cL_act 372 = .ok (.iload_n 3, 1) := by decide +kernel
theorem dL_act_373 : decode cL_act 373 = .ok (.bipush 20, 2) := by decide +kernel
theorem dL_act_375 : decode cL_act 375 = .ok (.if_icmp .ge 8, 3) := by decide +kernel
theorem dL_act_378 : decode cL_act 378 = .ok (.bipush 8, 2) := by decide +kernel
theorem dL_act_380 : decode cL_act 380 = .ok (.goto 27, 3) := by decide +kernel
theorem dL_act_383 : decode cL_act 383 = .ok (.iload_n 3, 1) := by decide +kernel
theorem dL_act_384 : decode cL_act 384 = .ok (.bipush 24, 2) := by decide +kernel
theorem dL_act_386 : decode cL_act 386 = .ok (.if_icmp .ge 8, 3) := by decide +kernel
theorem dL_act_389 : decode cL_act 389 = .ok (.bipush 9, 2) := by decide +kernel
theorem dL_act_391 : decode cL_act 391 = .ok (.goto 16, 3) := by decide +kernel
theorem dL_act_394 : decode cL_act 394 = .ok (.iload_n 3, 1) := by decide +kernel
theorem dL_act_395 : decode cL_act 395 = .ok (.bipush 28, 2) := by decide +kernel
theorem dL_act_397 : decode cL_act 397 = .ok (.if_icmp .ge 8, 3) := by decide +kernel
theorem dL_act_400 : decode cL_act 400 = .ok (.bipush 10, 2) := by decide +kernel
theorem dL_act_402 : decode cL_act 402 = .ok (.goto 5, 3) := by decide +kernel
theorem dL_act_405 : decode cL_act 405 = .ok (.bipush 11, 2) := by decide +kernel
theorem dL_act_407 : decode cL_act 407 = .ok (.istore 6, 2) := by decide +kernel
theorem dL_act_409 : decode cL_act 409 = .ok (.iload 6, 2) := by decide +kernel
theorem dL_act_411 : decode cL_act 411 = .ok (.iconst 5, 1) := by decide +kernel
theorem dL_act_412 : decode cL_act 412 = .ok (.if_icmp .ne 34, 3) := by decide +kernel
theorem dL_act_415 : decode cL_act 415 = .ok (.iload_n 1, 1) := by decide +kernel
theorem dL_act_416 : decode cL_act 416 = .ok (.bipush 9, 2) := by decide +kernel
theorem dL_act_418 : decode cL_act 418 = .ok (.ishr, 1) := by decide +kernel
theorem dL_act_419 : decode cL_act 419 = .ok (.iload_n 2, 1) := by decide +kernel
theorem dL_act_420 : decode cL_act 420 = .ok (.ifCond .eq 8, 3) := by decide +kernel
theorem dL_act_423 : decode cL_act 423 = .ok (.bipush 13, 2) := by decide +kernel
theorem dL_act_425 : decode cL_act 425 = .ok (.goto 5, 3) := by decide +kernel
theorem dL_act_428 : decode cL_act 428 = .ok (.bipush 10, 2) := by decide +kernel
theorem dL_act_430 : decode cL_act 430 = .ok (.invokestatic 76, 3) := by decide +kernel
theorem dL_act_433 : decode cL_act 433 = .ok (.iload_n 2, 1) := by decide +kernel
theorem dL_act_434 : decode cL_act 434 = .ok (.ifCond .eq 7, 3) := by decide +kernel
theorem dL_act_437 : decode cL_act 437 = .ok (.iconst 0, 1) := by decide +kernel
theorem dL_act_438 : decode cL_act 438 = .ok (.goto 4, 3) := by decide +kernel
theorem dL_act_441 : decode cL_act 441 = .ok (.iconst 1, 1) := by decide +kernel
theorem dL_act_442 : decode cL_act 442 = .ok (.iadd, 1) := by decide +kernel
theorem dL_act_443 : decode cL_act 443 = .ok (.goto 104, 3) := by decide +kernel
theorem dL_act_446 : decode cL_act 446 = .ok (.iload 6, 2) := by decide +kernel
theorem dL_act_448 : decode cL_act 448 = .ok (.bipush 6, 2) := by decide +kernel
theorem dL_act_450 : decode cL_act 450 = .ok (.if_icmp .ne 23, 3) := by decide +kernel
theorem dL_act_453 : decode cL_act 453 = .ok (.iload_n 1, 1) := by decide +kernel
theorem dL_act_454 : decode cL_act 454 = .ok (.bipush 9, 2) := by decide +kernel
theorem dL_act_456 : decode cL_act 456 = .ok (.ishr, 1) := by decide +kernel
theorem dL_act_457 : decode cL_act 457 = .ok (.iload_n 2, 1) := by decide +kernel
theorem dL_act_458 : decode cL_act 458 = .ok (.ifCond .eq 8, 3) := by decide +kernel
theorem dL_act_461 : decode cL_act 461 = .ok (.bipush 10, 2) := by decide +kernel
theorem dL_act_463 : decode cL_act 463 = .ok (.goto 4, 3) := by decide +kernel
theorem dL_act_466 : decode cL_act 466 = .ok (.iconst 5, 1) := by decide +kernel
theorem dL_act_467 : decode cL_act 467 = .ok (.invokestatic 76, 3) := by decide +kernel
theorem dL_act_470 : decode cL_act 470 = .ok (.goto 77, 3) := by decide +kernel
theorem dL_act_473 : decode cL_act 473 = .ok (.iload 6, 2) := by decide +kernel
theorem dL_act_475 : decode cL_act 475 = .ok (.bipush 9, 2) := by decide +kernel
theorem dL_act_477 : decode cL_act 477 = .ok (.if_icmp .ne 8, 3) := by decide +kernel
theorem dL_act_480 : decode cL_act 480 = .ok (.iload 5, 2) := by decide +kernel
theorem dL_act_482 : decode cL_act 482 = .ok (.goto 65, 3) := by decide +kernel
theorem dL_act_485 : decode cL_act 485 = .ok (.iload 6, 2) := by decide +kernel
theorem dL_act_487 : decode cL_act 487 = .ok (.bipush 10, 2) := by decide +kernel
theorem dL_act_489 : decode cL_act 489 = .ok (.if_icmp .ne 25, 3) := by decide +kernel
theorem dL_act_492 : decode cL_act 492 = .ok (.iconst 1, 1) := by decide +kernel
theorem dL_act_493 : decode cL_act 493 = .ok (.iload_n 1, 1) := by decide +kernel
theorem dL_act_494 : decode cL_act 494 = .ok (.bipush 9, 2) := by decide +kernel
theorem dL_act_496 : decode cL_act 496 = .ok (.ishr, 1) := by decide +kernel
theorem dL_act_497 : decode cL_act 497 = .ok (.iload_n 2, 1) := by decide +kernel
theorem dL_act_498 : decode cL_act 498 = .ok (.ifCond .eq 8, 3) := by decide +kernel
theorem dL_act_501 : decode cL_act 501 = .ok (.bipush 6, 2) := by decide +kernel
theorem dL_act_503 : decode cL_act 503 = .ok (.goto 4, 3) := by decide +kernel
theorem dL_act_506 : decode cL_act 506 = .ok (.iconst 4, 1) := by decide +kernel
theorem dL_act_507 : decode cL_act 507 = .ok (.invokestatic 76, 3) := by decide +kernel
theorem dL_act_510 : decode cL_act 510 = .ok (.iadd, 1) := by decide +kernel
theorem dL_act_511 : decode cL_act 511 = .ok (.goto 36, 3) := by decide +kernel
theorem dL_act_514 : decode cL_act 514 = .ok (.iload_n 1, 1) := by decide +kernel
theorem dL_act_515 : decode cL_act 515 = .ok (.bipush 12, 2) := by decide +kernel
theorem dL_act_517 : decode cL_act 517 = .ok (.ishr, 1) := by decide +kernel
theorem dL_act_518 : decode cL_act 518 = .ok (.iload_n 2, 1) := by decide +kernel
theorem dL_act_519 : decode cL_act 519 = .ok (.ifCond .eq 7, 3) := by decide +kernel
theorem dL_act_522 : decode cL_act 522 = .ok (.iconst 5, 1) := by decide +kernel
theorem dL_act_523 : decode cL_act 523 = .ok (.goto 4, 3) := by decide +kernel
theorem dL_act_526 : decode cL_act 526 = .ok (.iconst 2, 1) := by decide +kernel
theorem dL_act_527 : decode cL_act 527 = .ok (.invokestatic 76, 3) := by decide +kernel
theorem dL_act_530 : decode cL_act 530 = .ok (.iload 6, 2) := by decide +kernel
theorem dL_act_532 : decode cL_act 532 = .ok (.bipush 7, 2) := by decide +kernel
theorem dL_act_534 : decode cL_act 534 = .ok (.if_icmp .ne 11, 3) := by decide +kernel
theorem dL_act_537 : decode cL_act 537 = .ok (.iload_n 2, 1) := by decide +kernel
theorem dL_act_538 : decode cL_act 538 = .ok (.ifCond .ne 7, 3) := by decide +kernel
theorem dL_act_541 : decode cL_act 541 = .ok (.iconst 1, 1) := by decide +kernel
theorem dL_act_542 : decode cL_act 542 = .ok (.goto 4, 3) := by decide +kernel
theorem dL_act_545 : decode cL_act 545 = .ok (.iconst 0, 1) := by decide +kernel
theorem dL_act_546 : decode cL_act 546 = .ok (.iadd, 1) := by decide +kernel
theorem dL_act_547 : decode cL_act 547 = .ok (.istore 7, 2) := by decide +kernel
theorem dL_act_549 : decode cL_act 549 = .ok (.aload_n 0, 1) := by decide +kernel
theorem dL_act_550 : decode cL_act 550 = .ok (.iload 6, 2) := by decide +kernel
theorem dL_act_552 : decode cL_act 552 = .ok (.iload 4, 2) := by decide +kernel
theorem dL_act_554 : decode cL_act 554 = .ok (.iload 7, 2) := by decide +kernel
theorem dL_act_556 : decode cL_act 556 = .ok (.iload 5, 2) := by decide +kernel
theorem dL_act_558 : decode cL_act 558 = .ok (.invokestatic 84, 3) := by decide +kernel
theorem dL_act_561 : decode cL_act 561 = .ok (.ireturn, 1) := by decide +kernel
theorem dL_act_562 : decode cL_act 562 = .ok (.aload_n 0, 1) := by decide +kernel
theorem dL_act_563 : decode cL_act 563 = .ok (.bipush 12, 2) := by decide +kernel
theorem dL_act_565 : decode cL_act 565 = .ok (.iconst 0, 1) := by decide +kernel
theorem dL_act_566 : decode cL_act 566 = .ok (.iconst 0, 1) := by decide +kernel
theorem dL_act_567 : decode cL_act 567 = .ok (.iconst 0, 1) := by decide +kernel
theorem dL_act_568 : decode cL_act 568 = .ok (.invokestatic 84, 3) := by decide +kernel
theorem dL_act_571 : decode cL_act 571 = .ok (.ireturn, 1) := by decide +kernel
set_option maxRecDepth 20000 in
theorem ggL_areAlike_X4_week : GoodIn wsL_areAlike wsX4_week := goodIn_r _ [5, 6, 128, 129, 130, 131, 132, 133, 134, 135, 136] (by decide +kernel) (by decide +kernel)
set_option maxRecDepth 20000 in
theorem gL_areAlike_X4_week : GoodIn wsL_areAlike (wsV RL 88 RX4 yX4_week wsX4_week) := goodIn_app (goodIn_of _ (by decide +kernel)) ggL_areAlike_X4_week
set_option maxRecDepth 20000 in
theorem ggL_areAlike_X4_term : GoodIn wsL_areAlike wsX4_term := goodIn_r _ [10, 11, 128, 129, 130, 131, 132, 133, 134, 135, 136] (by decide +kernel) (by decide +kernel)
set_option maxRecDepth 20000 in
theorem gL_areAlike_X4_term : GoodIn wsL_areAlike (wsV RL 91 RX4 yX4_term wsX4_term) := goodIn_app (goodIn_of _ (by decide +kernel)) ggL_areAlike_X4_term
set_option maxRecDepth 20000 in
theorem ggL_areAlike_X4_credits : GoodIn wsL_areAlike wsX4_credits := goodIn_ca (goodIn_r _ [15, 16, 17, 18, 19, 4, 20, 21, 22, 23, 24, 25, 26, 27, 28, 29, 137, 138, 139, 140, 141, 142, 143, 144, 145, 146, 147, 128, 129, 130, 131, 132, 133, 134, 135, 136, 148, 149, 150] (by decide +kernel) (by decide +kernel)) (goodIn_sub (fun _ h => List.mem_cons_of_mem _ (List.mem_append_left _ (List.mem_append_right _ h))) (by decide +kernel))
set_option maxRecDepth 20000 in
theorem gL_areAlike_X4_credits : GoodIn wsL_areAlike (wsV RL 94 RX4 yX4_credits wsX4_credits) := goodIn_app (goodIn_of _ (by decide +kernel)) ggL_areAlike_X4_credits
set_option maxRecDepth 20000 in
theorem ggL_areAlike_X4_charged : GoodIn wsL_areAlike wsX4_charged := goodIn_ca (goodIn_ca (goodIn_r _ [33, 34, 35, 17, 18, 19, 4, 20, 21, 22, 23, 36, 37, 38, 39, 40, 41, 42, 43, 44, 16, 45, 46, 47, 48, 49, 50, 51, 52, 53, 54, 55, 24, 25, 26, 27, 28, 29, 56, 57, 58, 59, 60, 61, 128, 129, 130, 131, 132, 133, 134, 135, 136, 137, 138, 139, 140, 141, 142, 143, 144, 145, 146, 147, 148, 149, 150] (by decide +kernel) (by decide +kernel)) (goodIn_sub (fun _ h => List.mem_cons_of_mem _ (List.mem_append_right _ h)) (by decide +kernel))) (goodIn_sub (fun _ h => List.mem_cons_of_mem _ (List.mem_append_left _ (List.mem_append_right _ h))) (by decide +kernel))
set_option maxRecDepth 20000 in
theorem gL_areAlike_X4_charged : GoodIn wsL_areAlike (wsV RL 97 RX4 yX4_charged wsX4_charged) := goodIn_app (goodIn_of _ (by decide +kernel)) ggL_areAlike_X4_charged
set_option maxRecDepth 20000 in
theorem ggL_areAlike_X4_sponsored : GoodIn wsL_areAlike wsX4_sponsored := goodIn_ca (goodIn_r _ [65, 17, 18, 19, 4, 20, 21, 22, 23, 66, 67, 68, 69, 70, 71, 72, 73, 74, 75, 39, 40, 41, 42, 43, 44, 16, 45, 46, 47, 48, 49, 50, 51, 52, 53, 54, 55, 24, 25, 26, 27, 28, 29, 56, 57, 58, 59, 60, 61, 128, 129, 130, 131, 132, 133, 134, 135, 136, 137, 138, 139, 140, 141, 142, 143, 144, 145, 146, 147, 148, 149, 150] (by decide +kernel) (by decide +kernel)) (goodIn_sub (fun _ h => List.mem_cons_of_mem _ (List.mem_append_left _ (List.mem_append_right _ h))) (by decide +kernel))
set_option maxRecDepth 20000 in
theorem gL_areAlike_X4_sponsored : GoodIn wsL_areAlike (wsV RL 100 RX4 yX4_sponsored wsX4_sponsored) := goodIn_app (goodIn_of _ (by decide +kernel)) ggL_areAlike_X4_sponsored
set_option maxRecDepth 20000 in
theorem ggL_areAlike_X4_paid : GoodIn wsL_areAlike wsX4_paid := goodIn_ca (goodIn_r _ [79, 80, 17, 18, 19, 4, 20, 21, 22, 23, 137, 138, 139, 140, 141, 142, 143, 144, 145, 146, 147, 128, 129, 130, 131, 132, 133, 134, 135, 136] (by decide +kernel) (by decide +kernel)) (goodIn_sub (fun _ h => List.mem_cons_of_mem _ (List.mem_append_left _ (List.mem_append_right _ h))) (by decide +kernel))
set_option maxRecDepth 20000 in
theorem gL_areAlike_X4_paid : GoodIn wsL_areAlike (wsV RL 103 RX4 yX4_paid wsX4_paid) := goodIn_app (goodIn_of _ (by decide +kernel)) ggL_areAlike_X4_paid
set_option maxRecDepth 20000 in
theorem ggL_areAlike_X4_owed : GoodIn wsL_areAlike wsX4_owed := goodIn_ca (goodIn_r _ [84, 17, 18, 19, 4, 20, 21, 22, 23, 85, 86, 87, 88, 89, 90, 80, 91, 92, 93, 94, 39, 40, 41, 42, 43, 44, 16, 45, 46, 47, 48, 49, 50, 51, 52, 53, 54, 55, 24, 25, 26, 27, 28, 29, 56, 57, 58, 59, 60, 61, 66, 67, 68, 69, 70, 71, 72, 73, 74, 75, 95, 96, 97, 98, 99, 100, 101, 102, 103, 128, 129, 130, 131, 132, 133, 134, 135, 136, 137, 138, 139, 140, 141, 142, 143, 144, 145, 146, 147, 148, 149, 150, 151, 152, 153, 154] (by decide +kernel) (by decide +kernel)) (goodIn_sub (fun _ h => List.mem_cons_of_mem _ (List.mem_append_left _ (List.mem_append_right _ h))) (by decide +kernel))
set_option maxRecDepth 20000 in
theorem gL_areAlike_X4_owed : GoodIn wsL_areAlike (wsV RL 106 RX4 yX4_owed wsX4_owed) := goodIn_app (goodIn_of _ (by decide +kernel)) ggL_areAlike_X4_owed
set_option maxRecDepth 20000 in
theorem ggL_areAlike_X4_hasHold : GoodIn wsL_areAlike wsX4_hasHold := goodIn_ca (goodIn_r _ [107, 108, 17, 18, 19, 4, 20, 21, 22, 23, 85, 86, 87, 88, 89, 90, 80, 91, 92, 93, 94, 39, 40, 41, 42, 43, 44, 16, 45, 46, 47, 48, 49, 50, 51, 52, 53, 54, 55, 24, 25, 26, 27, 28, 29, 56, 57, 58, 59, 60, 61, 66, 67, 68, 69, 70, 71, 72, 73, 74, 75, 95, 96, 97, 98, 99, 100, 101, 102, 103, 128, 129, 130, 131, 132, 133, 134, 135, 136, 137, 138, 139, 140, 141, 142, 143, 144, 145, 146, 147, 148, 149, 150, 151, 152, 153, 154] (by decide +kernel) (by decide +kernel)) (goodIn_sub (fun _ h => List.mem_cons_of_mem _ (List.mem_append_left _ (List.mem_append_right _ h))) (by decide +kernel))
set_option maxRecDepth 20000 in
theorem gL_areAlike_X4_hasHold : GoodIn wsL_areAlike (wsV RL 109 RX4 yX4_hasHold wsX4_hasHold) := goodIn_app (goodIn_of _ (by decide +kernel)) ggL_areAlike_X4_hasHold
set_option maxRecDepth 20000 in
theorem ggL_areAlike_L_used : GoodIn wsL_areAlike wsL_used := goodIn_ca (goodIn_r _ [112, 113, 114, 115, 116, 117, 4, 118, 21, 22, 89, 90, 17, 18, 19, 20, 23, 119, 120, 121, 98, 122, 123, 91, 92, 93, 94, 39, 40, 41, 42, 43, 44, 16, 45, 46, 47, 48, 49, 50, 51, 52, 53, 54, 55, 24, 25, 26, 27, 28, 29, 56, 57, 58, 59, 60, 61, 66, 67, 68, 69, 70, 71, 72, 73, 74, 75, 95, 96, 97, 99, 100, 101, 102, 103, 124, 125, 126, 127, 137, 138, 139, 140, 141, 142, 143, 144, 145, 146, 147, 128, 129, 130, 131, 132, 133, 134, 135, 136, 151, 152, 153, 154, 148, 149, 150] (by decide +kernel) (by decide +kernel)) (goodIn_sub (fun _ h => List.mem_cons_of_mem _ (List.mem_append_left _ (List.mem_append_right _ h))) (by decide +kernel))
set_option maxRecDepth 20000 in
theorem gL_areAlike_L_used : GoodIn wsL_areAlike (va_wsS RL 113 yL_used wsL_used) := goodIn_app (goodIn_of _ (by decide +kernel)) ggL_areAlike_L_used
theorem dL_areAlike_0 : decode cL_areAlike 0 = .ok (.aload_n 0, 1) := by decide +kernel
theorem dL_areAlike_1 : decode cL_areAlike 1 = .ok (.invokevirtual 88, 3) := by decide +kernel
theorem dL_areAlike_4 : decode cL_areAlike 4 = .ok (.aload_n 1, 1) := by decide +kernel
theorem dL_areAlike_5 : decode cL_areAlike 5 = .ok (.invokevirtual 88, 3) := by decide +kernel
theorem dL_areAlike_8 : decode cL_areAlike 8 = .ok (.if_icmp .ne 18, 3) := by decide +kernel
theorem dL_areAlike_11 : decode cL_areAlike 11 = .ok (.aload_n 0, 1) := by decide +kernel
theorem dL_areAlike_12 : decode cL_areAlike 12 = .ok (.invokevirtual 91, 3) := by decide +kernel
theorem dL_areAlike_15 : decode cL_areAlike 15 = .ok (.aload_n 1, 1) := by decide +kernel
theorem dL_areAlike_16 : decode cL_areAlike 16 = .ok (.invokevirtual 91, 3) := by decide +kernel
theorem dL_areAlike_19 : decode cL_areAlike 19 = .ok (.if_icmp .ne 7, 3) := by decide +kernel
theorem dL_areAlike_22 : decode cL_areAlike 22 = .ok (.iconst 1, 1) := by decide +kernel
theorem dL_areAlike_23 : decode cL_areAlike 23 = .ok (.goto 4, 3) := by decide +kernel
theorem dL_areAlike_26 : decode cL_areAlike 26 = .ok (.iconst 0, 1) := by decide +kernel
theorem dL_areAlike_27 : decode cL_areAlike 27 = .ok (.istore_n 2, 1) := by decide +kernel
theorem dL_areAlike_28 : decode cL_areAlike 28 = .ok (.iconst 0, 1) := by decide +kernel
theorem dL_areAlike_29 : decode cL_areAlike 29 = .ok (.istore_n 3, 1) := by decide +kernel
theorem dL_areAlike_30 : decode cL_areAlike 30 = .ok (.iload_n 3, 1) := by decide +kernel
theorem dL_areAlike_31 : decode cL_areAlike 31 = .ok (.iconst 4, 1) := by decide +kernel
theorem dL_areAlike_32 : decode cL_areAlike 32 = .ok (.if_icmp .ge 159, 3) := by decide +kernel
theorem dL_areAlike_35 : decode cL_areAlike 35 = .ok (.iload_n 2, 1) := by decide +kernel
theorem dL_areAlike_36 : decode cL_areAlike 36 = .ok (.ifCond .eq 155, 3) := by decide +kernel
theorem dL_areAlike_39 : decode cL_areAlike 39 = .ok (.aload_n 0, 1) := by decide +kernel
theorem dL_areAlike_40 : decode cL_areAlike 40 = .ok (.iload_n 3, 1) := by decide +kernel
theorem dL_areAlike_41 : decode cL_areAlike 41 = .ok (.invokevirtual 94, 3) := by decide +kernel
theorem dL_areAlike_44 : decode cL_areAlike 44 = .ok (.aload_n 1, 1) := by decide +kernel
theorem dL_areAlike_45 : decode cL_areAlike 45 = .ok (.iload_n 3, 1) := by decide +kernel
theorem dL_areAlike_46 : decode cL_areAlike 46 = .ok (.invokevirtual 94, 3) := by decide +kernel
theorem dL_areAlike_49 : decode cL_areAlike 49 = .ok (.if_icmp .ne 134, 3) := by decide +kernel
theorem dL_areAlike_52 : decode cL_areAlike 52 = .ok (.aload_n 0, 1) := by decide +kernel
theorem dL_areAlike_53 : decode cL_areAlike 53 = .ok (.iload_n 3, 1) := by decide +kernel
theorem dL_areAlike_54 : decode cL_areAlike 54 = .ok (.iconst 0, 1) := by decide +kernel
theorem dL_areAlike_55 : decode cL_areAlike 55 = .ok (.invokevirtual 97, 3) := by decide +kernel
theorem dL_areAlike_58 : decode cL_areAlike 58 = .ok (.aload_n 1, 1) := by decide +kernel
theorem dL_areAlike_59 : decode cL_areAlike 59 = .ok (.iload_n 3, 1) := by decide +kernel
theorem dL_areAlike_60 : decode cL_areAlike 60 = .ok (.iconst 0, 1) := by decide +kernel
theorem dL_areAlike_61 : decode cL_areAlike 61 = .ok (.invokevirtual 97, 3) := by decide +kernel
theorem dL_areAlike_64 : decode cL_areAlike 64 = .ok (.if_icmp .ne 119, 3) := by decide +kernel
theorem dL_areAlike_67 : decode cL_areAlike 67 = .ok (.aload_n 0, 1) := by decide +kernel
theorem dL_areAlike_68 : decode cL_areAlike 68 = .ok (.iload_n 3, 1) := by decide +kernel
theorem dL_areAlike_69 : decode cL_areAlike 69 = .ok (.iconst 1, 1) := by decide +kernel
theorem dL_areAlike_70 : decode cL_areAlike 70 = .ok (.invokevirtual 97, 3) := by decide +kernel
theorem dL_areAlike_73 : decode cL_areAlike 73 = .ok (.aload_n 1, 1) := by decide +kernel
theorem dL_areAlike_74 : decode cL_areAlike 74 = .ok (.iload_n 3, 1) := by decide +kernel
theorem dL_areAlike_75 : decode cL_areAlike 75 = .ok (.iconst 1, 1) := by decide +kernel
theorem dL_areAlike_76 : decode cL_areAlike 76 = .ok (.invokevirtual 97, 3) := by decide +kernel
theorem dL_areAlike_79 : decode cL_areAlike 79 = .ok (.if_icmp .ne 104, 3) := by decide +kernel
theorem dL_areAlike_82 : decode cL_areAlike 82 = .ok (.aload_n 0, 1) := by decide +kernel
theorem dL_areAlike_83 : decode cL_areAlike 83 = .ok (.iload_n 3, 1) := by decide +kernel
theorem dL_areAlike_84 : decode cL_areAlike 84 = .ok (.iconst 2, 1) := by decide +kernel
theorem dL_areAlike_85 : decode cL_areAlike 85 = .ok (.invokevirtual 97, 3) := by decide +kernel
theorem dL_areAlike_88 : decode cL_areAlike 88 = .ok (.aload_n 1, 1) := by decide +kernel
theorem dL_areAlike_89 : decode cL_areAlike 89 = .ok (.iload_n 3, 1) := by decide +kernel
theorem dL_areAlike_90 : decode cL_areAlike 90 = .ok (.iconst 2, 1) := by decide +kernel
theorem dL_areAlike_91 : decode cL_areAlike 91 = .ok (.invokevirtual 97, 3) := by decide +kernel
theorem dL_areAlike_94 : decode cL_areAlike 94 = .ok (.if_icmp .ne 89, 3) := by decide +kernel
theorem dL_areAlike_97 : decode cL_areAlike 97 = .ok (.aload_n 0, 1) := by decide +kernel
theorem dL_areAlike_98 : decode cL_areAlike 98 = .ok (.iload_n 3, 1) := by decide +kernel
theorem dL_areAlike_99 : decode cL_areAlike 99 = .ok (.invokevirtual 100, 3) := by decide +kernel
theorem dL_areAlike_102 : decode cL_areAlike 102 = .ok (.aload_n 1, 1) := by decide +kernel
theorem dL_areAlike_103 : decode cL_areAlike 103 = .ok (.iload_n 3, 1) := by decide +kernel
theorem dL_areAlike_104 : decode cL_areAlike 104 = .ok (.invokevirtual 100, 3) := by decide +kernel
theorem dL_areAlike_107 : decode cL_areAlike 107 = .ok (.if_icmp .ne 76, 3) := by decide +kernel
theorem dL_areAlike_110 : decode cL_areAlike 110 = .ok (.aload_n 0, 1) := by decide +kernel
theorem dL_areAlike_111 : decode cL_areAlike 111 = .ok (.iload_n 3, 1) := by decide +kernel
theorem dL_areAlike_112 : decode cL_areAlike 112 = .ok (.invokevirtual 103, 3) := by decide +kernel
theorem dL_areAlike_115 : decode cL_areAlike 115 = .ok (.aload_n 1, 1) := by decide +kernel
theorem dL_areAlike_116 : decode cL_areAlike 116 = .ok (.iload_n 3, 1) := by decide +kernel
theorem dL_areAlike_117 : decode cL_areAlike 117 = .ok (.invokevirtual 103, 3) := by decide +kernel
theorem dL_areAlike_120 : decode cL_areAlike 120 = .ok (.if_icmp .ne 63, 3) := by decide +kernel
theorem dL_areAlike_123 : decode cL_areAlike 123 = .ok (.aload_n 0, 1) := by decide +kernel
theorem dL_areAlike_124 : decode cL_areAlike 124 = .ok (.iload_n 3, 1) := by decide +kernel
theorem dL_areAlike_125 : decode cL_areAlike 125 = .ok (.invokevirtual 106, 3) := by decide +kernel
theorem dL_areAlike_128 : decode cL_areAlike 128 = .ok (.aload_n 1, 1) := by decide +kernel
theorem dL_areAlike_129 : decode cL_areAlike 129 = .ok (.iload_n 3, 1) := by decide +kernel
theorem dL_areAlike_130 : decode cL_areAlike 130 = .ok (.invokevirtual 106, 3) := by decide +kernel
theorem dL_areAlike_133 : decode cL_areAlike 133 = .ok (.if_icmp .ne 50, 3) := by decide +kernel
theorem dL_areAlike_136 : decode cL_areAlike 136 = .ok (.aload_n 0, 1) := by decide +kernel
theorem dL_areAlike_137 : decode cL_areAlike 137 = .ok (.iload_n 3, 1) := by decide +kernel
theorem dL_areAlike_138 : decode cL_areAlike 138 = .ok (.invokevirtual 109, 3) := by decide +kernel
theorem dL_areAlike_141 : decode cL_areAlike 141 = .ok (.aload_n 1, 1) := by decide +kernel
theorem dL_areAlike_142 : decode cL_areAlike 142 = .ok (.iload_n 3, 1) := by decide +kernel
theorem dL_areAlike_143 : decode cL_areAlike 143 = .ok (.invokevirtual 109, 3) := by decide +kernel
theorem dL_areAlike_146 : decode cL_areAlike 146 = .ok (.if_icmp .ne 37, 3) := by decide +kernel
theorem dL_areAlike_149 : decode cL_areAlike 149 = .ok (.aload_n 0, 1) := by decide +kernel
theorem dL_areAlike_150 : decode cL_areAlike 150 = .ok (.iload_n 3, 1) := by decide +kernel
theorem dL_areAlike_151 : decode cL_areAlike 151 = .ok (.iconst 0, 1) := by decide +kernel
theorem dL_areAlike_152 : decode cL_areAlike 152 = .ok (.invokestatic 113, 3) := by decide +kernel
theorem dL_areAlike_155 : decode cL_areAlike 155 = .ok (.aload_n 1, 1) := by decide +kernel
theorem dL_areAlike_156 : decode cL_areAlike 156 = .ok (.iload_n 3, 1) := by decide +kernel
theorem dL_areAlike_157 : decode cL_areAlike 157 = .ok (.iconst 0, 1) := by decide +kernel
theorem dL_areAlike_158 : decode cL_areAlike 158 = .ok (.invokestatic 113, 3) := by decide +kernel
theorem dL_areAlike_161 : decode cL_areAlike 161 = .ok (.if_icmp .ne 22, 3) := by decide +kernel
theorem dL_areAlike_164 : decode cL_areAlike 164 = .ok (.aload_n 0, 1) := by decide +kernel
theorem dL_areAlike_165 : decode cL_areAlike 165 = .ok (.iload_n 3, 1) := by decide +kernel
theorem dL_areAlike_166 : decode cL_areAlike 166 = .ok (.iconst 3, 1) := by decide +kernel
theorem dL_areAlike_167 : decode cL_areAlike 167 = .ok (.invokestatic 113, 3) := by decide +kernel
theorem dL_areAlike_170 : decode cL_areAlike 170 = .ok (.aload_n 1, 1) := by decide +kernel
theorem dL_areAlike_171 : decode cL_areAlike 171 = .ok (.iload_n 3, 1) := by decide +kernel
theorem dL_areAlike_172 : decode cL_areAlike 172 = .ok (.iconst 3, 1) := by decide +kernel
theorem dL_areAlike_173 : decode cL_areAlike 173 = .ok (.invokestatic 113, 3) := by decide +kernel
theorem dL_areAlike_176 : decode cL_areAlike 176 = .ok (.if_icmp .ne 7, 3) := by decide +kernel
theorem dL_areAlike_179 : decode cL_areAlike 179 = .ok (.iconst 1, 1) := by decide +kernel
theorem dL_areAlike_180 : decode cL_areAlike 180 = .ok (.goto 4, 3) := by decide +kernel
theorem dL_areAlike_183 : decode cL_areAlike 183 = .ok (.iconst 0, 1) := by decide +kernel
theorem dL_areAlike_184 : decode cL_areAlike 184 = .ok (.istore_n 2, 1) := by decide +kernel
theorem dL_areAlike_185 : decode cL_areAlike 185 = .ok (.iinc 3 1, 3) := by decide +kernel
theorem dL_areAlike_188 : decode cL_areAlike 188 = .ok (.goto (-158), 3) := by decide +kernel
theorem dL_areAlike_191 : decode cL_areAlike 191 = .ok (.iload_n 2, 1) := by decide +kernel
theorem dL_areAlike_192 : decode cL_areAlike 192 = .ok (.ireturn, 1) := by decide +kernel
set_option maxRecDepth 20000 in
theorem ggL_isOnce_X4_charged : GoodIn wsL_isOnce wsX4_charged := goodIn_ca (goodIn_ca (goodIn_r _ [5, 6, 7, 8, 9, 10, 4, 11, 12, 13, 14, 15, 16, 17, 18, 19, 20, 21, 22, 23, 24, 25, 26, 27, 28, 29, 30, 31, 32, 33, 34, 35, 36, 37, 38, 39, 40, 41, 42, 43, 44, 45, 46, 47, 126, 127, 128, 129, 130, 131, 132, 133, 134, 135, 136, 137, 138, 139, 140, 141, 142, 143, 144, 145, 146, 147, 148] (by decide +kernel) (by decide +kernel)) (goodIn_sub (fun _ h => List.mem_cons_of_mem _ (List.mem_append_left _ (List.mem_append_right _ h))) (by decide +kernel))) (goodIn_sub (fun _ h => List.mem_cons_of_mem _ (List.mem_append_right _ h)) (by decide +kernel))
set_option maxRecDepth 20000 in
theorem gL_isOnce_X4_charged : GoodIn wsL_isOnce (wsV RL 97 RX4 yX4_charged wsX4_charged) := goodIn_app (goodIn_of _ (by decide +kernel)) ggL_isOnce_X4_charged
set_option maxRecDepth 20000 in
theorem ggL_isOnce_X4_sponsored : GoodIn wsL_isOnce wsX4_sponsored := goodIn_ca (goodIn_r _ [51, 8, 9, 10, 4, 11, 12, 13, 14, 52, 53, 54, 55, 56, 57, 58, 59, 60, 61, 18, 19, 20, 21, 22, 23, 24, 25, 26, 27, 28, 29, 30, 31, 32, 33, 34, 35, 36, 37, 38, 39, 40, 41, 42, 43, 44, 45, 46, 47, 126, 127, 128, 129, 130, 131, 132, 133, 134, 135, 136, 137, 138, 139, 140, 141, 142, 143, 144, 145, 146, 147, 148] (by decide +kernel) (by decide +kernel)) (goodIn_sub (fun _ h => List.mem_cons_of_mem _ (List.mem_append_right _ h)) (by decide +kernel))
set_option maxRecDepth 20000 in
theorem gL_isOnce_X4_sponsored : GoodIn wsL_isOnce (wsV RL 100 RX4 yX4_sponsored wsX4_sponsored) := goodIn_app (goodIn_of _ (by decide +kernel)) ggL_isOnce_X4_sponsored
set_option maxRecDepth 20000 in
theorem ggL_isOnce_X4_credits : GoodIn wsL_isOnce wsX4_credits := goodIn_ca (goodIn_r _ [65, 24, 8, 9, 10, 4, 11, 12, 13, 14, 36, 37, 38, 39, 40, 41, 135, 136, 137, 138, 139, 140, 141, 142, 143, 144, 145, 126, 127, 128, 129, 130, 131, 132, 133, 134, 146, 147, 148] (by decide +kernel) (by decide +kernel)) (goodIn_sub (fun _ h => List.mem_cons_of_mem _ (List.mem_append_right _ h)) (by decide +kernel))
set_option maxRecDepth 20000 in
theorem gL_isOnce_X4_credits : GoodIn wsL_isOnce (wsV RL 94 RX4 yX4_credits wsX4_credits) := goodIn_app (goodIn_of _ (by decide +kernel)) ggL_isOnce_X4_credits
set_option maxRecDepth 20000 in
theorem ggL_isOnce_L_used : GoodIn wsL_isOnce wsL_used := goodIn_ca (goodIn_r _ [69, 70, 71, 72, 73, 74, 4, 75, 12, 13, 76, 77, 8, 9, 10, 11, 14, 78, 79, 80, 81, 82, 83, 84, 85, 86, 87, 18, 19, 20, 21, 22, 23, 24, 25, 26, 27, 28, 29, 30, 31, 32, 33, 34, 35, 36, 37, 38, 39, 40, 41, 42, 43, 44, 45, 46, 47, 52, 53, 54, 55, 56, 57, 58, 59, 60, 61, 88, 89, 90, 91, 92, 93, 94, 95, 96, 97, 98, 99, 135, 136, 137, 138, 139, 140, 141, 142, 143, 144, 145, 126, 127, 128, 129, 130, 131, 132, 133, 134, 149, 150, 151, 152, 146, 147, 148] (by decide +kernel) (by decide +kernel)) (goodIn_sub (fun _ h => List.mem_cons_of_mem _ (List.mem_append_right _ h)) (by decide +kernel))
set_option maxRecDepth 20000 in
theorem gL_isOnce_L_used : GoodIn wsL_isOnce (va_wsS RL 113 yL_used wsL_used) := goodIn_app (goodIn_of _ (by decide +kernel)) ggL_isOnce_L_used
set_option maxRecDepth 20000 in
theorem ggL_isOnce_X4_amountOf : GoodIn wsL_isOnce wsX4_amountOf := goodIn_ca (goodIn_r _ [103, 12, 13, 76, 8, 9, 10, 4, 11, 14, 78, 79, 80, 81, 82, 83, 104, 105, 106, 107, 95, 135, 136, 137, 138, 139, 140, 141, 142, 143, 144, 145, 126, 127, 128, 129, 130, 131, 132, 133, 134, 149, 150, 151, 152] (by decide +kernel) (by decide +kernel)) (goodIn_sub (fun _ h => List.mem_cons_of_mem _ (List.mem_append_right _ h)) (by decide +kernel))
set_option maxRecDepth 20000 in
theorem gL_isOnce_X4_amountOf : GoodIn wsL_isOnce (wsV RL 116 RX4 yX4_amountOf wsX4_amountOf) := goodIn_app (goodIn_of _ (by decide +kernel)) ggL_isOnce_X4_amountOf
set_option maxRecDepth 20000 in
theorem ggL_isOnce_X4_owed : GoodIn wsL_isOnce wsX4_owed := goodIn_ca (goodIn_r _ [111, 8, 9, 10, 4, 11, 12, 13, 14, 112, 113, 114, 115, 76, 77, 116, 84, 85, 86, 87, 18, 19, 20, 21, 22, 23, 24, 25, 26, 27, 28, 29, 30, 31, 32, 33, 34, 35, 36, 37, 38, 39, 40, 41, 42, 43, 44, 45, 46, 47, 52, 53, 54, 55, 56, 57, 58, 59, 60, 61, 88, 89, 90, 81, 91, 92, 93, 94, 95, 126, 127, 128, 129, 130, 131, 132, 133, 134, 135, 136, 137, 138, 139, 140, 141, 142, 143, 144, 145, 146, 147, 148, 149, 150, 151, 152] (by decide +kernel) (by decide +kernel)) (goodIn_sub (fun _ h => List.mem_cons_of_mem _ (List.mem_append_right _ h)) (by decide +kernel))
set_option maxRecDepth 20000 in
theorem gL_isOnce_X4_owed : GoodIn wsL_isOnce (wsV RL 106 RX4 yX4_owed wsX4_owed) := goodIn_app (goodIn_of _ (by decide +kernel)) ggL_isOnce_X4_owed
set_option maxRecDepth 20000 in
theorem ggL_isOnce_X4_paid : GoodIn wsL_isOnce wsX4_paid := goodIn_ca (goodIn_r _ [120, 116, 8, 9, 10, 4, 11, 12, 13, 14, 135, 136, 137, 138, 139, 140, 141, 142, 143, 144, 145, 126, 127, 128, 129, 130, 131, 132, 133, 134] (by decide +kernel) (by decide +kernel)) (goodIn_sub (fun _ h => List.mem_cons_of_mem _ (List.mem_append_right _ h)) (by decide +kernel))
set_option maxRecDepth 20000 in
theorem gL_isOnce_X4_paid : GoodIn wsL_isOnce (wsV RL 103 RX4 yX4_paid wsX4_paid) := goodIn_app (goodIn_of _ (by decide +kernel)) ggL_isOnce_X4_paid
set_option maxRecDepth 20000 in
theorem ggL_isOnce_X4_hasHold : GoodIn wsL_isOnce wsX4_hasHold := goodIn_ca (goodIn_r _ [124, 125, 8, 9, 10, 4, 11, 12, 13, 14, 112, 113, 114, 115, 76, 77, 116, 84, 85, 86, 87, 18, 19, 20, 21, 22, 23, 24, 25, 26, 27, 28, 29, 30, 31, 32, 33, 34, 35, 36, 37, 38, 39, 40, 41, 42, 43, 44, 45, 46, 47, 52, 53, 54, 55, 56, 57, 58, 59, 60, 61, 88, 89, 90, 81, 91, 92, 93, 94, 95, 126, 127, 128, 129, 130, 131, 132, 133, 134, 135, 136, 137, 138, 139, 140, 141, 142, 143, 144, 145, 146, 147, 148, 149, 150, 151, 152] (by decide +kernel) (by decide +kernel)) (goodIn_sub (fun _ h => List.mem_cons_of_mem _ (List.mem_append_right _ h)) (by decide +kernel))
set_option maxRecDepth 20000 in
theorem gL_isOnce_X4_hasHold : GoodIn wsL_isOnce (wsV RL 109 RX4 yX4_hasHold wsX4_hasHold) := goodIn_app (goodIn_of _ (by decide +kernel)) ggL_isOnce_X4_hasHold
theorem dL_isOnce_0 : decode cL_isOnce 0 = .ok (.aload_n 0, 1) := by decide +kernel
theorem dL_isOnce_1 : decode cL_isOnce 1 = .ok (.iload_n 1, 1) := by decide +kernel
theorem dL_isOnce_2 : decode cL_isOnce 2 = .ok (.iconst 0, 1) := by decide +kernel
theorem dL_isOnce_3 : decode cL_isOnce 3 = .ok (.invokevirtual 97, 3) := by decide +kernel
theorem dL_isOnce_6 : decode cL_isOnce 6 = .ok (.aload_n 0, 1) := by decide +kernel
theorem dL_isOnce_7 : decode cL_isOnce 7 = .ok (.iload_n 1, 1) := by decide +kernel
theorem dL_isOnce_8 : decode cL_isOnce 8 = .ok (.iconst 1, 1) := by decide +kernel
theorem dL_isOnce_9 : decode cL_isOnce 9 = .ok (.invokevirtual 97, 3) := by decide +kernel
theorem dL_isOnce_12 : decode cL_isOnce 12 = .ok (.iadd, 1) := by decide +kernel
theorem dL_isOnce_13 : decode cL_isOnce 13 = .ok (.aload_n 0, 1) := by decide +kernel
theorem dL_isOnce_14 : decode cL_isOnce 14 = .ok (.iload_n 1, 1) := by decide +kernel
theorem dL_isOnce_15 : decode cL_isOnce 15 = .ok (.iconst 2, 1) := by decide +kernel
theorem dL_isOnce_16 : decode cL_isOnce 16 = .ok (.invokevirtual 97, 3) := by decide +kernel
theorem dL_isOnce_19 : decode cL_isOnce 19 = .ok (.iadd, 1) := by decide +kernel
theorem dL_isOnce_20 : decode cL_isOnce 20 = .ok (.istore_n 2, 1) := by decide +kernel
theorem dL_isOnce_21 : decode cL_isOnce 21 = .ok (.iconst 0, 1) := by decide +kernel
theorem dL_isOnce_22 : decode cL_isOnce 22 = .ok (.istore_n 3, 1) := by decide +kernel
theorem dL_isOnce_23 : decode cL_isOnce 23 = .ok (.iconst 0, 1) := by decide +kernel
theorem dL_isOnce_24 : decode cL_isOnce 24 = .ok (.istore 4, 2) := by decide +kernel
theorem dL_isOnce_26 : decode cL_isOnce 26 = .ok (.aload_n 0, 1) := by decide +kernel
theorem dL_isOnce_27 : decode cL_isOnce 27 = .ok (.iload_n 1, 1) := by decide +kernel
theorem dL_isOnce_28 : decode cL_isOnce 28 = .ok (.invokevirtual 100, 3) := by decide +kernel
theorem dL_isOnce_31 : decode cL_isOnce 31 = .ok (.ifCond .lt 34, 3) := by decide +kernel
theorem dL_isOnce_34 : decode cL_isOnce 34 = .ok (.aload_n 0, 1) := by decide +kernel
theorem dL_isOnce_35 : decode cL_isOnce 35 = .ok (.iload_n 1, 1) := by decide +kernel
theorem dL_isOnce_36 : decode cL_isOnce 36 = .ok (.invokevirtual 100, 3) := by decide +kernel
theorem dL_isOnce_39 : decode cL_isOnce 39 = .ok (.iload_n 2, 1) := by decide +kernel
theorem dL_isOnce_40 : decode cL_isOnce 40 = .ok (.if_icmp .gt 25, 3) := by decide +kernel
theorem dL_isOnce_43 : decode cL_isOnce 43 = .ok (.aload_n 0, 1) := by decide +kernel
theorem dL_isOnce_44 : decode cL_isOnce 44 = .ok (.iload_n 1, 1) := by decide +kernel
theorem dL_isOnce_45 : decode cL_isOnce 45 = .ok (.invokevirtual 94, 3) := by decide +kernel
theorem dL_isOnce_48 : decode cL_isOnce 48 = .ok (.ifCond .lt 17, 3) := by decide +kernel
theorem dL_isOnce_51 : decode cL_isOnce 51 = .ok (.aload_n 0, 1) := by decide +kernel
theorem dL_isOnce_52 : decode cL_isOnce 52 = .ok (.iload_n 1, 1) := by decide +kernel
theorem dL_isOnce_53 : decode cL_isOnce 53 = .ok (.invokevirtual 94, 3) := by decide +kernel
theorem dL_isOnce_56 : decode cL_isOnce 56 = .ok (.bipush 80, 2) := by decide +kernel
theorem dL_isOnce_58 : decode cL_isOnce 58 = .ok (.if_icmp .gt 7, 3) := by decide +kernel
theorem dL_isOnce_61 : decode cL_isOnce 61 = .ok (.iconst 1, 1) := by decide +kernel
theorem dL_isOnce_62 : decode cL_isOnce 62 = .ok (.goto 4, 3) := by decide +kernel
theorem dL_isOnce_65 : decode cL_isOnce 65 = .ok (.iconst 0, 1) := by decide +kernel
theorem dL_isOnce_66 : decode cL_isOnce 66 = .ok (.istore 5, 2) := by decide +kernel
theorem dL_isOnce_68 : decode cL_isOnce 68 = .ok (.aload_n 0, 1) := by decide +kernel
theorem dL_isOnce_69 : decode cL_isOnce 69 = .ok (.iload_n 1, 1) := by decide +kernel
theorem dL_isOnce_70 : decode cL_isOnce 70 = .ok (.iload 4, 2) := by decide +kernel
theorem dL_isOnce_72 : decode cL_isOnce 72 = .ok (.invokestatic 113, 3) := by decide +kernel
theorem dL_isOnce_75 : decode cL_isOnce 75 = .ok (.ifCond .lt 48, 3) := by decide +kernel
theorem dL_isOnce_78 : decode cL_isOnce 78 = .ok (.iload 5, 2) := by decide +kernel
theorem dL_isOnce_80 : decode cL_isOnce 80 = .ok (.ifCond .eq 43, 3) := by decide +kernel
theorem dL_isOnce_83 : decode cL_isOnce 83 = .ok (.iload_n 3, 1) := by decide +kernel
theorem dL_isOnce_84 : decode cL_isOnce 84 = .ok (.aload_n 0, 1) := by decide +kernel
theorem dL_isOnce_85 : decode cL_isOnce 85 = .ok (.iload_n 1, 1) := by decide +kernel
theorem dL_isOnce_86 : decode cL_isOnce 86 = .ok (.iload 4, 2) := by decide +kernel
theorem dL_isOnce_88 : decode cL_isOnce 88 = .ok (.invokestatic 113, 3) := by decide +kernel
theorem dL_isOnce_91 : decode cL_isOnce 91 = .ok (.iadd, 1) := by decide +kernel
theorem dL_isOnce_92 : decode cL_isOnce 92 = .ok (.istore_n 3, 1) := by decide +kernel
theorem dL_isOnce_93 : decode cL_isOnce 93 = .ok (.aload_n 0, 1) := by decide +kernel
theorem dL_isOnce_94 : decode cL_isOnce 94 = .ok (.iload_n 1, 1) := by decide +kernel
theorem dL_isOnce_95 : decode cL_isOnce 95 = .ok (.iload 4, 2) := by decide +kernel
theorem dL_isOnce_97 : decode cL_isOnce 97 = .ok (.invokestatic 113, 3) := by decide +kernel
theorem dL_isOnce_100 : decode cL_isOnce 100 = .ok (.aload_n 0, 1) := by decide +kernel
theorem dL_isOnce_101 : decode cL_isOnce 101 = .ok (.iload_n 1, 1) := by decide +kernel
theorem dL_isOnce_102 : decode cL_isOnce 102 = .ok (.iload 4, 2) := by decide +kernel
theorem dL_isOnce_104 : decode cL_isOnce 104 = .ok (.invokevirtual 116, 3) := by decide +kernel
theorem dL_isOnce_107 : decode cL_isOnce 107 = .ok (.if_icmp .gt 7, 3) := by decide +kernel
theorem dL_isOnce_110 : decode cL_isOnce 110 = .ok (.iconst 1, 1) := by decide +kernel
theorem dL_isOnce_111 : decode cL_isOnce 111 = .ok (.goto 4, 3) := by decide +kernel
theorem dL_isOnce_114 : decode cL_isOnce 114 = .ok (.iconst 0, 1) := by decide +kernel
theorem dL_isOnce_115 : decode cL_isOnce 115 = .ok (.istore 5, 2) := by decide +kernel
theorem dL_isOnce_117 : decode cL_isOnce 117 = .ok (.iinc 4 1, 3) := by decide +kernel
theorem dL_isOnce_120 : decode cL_isOnce 120 = .ok (.goto (-52), 3) := by decide +kernel
theorem dL_isOnce_123 : decode cL_isOnce 123 = .ok (.iload 5, 2) := by decide +kernel
theorem dL_isOnce_125 : decode cL_isOnce 125 = .ok (.ifCond .eq 64, 3) := by decide +kernel
theorem dL_isOnce_128 : decode cL_isOnce 128 = .ok (.iload 4, 2) := by decide +kernel
theorem dL_isOnce_130 : decode cL_isOnce 130 = .ok (.bipush 6, 2) := by decide +kernel
theorem dL_isOnce_132 : decode cL_isOnce 132 = .ok (.if_icmp .gt 57, 3) := by decide +kernel
theorem dL_isOnce_135 : decode cL_isOnce 135 = .ok (.iload_n 3, 1) := by decide +kernel
theorem dL_isOnce_136 : decode cL_isOnce 136 = .ok (.iload_n 2, 1) := by decide +kernel
theorem dL_isOnce_137 : decode cL_isOnce 137 = .ok (.aload_n 0, 1) := by decide +kernel
theorem dL_isOnce_138 : decode cL_isOnce 138 = .ok (.iload_n 1, 1) := by decide +kernel
theorem dL_isOnce_139 : decode cL_isOnce 139 = .ok (.invokevirtual 100, 3) := by decide +kernel
theorem dL_isOnce_142 : decode cL_isOnce 142 = .ok (.isub, 1) := by decide +kernel
theorem dL_isOnce_143 : decode cL_isOnce 143 = .ok (.if_icmp .gt 46, 3) := by decide +kernel
theorem dL_isOnce_146 : decode cL_isOnce 146 = .ok (.aload_n 0, 1) := by decide +kernel
theorem dL_isOnce_147 : decode cL_isOnce 147 = .ok (.iload_n 1, 1) := by decide +kernel
theorem dL_isOnce_148 : decode cL_isOnce 148 = .ok (.invokevirtual 106, 3) := by decide +kernel
theorem dL_isOnce_151 : decode cL_isOnce 151 = .ok (.iload_n 2, 1) := by decide +kernel
theorem dL_isOnce_152 : decode cL_isOnce 152 = .ok (.aload_n 0, 1) := by decide +kernel
theorem dL_isOnce_153 : decode cL_isOnce 153 = .ok (.iload_n 1, 1) := by decide +kernel
theorem dL_isOnce_154 : decode cL_isOnce 154 = .ok (.invokevirtual 100, 3) := by decide +kernel
theorem dL_isOnce_157 : decode cL_isOnce 157 = .ok (.isub, 1) := by decide +kernel
theorem dL_isOnce_158 : decode cL_isOnce 158 = .ok (.iload_n 3, 1) := by decide +kernel
theorem dL_isOnce_159 : decode cL_isOnce 159 = .ok (.isub, 1) := by decide +kernel
theorem dL_isOnce_160 : decode cL_isOnce 160 = .ok (.aload_n 0, 1) := by decide +kernel
theorem dL_isOnce_161 : decode cL_isOnce 161 = .ok (.iload_n 1, 1) := by decide +kernel
theorem dL_isOnce_162 : decode cL_isOnce 162 = .ok (.invokevirtual 103, 3) := by decide +kernel
theorem dL_isOnce_165 : decode cL_isOnce 165 = .ok (.isub, 1) := by decide +kernel
theorem dL_isOnce_166 : decode cL_isOnce 166 = .ok (.if_icmp .ne 23, 3) := by decide +kernel
theorem dL_isOnce_169 : decode cL_isOnce 169 = .ok (.aload_n 0, 1) := by decide +kernel
theorem dL_isOnce_170 : decode cL_isOnce 170 = .ok (.iload_n 1, 1) := by decide +kernel
theorem dL_isOnce_171 : decode cL_isOnce 171 = .ok (.invokevirtual 109, 3) := by decide +kernel
theorem dL_isOnce_174 : decode cL_isOnce 174 = .ok (.ifCond .eq 11, 3) := by decide +kernel
theorem dL_isOnce_177 : decode cL_isOnce 177 = .ok (.aload_n 0, 1) := by decide +kernel
theorem dL_isOnce_178 : decode cL_isOnce 178 = .ok (.iload_n 1, 1) := by decide +kernel
theorem dL_isOnce_179 : decode cL_isOnce 179 = .ok (.invokevirtual 106, 3) := by decide +kernel
theorem dL_isOnce_182 : decode cL_isOnce 182 = .ok (.ifCond .le 7, 3) := by decide +kernel
theorem dL_isOnce_185 : decode cL_isOnce 185 = .ok (.iconst 1, 1) := by decide +kernel
theorem dL_isOnce_186 : decode cL_isOnce 186 = .ok (.goto 4, 3) := by decide +kernel
theorem dL_isOnce_189 : decode cL_isOnce 189 = .ok (.iconst 0, 1) := by decide +kernel
theorem dL_isOnce_190 : decode cL_isOnce 190 = .ok (.ireturn, 1) := by decide +kernel
set_option maxRecDepth 20000 in
theorem ggL_isPaidSo_X4_owed : GoodIn wsL_isPaidSo wsX4_owed := goodIn_ca (goodIn_r _ [5, 6, 7, 8, 4, 9, 10, 11, 12, 13, 14, 15, 16, 17, 18, 19, 20, 21, 22, 23, 24, 25, 26, 27, 28, 29, 30, 31, 32, 33, 34, 35, 36, 37, 38, 39, 40, 41, 42, 43, 44, 45, 46, 47, 48, 49, 50, 51, 52, 53, 54, 55, 56, 57, 58, 59, 60, 61, 62, 63, 64, 65, 66, 67, 68, 69, 70, 71, 72, 97, 98, 99, 100, 101, 102, 103, 104, 105, 106, 107, 108, 109, 110, 111, 112, 113, 114, 115, 116, 117, 118, 119, 120, 121, 122, 123] (by decide +kernel) (by decide +kernel)) (goodIn_sub (fun _ h => List.mem_cons_of_mem _ (List.mem_append_left _ (List.mem_append_right _ h))) (by decide +kernel))
set_option maxRecDepth 20000 in
theorem gL_isPaidSo_X4_owed : GoodIn wsL_isPaidSo (wsV RL 106 RX4 yX4_owed wsX4_owed) := goodIn_app (goodIn_of _ (by decide +kernel)) ggL_isPaidSo_X4_owed
set_option maxRecDepth 20000 in
theorem ggL_isPaidSo_X4_paid : GoodIn wsL_isPaidSo wsX4_paid := goodIn_ca (goodIn_r _ [76, 19, 6, 7, 8, 4, 9, 10, 11, 12, 106, 107, 108, 109, 110, 111, 112, 113, 114, 115, 116, 97, 98, 99, 100, 101, 102, 103, 104, 105] (by decide +kernel) (by decide +kernel)) (goodIn_sub (fun _ h => List.mem_cons_of_mem _ (List.mem_append_left _ (List.mem_append_right _ h))) (by decide +kernel))
set_option maxRecDepth 20000 in
theorem gL_isPaidSo_X4_paid : GoodIn wsL_isPaidSo (wsV RL 103 RX4 yX4_paid wsX4_paid) := goodIn_app (goodIn_of _ (by decide +kernel)) ggL_isPaidSo_X4_paid
set_option maxRecDepth 20000 in
theorem ggL_isPaidSo_X4_pay : GoodIn wsL_isPaidSo wsX4_pay := goodIn_ca (goodIn_ca (goodIn_r _ [80, 81, 82, 83, 19, 84, 85, 6, 7, 8, 4, 9, 10, 11, 12, 86, 87, 88, 13, 14, 15, 16, 17, 18, 20, 21, 22, 23, 24, 25, 26, 27, 28, 29, 30, 31, 32, 33, 34, 35, 36, 37, 38, 39, 40, 41, 42, 43, 44, 45, 46, 47, 48, 49, 50, 51, 52, 53, 54, 55, 56, 57, 58, 59, 60, 61, 62, 63, 64, 65, 66, 67, 68, 69, 70, 71, 72, 106, 107, 108, 109, 110, 111, 112, 113, 114, 115, 116, 124, 125, 126, 127, 128, 97, 98, 99, 100, 101, 102, 103, 104, 105, 117, 118, 119, 120, 121, 122, 123] (by decide +kernel) (by decide +kernel)) (goodIn_sub (fun _ h => List.mem_cons_of_mem _ (List.mem_append_right _ h)) (by decide +kernel))) (goodIn_sub (fun _ h => List.mem_cons_of_mem _ (List.mem_append_left _ (List.mem_append_right _ h))) (by decide +kernel))
set_option maxRecDepth 20000 in
theorem gL_isPaidSo_X4_pay : GoodIn wsL_isPaidSo (wsV RL 37 RX4 yX4_pay wsX4_pay) := goodIn_app (goodIn_of _ (by decide +kernel)) ggL_isPaidSo_X4_pay
set_option maxRecDepth 20000 in
theorem ggL_isPaidSo_X4_charged : GoodIn wsL_isPaidSo wsX4_charged := goodIn_ca (goodIn_ca (goodIn_r _ [92, 81, 82, 6, 7, 8, 4, 9, 10, 11, 12, 86, 87, 88, 24, 25, 26, 27, 28, 29, 30, 31, 32, 33, 34, 35, 36, 37, 38, 39, 40, 41, 42, 43, 44, 45, 46, 47, 48, 49, 50, 51, 52, 53, 97, 98, 99, 100, 101, 102, 103, 104, 105, 106, 107, 108, 109, 110, 111, 112, 113, 114, 115, 116, 117, 118, 119] (by decide +kernel) (by decide +kernel)) (goodIn_sub (fun _ h => List.mem_cons_of_mem _ (List.mem_append_right _ h)) (by decide +kernel))) (goodIn_sub (fun _ h => List.mem_cons_of_mem _ (List.mem_append_left _ (List.mem_append_right _ h))) (by decide +kernel))
set_option maxRecDepth 20000 in
theorem gL_isPaidSo_X4_charged : GoodIn wsL_isPaidSo (wsV RL 97 RX4 yX4_charged wsX4_charged) := goodIn_app (goodIn_of _ (by decide +kernel)) ggL_isPaidSo_X4_charged
set_option maxRecDepth 20000 in
theorem ggL_isPaidSo_X4_charge : GoodIn wsL_isPaidSo wsX4_charge := goodIn_ca (goodIn_ca (goodIn_r _ [96, 81, 82, 83, 32, 33, 6, 7, 8, 4, 9, 10, 11, 12, 86, 87, 88, 106, 107, 108, 109, 110, 111, 112, 113, 114, 115, 116, 97, 98, 99, 100, 101, 102, 103, 104, 105] (by decide +kernel) (by decide +kernel)) (goodIn_sub (fun _ h => List.mem_cons_of_mem _ (List.mem_append_right _ h)) (by decide +kernel))) (goodIn_sub (fun _ h => List.mem_cons_of_mem _ (List.mem_append_left _ (List.mem_append_right _ h))) (by decide +kernel))
set_option maxRecDepth 20000 in
theorem gL_isPaidSo_X4_charge : GoodIn wsL_isPaidSo (wsV RL 30 RX4 yX4_charge wsX4_charge) := goodIn_app (goodIn_of _ (by decide +kernel)) ggL_isPaidSo_X4_charge
theorem dL_isPaidSo_0 : decode cL_isPaidSo 0 = .ok (.aload_n 0, 1) := by decide +kernel
theorem dL_isPaidSo_1 : decode cL_isPaidSo 1 = .ok (.iload_n 2, 1) := by decide +kernel
theorem dL_isPaidSo_2 : decode cL_isPaidSo 2 = .ok (.invokevirtual 106, 3) := by decide +kernel
theorem dL_isPaidSo_5 : decode cL_isPaidSo 5 = .ok (.istore 4, 2) := by decide +kernel
theorem dL_isPaidSo_7 : decode cL_isPaidSo 7 = .ok (.aload_n 0, 1) := by decide +kernel
theorem dL_isPaidSo_8 : decode cL_isPaidSo 8 = .ok (.iload_n 2, 1) := by decide +kernel
theorem dL_isPaidSo_9 : decode cL_isPaidSo 9 = .ok (.invokevirtual 103, 3) := by decide +kernel
theorem dL_isPaidSo_12 : decode cL_isPaidSo 12 = .ok (.istore 5, 2) := by decide +kernel
theorem dL_isPaidSo_14 : decode cL_isPaidSo 14 = .ok (.aload_n 0, 1) := by decide +kernel
theorem dL_isPaidSo_15 : decode cL_isPaidSo 15 = .ok (.iload_n 2, 1) := by decide +kernel
theorem dL_isPaidSo_16 : decode cL_isPaidSo 16 = .ok (.iload_n 3, 1) := by decide +kernel
theorem dL_isPaidSo_17 : decode cL_isPaidSo 17 = .ok (.invokevirtual 37, 3) := by decide +kernel
theorem dL_isPaidSo_20 : decode cL_isPaidSo 20 = .ok (.iload 4, 2) := by decide +kernel
theorem dL_isPaidSo_22 : decode cL_isPaidSo 22 = .ok (.iload_n 3, 1) := by decide +kernel
theorem dL_isPaidSo_23 : decode cL_isPaidSo 23 = .ok (.isub, 1) := by decide +kernel
theorem dL_isPaidSo_24 : decode cL_isPaidSo 24 = .ok (.if_icmp .ne 32, 3) := by decide +kernel
theorem dL_isPaidSo_27 : decode cL_isPaidSo 27 = .ok (.aload_n 1, 1) := by decide +kernel
theorem dL_isPaidSo_28 : decode cL_isPaidSo 28 = .ok (.iload_n 2, 1) := by decide +kernel
theorem dL_isPaidSo_29 : decode cL_isPaidSo 29 = .ok (.iload_n 3, 1) := by decide +kernel
theorem dL_isPaidSo_30 : decode cL_isPaidSo 30 = .ok (.invokevirtual 37, 3) := by decide +kernel
theorem dL_isPaidSo_33 : decode cL_isPaidSo 33 = .ok (.iload 4, 2) := by decide +kernel
theorem dL_isPaidSo_35 : decode cL_isPaidSo 35 = .ok (.iload_n 3, 1) := by decide +kernel
theorem dL_isPaidSo_36 : decode cL_isPaidSo 36 = .ok (.isub, 1) := by decide +kernel
theorem dL_isPaidSo_37 : decode cL_isPaidSo 37 = .ok (.if_icmp .ne 19, 3) := by decide +kernel
theorem dL_isPaidSo_40 : decode cL_isPaidSo 40 = .ok (.aload_n 0, 1) := by decide +kernel
theorem dL_isPaidSo_41 : decode cL_isPaidSo 41 = .ok (.iload_n 2, 1) := by decide +kernel
theorem dL_isPaidSo_42 : decode cL_isPaidSo 42 = .ok (.invokevirtual 103, 3) := by decide +kernel
theorem dL_isPaidSo_45 : decode cL_isPaidSo 45 = .ok (.iload 5, 2) := by decide +kernel
theorem dL_isPaidSo_47 : decode cL_isPaidSo 47 = .ok (.iload_n 3, 1) := by decide +kernel
theorem dL_isPaidSo_48 : decode cL_isPaidSo 48 = .ok (.iadd, 1) := by decide +kernel
theorem dL_isPaidSo_49 : decode cL_isPaidSo 49 = .ok (.if_icmp .ne 7, 3) := by decide +kernel
theorem dL_isPaidSo_52 : decode cL_isPaidSo 52 = .ok (.iconst 1, 1) := by decide +kernel
theorem dL_isPaidSo_53 : decode cL_isPaidSo 53 = .ok (.goto 4, 3) := by decide +kernel
theorem dL_isPaidSo_56 : decode cL_isPaidSo 56 = .ok (.iconst 0, 1) := by decide +kernel
theorem dL_isPaidSo_57 : decode cL_isPaidSo 57 = .ok (.istore 6, 2) := by decide +kernel
theorem dL_isPaidSo_59 : decode cL_isPaidSo 59 = .ok (.aload_n 0, 1) := by decide +kernel
theorem dL_isPaidSo_60 : decode cL_isPaidSo 60 = .ok (.iload_n 2, 1) := by decide +kernel
theorem dL_isPaidSo_61 : decode cL_isPaidSo 61 = .ok (.iconst 2, 1) := by decide +kernel
theorem dL_isPaidSo_62 : decode cL_isPaidSo 62 = .ok (.invokevirtual 97, 3) := by decide +kernel
