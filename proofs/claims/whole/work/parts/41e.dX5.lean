theorem dX5_step_397 : decode cX5_step 397 = .ok (.if_icmp .ne 8, 3) := by decide +kernel
theorem dX5_step_400 : decode cX5_step 400 = .ok (.iload 9, 2) := by decide +kernel
theorem dX5_step_402 : decode cX5_step 402 = .ok (.goto 5, 3) := by decide +kernel
theorem dX5_step_405 : decode cX5_step 405 = .ok (.iload 5, 2) := by decide +kernel
theorem dX5_step_407 : decode cX5_step 407 = .ok (.istore 5, 2) := by decide +kernel
theorem dX5_step_409 : decode cX5_step 409 = .ok (.goto 81, 3) := by decide +kernel
theorem dX5_step_412 : decode cX5_step 412 = .ok (.iinc 3 (-1), 3) := by decide +kernel
theorem dX5_step_415 : decode cX5_step 415 = .ok (.iload 6, 2) := by decide +kernel
theorem dX5_step_417 : decode cX5_step 417 = .ok (.bipush 13, 2) := by decide +kernel
theorem dX5_step_419 : decode cX5_step 419 = .ok (.if_icmp .ne 8, 3) := by decide +kernel
theorem dX5_step_422 : decode cX5_step 422 = .ok (.iload 9, 2) := by decide +kernel
theorem dX5_step_424 : decode cX5_step 424 = .ok (.goto 5, 3) := by decide +kernel
theorem dX5_step_427 : decode cX5_step 427 = .ok (.iload 5, 2) := by decide +kernel
theorem dX5_step_429 : decode cX5_step 429 = .ok (.istore 5, 2) := by decide +kernel
theorem dX5_step_431 : decode cX5_step 431 = .ok (.goto 59, 3) := by decide +kernel
theorem dX5_step_434 : decode cX5_step 434 = .ok (.iinc 2 (-1), 3) := by decide +kernel
theorem dX5_step_437 : decode cX5_step 437 = .ok (.goto 53, 3) := by decide +kernel
theorem dX5_step_440 : decode cX5_step 440 = .ok (.iinc 2 (-1), 3) := by decide +kernel
theorem dX5_step_443 : decode cX5_step 443 = .ok (.iload 6, 2) := by decide +kernel
theorem dX5_step_445 : decode cX5_step 445 = .ok (.bipush 6, 2) := by decide +kernel
theorem dX5_step_447 : decode cX5_step 447 = .ok (.if_icmp .ne 16, 3) := by decide +kernel
theorem dX5_step_450 : decode cX5_step 450 = .ok (.aload_n 0, 1) := by decide +kernel
theorem dX5_step_451 : decode cX5_step 451 = .ok (.getfield 79, 3) := by decide +kernel
theorem dX5_step_454 : decode cX5_step 454 = .ok (.iload_n 2, 1) := by decide +kernel
theorem dX5_step_455 : decode cX5_step 455 = .ok (.laload, 1) := by decide +kernel
theorem dX5_step_456 : decode cX5_step 456 = .ok (.lconst 0, 1) := by decide +kernel
theorem dX5_step_457 : decode cX5_step 457 = .ok (.lcmp, 1) := by decide +kernel
theorem dX5_step_458 : decode cX5_step 458 = .ok (.ifCond .ne 5, 3) := by decide +kernel
theorem dX5_step_461 : decode cX5_step 461 = .ok (.iconst 2, 1) := by decide +kernel
theorem dX5_step_462 : decode cX5_step 462 = .ok (.ireturn, 1) := by decide +kernel
theorem dX5_step_463 : decode cX5_step 463 = .ok (.aload_n 0, 1) := by decide +kernel
theorem dX5_step_464 : decode cX5_step 464 = .ok (.getfield 79, 3) := by decide +kernel
theorem dX5_step_467 : decode cX5_step 467 = .ok (.iload_n 2, 1) := by decide +kernel
theorem dX5_step_468 : decode cX5_step 468 = .ok (.iconst 1, 1) := by decide +kernel
theorem dX5_step_469 : decode cX5_step 469 = .ok (.isub, 1) := by decide +kernel
theorem dX5_step_470 : decode cX5_step 470 = .ok (.iload 6, 2) := by decide +kernel
theorem dX5_step_472 : decode cX5_step 472 = .ok (.aload_n 0, 1) := by decide +kernel
theorem dX5_step_473 : decode cX5_step 473 = .ok (.getfield 79, 3) := by decide +kernel
theorem dX5_step_476 : decode cX5_step 476 = .ok (.iload_n 2, 1) := by decide +kernel
theorem dX5_step_477 : decode cX5_step 477 = .ok (.iconst 1, 1) := by decide +kernel
theorem dX5_step_478 : decode cX5_step 478 = .ok (.isub, 1) := by decide +kernel
theorem dX5_step_479 : decode cX5_step 479 = .ok (.laload, 1) := by decide +kernel
theorem dX5_step_480 : decode cX5_step 480 = .ok (.aload_n 0, 1) := by decide +kernel
theorem dX5_step_481 : decode cX5_step 481 = .ok (.getfield 79, 3) := by decide +kernel
theorem dX5_step_484 : decode cX5_step 484 = .ok (.iload_n 2, 1) := by decide +kernel
theorem dX5_step_485 : decode cX5_step 485 = .ok (.laload, 1) := by decide +kernel
theorem dX5_step_486 : decode cX5_step 486 = .ok (.invokestatic 142, 3) := by decide +kernel
theorem dX5_step_489 : decode cX5_step 489 = .ok (.lastore, 1) := by decide +kernel
theorem dX5_step_490 : decode cX5_step 490 = .ok (.goto (-480), 3) := by decide +kernel
theorem dX5_step_493 : decode cX5_step 493 = .ok (.iconst 0, 1) := by decide +kernel
theorem dX5_step_494 : decode cX5_step 494 = .ok (.ireturn, 1) := by decide +kernel
set_option maxRecDepth 20000 in
theorem ggX5_run_X5_isNode : GoodIn wsX5_run wsX5_isNode := goodIn_r _ [8, 9, 99, 100, 101, 102, 103, 104, 105, 106, 107, 108, 109, 110, 111, 112, 113, 114, 115, 116, 117, 118, 119, 120, 121, 122, 123, 124, 125, 126, 127, 128, 129, 130, 131] rfl (by decide +kernel)
set_option maxRecDepth 20000 in
theorem gX5_run_X5_isNode : GoodIn wsX5_run (wsV RX5 121 RX5 yX5_isNode wsX5_isNode) := goodIn_app (goodIn_of _ (by decide +kernel)) ggX5_run_X5_isNode
set_option maxRecDepth 20000 in
theorem ggX5_run_X5_made : GoodIn wsX5_run wsX5_made := goodIn_r _ [13, 14, 15, 16, 17, 18, 19, 20, 21, 22, 23, 24, 25, 26, 7, 27, 28, 29, 30, 31, 32, 33, 34, 35, 36, 37, 38, 39, 40, 41, 42, 99, 100, 101, 102, 103, 104, 105, 106, 107, 108, 109, 110, 111, 112, 113, 114, 115, 116, 117, 118, 119, 120, 121, 122, 123, 124, 125, 126, 127, 128, 129, 130, 131] rfl (by decide +kernel)
set_option maxRecDepth 20000 in
theorem gX5_run_X5_made : GoodIn wsX5_run (wsV RX5 170 RX5 yX5_made wsX5_made) := goodIn_app (goodIn_of _ (by decide +kernel)) ggX5_run_X5_made
set_option maxRecDepth 20000 in
theorem ggX5_run_X5_keep : GoodIn wsX5_run wsX5_keep := goodIn_r _ [46, 14, 47, 48, 41, 49, 23, 50, 42, 99, 100, 101, 102, 103, 104, 105, 106, 107, 108, 109, 110, 111, 112, 113, 114, 115, 116, 117, 118, 119, 120, 121, 122, 123, 124, 125, 126, 127, 128, 129, 130, 131] rfl (by decide +kernel)
set_option maxRecDepth 20000 in
theorem gX5_run_X5_keep : GoodIn wsX5_run (wsV RX5 173 RX5 yX5_keep wsX5_keep) := goodIn_app (goodIn_of _ (by decide +kernel)) ggX5_run_X5_keep
set_option maxRecDepth 20000 in
theorem ggX5_run_X5_step : GoodIn wsX5_run wsX5_step := goodIn_r _ [54, 14, 41, 23, 55, 56, 57, 58, 59, 60, 7, 61, 62, 63, 64, 65, 66, 67, 68, 69, 70, 71, 72, 73, 74, 75, 76, 77, 78, 79, 80, 81, 82, 83, 84, 85, 86, 87, 88, 89, 90, 91, 92, 93, 94, 95, 96, 97, 98, 99, 100, 101, 102, 103, 104, 105, 106, 107, 108, 109, 110, 111, 112, 113, 114, 115, 116, 117, 118, 119, 120, 121, 122, 123, 124, 125, 126, 127, 128, 129, 130, 131] rfl (by decide +kernel)
set_option maxRecDepth 20000 in
theorem gX5_run_X5_step : GoodIn wsX5_run (wsV RX5 193 RX5 yX5_step wsX5_step) := goodIn_app (goodIn_of _ (by decide +kernel)) ggX5_run_X5_step
theorem dX5_run_0 : decode cX5_run 0 = .ok (.aload_n 0, 1) := by decide +kernel
theorem dX5_run_1 : decode cX5_run 1 = .ok (.iconst 0, 1) := by decide +kernel
theorem dX5_run_2 : decode cX5_run 2 = .ok (.putfield 85, 3) := by decide +kernel
theorem dX5_run_5 : decode cX5_run 5 = .ok (.aload_n 0, 1) := by decide +kernel
theorem dX5_run_6 : decode cX5_run 6 = .ok (.iload_n 2, 1) := by decide +kernel
theorem dX5_run_7 : decode cX5_run 7 = .ok (.invokevirtual 121, 3) := by decide +kernel
theorem dX5_run_10 : decode cX5_run 10 = .ok (.ifCond .ne 5, 3) := by decide +kernel
theorem dX5_run_13 : decode cX5_run 13 = .ok (.iconst 0, 1) := by decide +kernel
theorem dX5_run_14 : decode cX5_run 14 = .ok (.ireturn, 1) := by decide +kernel
theorem dX5_run_15 : decode cX5_run 15 = .ok (.aload_n 0, 1) := by decide +kernel
theorem dX5_run_16 : decode cX5_run 16 = .ok (.iload_n 2, 1) := by decide +kernel
theorem dX5_run_17 : decode cX5_run 17 = .ok (.invokevirtual 170, 3) := by decide +kernel
theorem dX5_run_20 : decode cX5_run 20 = .ok (.istore_n 3, 1) := by decide +kernel
theorem dX5_run_21 : decode cX5_run 21 = .ok (.iload_n 1, 1) := by decide +kernel
theorem dX5_run_22 : decode cX5_run 22 = .ok (.ifCond .eq 9, 3) := by decide +kernel
theorem dX5_run_25 : decode cX5_run 25 = .ok (.aload_n 0, 1) := by decide +kernel
theorem dX5_run_26 : decode cX5_run 26 = .ok (.iload_n 3, 1) := by decide +kernel
theorem dX5_run_27 : decode cX5_run 27 = .ok (.invokevirtual 173, 3) := by decide +kernel
theorem dX5_run_30 : decode cX5_run 30 = .ok (.pop, 1) := by decide +kernel
theorem dX5_run_31 : decode cX5_run 31 = .ok (.iload_n 3, 1) := by decide +kernel
theorem dX5_run_32 : decode cX5_run 32 = .ok (.ifCond .ne 5, 3) := by decide +kernel
theorem dX5_run_35 : decode cX5_run 35 = .ok (.iconst 0, 1) := by decide +kernel
theorem dX5_run_36 : decode cX5_run 36 = .ok (.ireturn, 1) := by decide +kernel
theorem dX5_run_37 : decode cX5_run 37 = .ok (.aload_n 0, 1) := by decide +kernel
theorem dX5_run_38 : decode cX5_run 38 = .ok (.iload_n 1, 1) := by decide +kernel
theorem dX5_run_39 : decode cX5_run 39 = .ok (.ifCond .eq 7, 3) := by decide +kernel
theorem dX5_run_42 : decode cX5_run 42 = .ok (.iconst 1, 1) := by decide +kernel
theorem dX5_run_43 : decode cX5_run 43 = .ok (.goto 4, 3) := by decide +kernel
theorem dX5_run_46 : decode cX5_run 46 = .ok (.iconst 0, 1) := by decide +kernel
theorem dX5_run_47 : decode cX5_run 47 = .ok (.invokevirtual 193, 3) := by decide +kernel
theorem dX5_run_50 : decode cX5_run 50 = .ok (.istore 4, 2) := by decide +kernel
theorem dX5_run_52 : decode cX5_run 52 = .ok (.iload_n 1, 1) := by decide +kernel
theorem dX5_run_53 : decode cX5_run 53 = .ok (.ifCond .eq 12, 3) := by decide +kernel
theorem dX5_run_56 : decode cX5_run 56 = .ok (.aload_n 0, 1) := by decide +kernel
theorem dX5_run_57 : decode cX5_run 57 = .ok (.iload 4, 2) := by decide +kernel
theorem dX5_run_59 : decode cX5_run 59 = .ok (.putfield 197, 3) := by decide +kernel
theorem dX5_run_62 : decode cX5_run 62 = .ok (.goto 9, 3) := by decide +kernel
theorem dX5_run_65 : decode cX5_run 65 = .ok (.aload_n 0, 1) := by decide +kernel
theorem dX5_run_66 : decode cX5_run 66 = .ok (.iload 4, 2) := by decide +kernel
theorem dX5_run_68 : decode cX5_run 68 = .ok (.putfield 200, 3) := by decide +kernel
theorem dX5_run_71 : decode cX5_run 71 = .ok (.iload 4, 2) := by decide +kernel
theorem dX5_run_73 : decode cX5_run 73 = .ok (.ifCond .le 7, 3) := by decide +kernel
theorem dX5_run_76 : decode cX5_run 76 = .ok (.iconst 2, 1) := by decide +kernel
theorem dX5_run_77 : decode cX5_run 77 = .ok (.goto 4, 3) := by decide +kernel
theorem dX5_run_80 : decode cX5_run 80 = .ok (.iconst 1, 1) := by decide +kernel
theorem dX5_run_81 : decode cX5_run 81 = .ok (.ireturn, 1) := by decide +kernel
set_option maxRecDepth 20000 in
theorem ggX5_same_X5_isNode : GoodIn wsX5_same wsX5_isNode := goodIn_r _ [6, 7, 49, 50, 51, 52, 53, 54, 55, 56, 57, 58, 59, 60, 61, 62, 63, 64, 65, 66, 67, 68, 69, 70, 71, 72, 73, 74, 75, 76, 77, 78, 79, 80, 81] rfl (by decide +kernel)
set_option maxRecDepth 20000 in
theorem gX5_same_X5_isNode : GoodIn wsX5_same (wsV RX5 121 RX5 yX5_isNode wsX5_isNode) := goodIn_app (goodIn_of _ (by decide +kernel)) ggX5_same_X5_isNode
set_option maxRecDepth 20000 in
theorem ggX5_same_X5_made : GoodIn wsX5_same wsX5_made := goodIn_r _ [11, 12, 13, 14, 15, 16, 17, 18, 19, 20, 21, 22, 23, 24, 5, 25, 26, 27, 28, 29, 30, 31, 32, 33, 34, 35, 36, 37, 38, 39, 40, 49, 50, 51, 52, 53, 54, 55, 56, 57, 58, 59, 60, 61, 62, 63, 64, 65, 66, 67, 68, 69, 70, 71, 72, 73, 74, 75, 76, 77, 78, 79, 80, 81] rfl (by decide +kernel)
set_option maxRecDepth 20000 in
theorem gX5_same_X5_made : GoodIn wsX5_same (wsV RX5 170 RX5 yX5_made wsX5_made) := goodIn_app (goodIn_of _ (by decide +kernel)) ggX5_same_X5_made
set_option maxRecDepth 20000 in
theorem ggX5_same_X5_keep : GoodIn wsX5_same wsX5_keep := goodIn_r _ [44, 12, 45, 46, 39, 47, 21, 48, 40, 49, 50, 51, 52, 53, 54, 55, 56, 57, 58, 59, 60, 61, 62, 63, 64, 65, 66, 67, 68, 69, 70, 71, 72, 73, 74, 75, 76, 77, 78, 79, 80, 81] rfl (by decide +kernel)
set_option maxRecDepth 20000 in
theorem gX5_same_X5_keep : GoodIn wsX5_same (wsV RX5 173 RX5 yX5_keep wsX5_keep) := goodIn_app (goodIn_of _ (by decide +kernel)) ggX5_same_X5_keep
theorem dX5_same_0 : decode cX5_same 0 = .ok (.aload_n 0, 1) := by decide +kernel
theorem dX5_same_1 : decode cX5_same 1 = .ok (.iconst 0, 1) := by decide +kernel
theorem dX5_same_2 : decode cX5_same 2 = .ok (.putfield 85, 3) := by decide +kernel
theorem dX5_same_5 : decode cX5_same 5 = .ok (.aload_n 0, 1) := by decide +kernel
theorem dX5_same_6 : decode cX5_same 6 = .ok (.iload_n 1, 1) := by decide +kernel
theorem dX5_same_7 : decode cX5_same 7 = .ok (.invokevirtual 121, 3) := by decide +kernel
theorem dX5_same_10 : decode cX5_same 10 = .ok (.ifCond .ne 5, 3) := by decide +kernel
theorem dX5_same_13 : decode cX5_same 13 = .ok (.iconst 0, 1) := by decide +kernel
theorem dX5_same_14 : decode cX5_same 14 = .ok (.ireturn, 1) := by decide +kernel
theorem dX5_same_15 : decode cX5_same 15 = .ok (.aload_n 0, 1) := by decide +kernel
theorem dX5_same_16 : decode cX5_same 16 = .ok (.iload_n 1, 1) := by decide +kernel
theorem dX5_same_17 : decode cX5_same 17 = .ok (.invokevirtual 170, 3) := by decide +kernel
theorem dX5_same_20 : decode cX5_same 20 = .ok (.istore_n 2, 1) := by decide +kernel
theorem dX5_same_21 : decode cX5_same 21 = .ok (.aload_n 0, 1) := by decide +kernel
theorem dX5_same_22 : decode cX5_same 22 = .ok (.iload_n 2, 1) := by decide +kernel
theorem dX5_same_23 : decode cX5_same 23 = .ok (.invokevirtual 173, 3) := by decide +kernel
theorem dX5_same_26 : decode cX5_same 26 = .ok (.pop, 1) := by decide +kernel
theorem dX5_same_27 : decode cX5_same 27 = .ok (.iload_n 2, 1) := by decide +kernel
theorem dX5_same_28 : decode cX5_same 28 = .ok (.ireturn, 1) := by decide +kernel
theorem dX5_code_0 : decode cX5_code 0 = .ok (.aload_n 0, 1) := by decide +kernel
theorem dX5_code_1 : decode cX5_code 1 = .ok (.iconst 0, 1) := by decide +kernel
theorem dX5_code_2 : decode cX5_code 2 = .ok (.putfield 85, 3) := by decide +kernel
theorem dX5_code_5 : decode cX5_code 5 = .ok (.iload_n 1, 1) := by decide +kernel
theorem dX5_code_6 : decode cX5_code 6 = .ok (.ifCond .lt 11, 3) := by decide +kernel
theorem dX5_code_9 : decode cX5_code 9 = .ok (.iload_n 1, 1) := by decide +kernel
theorem dX5_code_10 : decode cX5_code 10 = .ok (.aload_n 0, 1) := by decide +kernel
theorem dX5_code_11 : decode cX5_code 11 = .ok (.getfield 167, 3) := by decide +kernel
theorem dX5_code_14 : decode cX5_code 14 = .ok (.if_icmp .lt 5, 3) := by decide +kernel
theorem dX5_code_17 : decode cX5_code 17 = .ok (.iconst (-1), 1) := by decide +kernel
theorem dX5_code_18 : decode cX5_code 18 = .ok (.ireturn, 1) := by decide +kernel
theorem dX5_code_19 : decode cX5_code 19 = .ok (.iload_n 2, 1) := by decide +kernel
theorem dX5_code_20 : decode cX5_code 20 = .ok (.ifCond .ne 12, 3) := by decide +kernel
theorem dX5_code_23 : decode cX5_code 23 = .ok (.aload_n 0, 1) := by decide +kernel
theorem dX5_code_24 : decode cX5_code 24 = .ok (.getfield 46, 3) := by decide +kernel
theorem dX5_code_27 : decode cX5_code 27 = .ok (.iload_n 1, 1) := by decide +kernel
theorem dX5_code_28 : decode cX5_code 28 = .ok (.iaload, 1) := by decide +kernel
theorem dX5_code_29 : decode cX5_code 29 = .ok (.goto 19, 3) := by decide +kernel
theorem dX5_code_32 : decode cX5_code 32 = .ok (.iload_n 2, 1) := by decide +kernel
theorem dX5_code_33 : decode cX5_code 33 = .ok (.iconst 1, 1) := by decide +kernel
theorem dX5_code_34 : decode cX5_code 34 = .ok (.if_icmp .ne 13, 3) := by decide +kernel
theorem dX5_code_37 : decode cX5_code 37 = .ok (.aload_n 0, 1) := by decide +kernel
theorem dX5_code_38 : decode cX5_code 38 = .ok (.getfield 58, 3) := by decide +kernel
theorem dX5_code_41 : decode cX5_code 41 = .ok (.iload_n 1, 1) := by decide +kernel
theorem dX5_code_42 : decode cX5_code 42 = .ok (.laload, 1) := by decide +kernel
theorem dX5_code_43 : decode cX5_code 43 = .ok (.l2i, 1) := by decide +kernel
theorem dX5_code_44 : decode cX5_code 44 = .ok (.goto 4, 3) := by decide +kernel
theorem dX5_code_47 : decode cX5_code 47 = .ok (.iconst (-1), 1) := by decide +kernel
theorem dX5_code_48 : decode cX5_code 48 = .ok (.ireturn, 1) := by decide +kernel
theorem dX5_fast_0 : decode cX5_fast 0 = .ok (.aload_n 0, 1) := by decide +kernel
theorem dX5_fast_1 : decode cX5_fast 1 = .ok (.iconst 0, 1) := by decide +kernel
theorem dX5_fast_2 : decode cX5_fast 2 = .ok (.putfield 85, 3) := by decide +kernel
theorem dX5_fast_5 : decode cX5_fast 5 = .ok (.iload_n 1, 1) := by decide +kernel
theorem dX5_fast_6 : decode cX5_fast 6 = .ok (.ifCond .lt 47, 3) := by decide +kernel
theorem dX5_fast_9 : decode cX5_fast 9 = .ok (.iload_n 1, 1) := by decide +kernel
theorem dX5_fast_10 : decode cX5_fast 10 = .ok (.aload_n 0, 1) := by decide +kernel
theorem dX5_fast_11 : decode cX5_fast 11 = .ok (.getfield 167, 3) := by decide +kernel
theorem dX5_fast_14 : decode cX5_fast 14 = .ok (.if_icmp .ge 39, 3) := by decide +kernel
theorem dX5_fast_17 : decode cX5_fast 17 = .ok (.aload_n 0, 1) := by decide +kernel
theorem dX5_fast_18 : decode cX5_fast 18 = .ok (.getfield 46, 3) := by decide +kernel
